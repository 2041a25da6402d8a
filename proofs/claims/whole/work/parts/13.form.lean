def f_Fo_isFirstOfTwo (a0 : Int64) : Bool :=
  if (f_Fi_isTwoPlaces a0) = true then
    if (9 : Int32) < (f_Fi_target a0) then
      false
    else
      if (f_Fi_offset a0) = 0 then
        if (f_Fi_source a0) = 0 then
          true
        else
          if (f_Fi_source a0) = (1 : Int32) then
            if (f_Fi_immediate a0) < 0 then
              false
            else
              true
          else
            false
      else
        false
  else
    false
set_option maxHeartbeats 4000000 in
set_option maxRecDepth 100000 in
theorem c_Fo_isFirstOfTwo (l : Launch) (Hp : Heap) (a0 : Int64) : Met l yFo_isFirstOfTwo wsFo_isFirstOfTwo ({ frames := 2, cells := 0, slots := 0, locals := 42 }) (va_Pc [.long a0] (fun U => U.heap = Hp)) (va_Qi (fun (r : Int32) (_ : Unit) => r = (bI (f_Fo_isFirstOfTwo a0))) (fun _ t => t.heap = Hp) (fun _ => False)) 0 0 (fun _ => False) := by
  refine Met.ofW (cc := cFo_isFirstOfTwo) (maxL := 3) (ret := (some .boolean)) (by decide) rfl ?_
  intro p e s m args below meth c s₁ B hml hv
  obtain ⟨rfl, rfl⟩ := hv
  have hx := B.exec
  have hb := B.bytes
  have hr := B.returns
  have hT : ∀ w ∈ tB, w.before _ s = true := fun w h => atoms_spec (ws := wsFo_isFirstOfTwo) B.pre w (List.mem_cons_of_mem _ h)
  have hown : s.vm.findClass "CompiledProgram$Form" = some m.cls := findClass_of_methodNamed B.named
  have hlocks := B.notSynchronized
  have hS : va_S (fun _ => False) s.heap s.heap [] := va_S.rf
  have hl := lv_entry ([.long a0]) (n := 3) (Nat.le_of_ble_eq_true rfl)
  rw [lg_entry_eq]
  generalize (lg_sl ([.long a0]) ++ List.replicate (3 - (lg_sl ([.long a0])).length) Slot.unset).toArray = ls at hl ⊢
  have hl : lv_has ls 3 [(0, .long a0)] := hl
  refine lv_lload_n hx hb dFo_isFirstOfTwo_0 rfl (lv_at hl 0 rfl) ?_
  refine va_calli (va_runS (As := [.long a0]) (rest := []) ⟨hx, hb, hml, hown, hT⟩ (c_Fi_source l s.heap a0) (va_cwS 1 hT (gB_SV mw_137 mw_138 mw_16 mw_139) rfl rfl rfl (by decide +kernel) ⟨Nat.le_of_ble_eq_true rfl, Nat.le_of_ble_eq_true rfl⟩) ⟨fun _ _ _ _ q => q, fun U hU hW => ⟨rfl, hU⟩⟩ rfl rfl hl.1 rfl (lv_room (Nat.le_of_ble_eq_true rfl)) dFo_isFirstOfTwo_1 ⟨Nat.zero_le _, Nat.zero_le _⟩) hS (fun _ _ h => h.elim) (fun _ h => h.elim) (fun r u t H1 locs ht hvm hw hB hz8 hk8 hS => ?_)
  obtain rfl : s.heap = H1 := hB.symm.trans ht
  subst hw
  refine lv_istore_n (lv' := [(2, .int (f_Fi_source a0)), (0, .long a0)]) hx hb dFo_isFirstOfTwo_4 rfl hl (by decide) rfl (fun ls hl => ?_)
  refine lv_lload_n hx hb dFo_isFirstOfTwo_5 rfl (lv_at hl 1 rfl) ?_
  refine va_calli (va_runS (As := [.long a0]) (rest := []) ⟨hx, hb, hml, hown, hT⟩ (c_Fi_isTwoPlaces l s.heap a0) (va_cwS 1 hT (gB_SV mw_140 mw_141 mw_16 mw_142) rfl rfl rfl (by decide +kernel) ⟨Nat.le_of_ble_eq_true rfl, Nat.le_of_ble_eq_true rfl⟩) ⟨fun _ _ _ _ q => q, fun U hU hW => ⟨rfl, hU⟩⟩ rfl rfl hl.1 rfl (lv_room (Nat.le_of_ble_eq_true rfl)) dFo_isFirstOfTwo_6 ⟨Nat.zero_le _, Nat.zero_le _⟩) hS (fun _ _ h => h.elim) (fun _ h => h.elim) (fun r u t H1 locs ht hvm hw hB hz8 hk8 hS => ?_)
  obtain rfl : s.heap = H1 := hB.symm.trans ht
  subst hw
  refine lv_if_eq (tgt := 48) hx hb dFo_isFirstOfTwo_9 (by decide) (fun c1 => ?_) (fun c1 => ?_)
  · have c1 := bI_z c1
    refine lv_iconst (v := (0 : Int32)) hx hb dFo_isFirstOfTwo_48 (by decide) ?_
    exact W.zret (v := (0 : Int32)) hx hb hr rfl (fun t ht hW => ⟨⟨(0 : Int32), (), rfl, (by unfold f_Fo_isFirstOfTwo; rw [if_neg c1]; try rfl), ht⟩, hS.F ht⟩) hS.2.2 dFo_isFirstOfTwo_49
  · have c1 := bI_n c1
    refine lv_lload_n hx hb dFo_isFirstOfTwo_12 rfl (lv_at hl 1 rfl) ?_
    refine va_calli (va_runS (As := [.long a0]) (rest := []) ⟨hx, hb, hml, hown, hT⟩ (c_Fi_target l s.heap a0) (va_cwS 1 hT (gB_SV mw_146 mw_147 mw_16 mw_148) rfl rfl rfl (by decide +kernel) ⟨Nat.le_of_ble_eq_true rfl, Nat.le_of_ble_eq_true rfl⟩) ⟨fun _ _ _ _ q => q, fun U hU hW => ⟨rfl, hU⟩⟩ rfl rfl hl.1 rfl (lv_room (Nat.le_of_ble_eq_true rfl)) dFo_isFirstOfTwo_13 ⟨Nat.zero_le _, Nat.zero_le _⟩) hS (fun _ _ h => h.elim) (fun _ h => h.elim) (fun r u t H1 locs ht hvm hw hB hz8 hk8 hS => ?_)
    obtain rfl : s.heap = H1 := hB.symm.trans ht
    subst hw
    refine lv_bipush (v := (9 : Int32)) hx hb dFo_isFirstOfTwo_16 (by decide) ?_
    refine lv_icmp_gt (tgt := 48) hx hb dFo_isFirstOfTwo_18 (by decide) (fun c2 => ?_) (fun c2 => ?_)
    · skip
      refine lv_iconst (v := (0 : Int32)) hx hb dFo_isFirstOfTwo_48 (by decide) ?_
      exact W.zret (v := (0 : Int32)) hx hb hr rfl (fun t ht hW => ⟨⟨(0 : Int32), (), rfl, (by unfold f_Fo_isFirstOfTwo; rw [if_pos c1, if_pos c2]; try rfl), ht⟩, hS.F ht⟩) hS.2.2 dFo_isFirstOfTwo_49
    · skip
      refine lv_lload_n hx hb dFo_isFirstOfTwo_21 rfl (lv_at hl 1 rfl) ?_
      refine va_calli (va_runS (As := [.long a0]) (rest := []) ⟨hx, hb, hml, hown, hT⟩ (c_Fi_offset l s.heap a0) (va_cwS 1 hT (gB_SV mw_149 mw_150 mw_16 mw_151) rfl rfl rfl (by decide +kernel) ⟨Nat.le_of_ble_eq_true rfl, Nat.le_of_ble_eq_true rfl⟩) ⟨fun _ _ _ _ q => q, fun U hU hW => ⟨rfl, hU⟩⟩ rfl rfl hl.1 rfl (lv_room (Nat.le_of_ble_eq_true rfl)) dFo_isFirstOfTwo_22 ⟨Nat.zero_le _, Nat.zero_le _⟩) hS (fun _ _ h => h.elim) (fun _ h => h.elim) (fun r u t H1 locs ht hvm hw hB hz8 hk8 hS => ?_)
      obtain rfl : s.heap = H1 := hB.symm.trans ht
      subst hw
      refine lv_if_ne (tgt := 48) hx hb dFo_isFirstOfTwo_25 (by decide) (fun c3 => ?_) (fun c3 => ?_)
      · skip
        refine lv_iconst (v := (0 : Int32)) hx hb dFo_isFirstOfTwo_48 (by decide) ?_
        exact W.zret (v := (0 : Int32)) hx hb hr rfl (fun t ht hW => ⟨⟨(0 : Int32), (), rfl, (by unfold f_Fo_isFirstOfTwo; rw [if_pos c1, if_neg c2, if_neg c3]; try rfl), ht⟩, hS.F ht⟩) hS.2.2 dFo_isFirstOfTwo_49
      · skip
        refine lv_iload_n hx hb dFo_isFirstOfTwo_28 rfl (lv_at hl 0 rfl) ?_
        refine lv_if_eq (tgt := 44) hx hb dFo_isFirstOfTwo_29 (by decide) (fun c4 => ?_) (fun c4 => ?_)
        · skip
          refine lv_iconst (v := (1 : Int32)) hx hb dFo_isFirstOfTwo_44 (by decide) ?_
          refine lv_goto (tgt := 49) hx hb dFo_isFirstOfTwo_45 (by decide) ?_
          exact W.zret (v := (1 : Int32)) hx hb hr rfl (fun t ht hW => ⟨⟨(1 : Int32), (), rfl, (by unfold f_Fo_isFirstOfTwo; rw [if_pos c1, if_neg c2, if_pos c3, if_pos c4]; try rfl), ht⟩, hS.F ht⟩) hS.2.2 dFo_isFirstOfTwo_49
        · skip
          refine lv_iload_n hx hb dFo_isFirstOfTwo_32 rfl (lv_at hl 0 rfl) ?_
          refine lv_iconst (v := (1 : Int32)) hx hb dFo_isFirstOfTwo_33 (by decide) ?_
          refine lv_icmp_ne (tgt := 48) hx hb dFo_isFirstOfTwo_34 (by decide) (fun c5 => ?_) (fun c5 => ?_)
          · skip
            refine lv_iconst (v := (0 : Int32)) hx hb dFo_isFirstOfTwo_48 (by decide) ?_
            exact W.zret (v := (0 : Int32)) hx hb hr rfl (fun t ht hW => ⟨⟨(0 : Int32), (), rfl, (by unfold f_Fo_isFirstOfTwo; rw [if_pos c1, if_neg c2, if_pos c3, if_neg c4, if_neg c5]; try rfl), ht⟩, hS.F ht⟩) hS.2.2 dFo_isFirstOfTwo_49
          · skip
            refine lv_lload_n hx hb dFo_isFirstOfTwo_37 rfl (lv_at hl 1 rfl) ?_
            refine va_calli (va_runS (As := [.long a0]) (rest := []) ⟨hx, hb, hml, hown, hT⟩ (c_Fi_immediate l s.heap a0) (va_cwS 1 hT (gB_SV mw_152 mw_153 mw_16 mw_154) rfl rfl rfl (by decide +kernel) ⟨Nat.le_of_ble_eq_true rfl, Nat.le_of_ble_eq_true rfl⟩) ⟨fun _ _ _ _ q => q, fun U hU hW => ⟨rfl, hU⟩⟩ rfl rfl hl.1 rfl (lv_room (Nat.le_of_ble_eq_true rfl)) dFo_isFirstOfTwo_38 ⟨Nat.zero_le _, Nat.zero_le _⟩) hS (fun _ _ h => h.elim) (fun _ h => h.elim) (fun r u t H1 locs ht hvm hw hB hz8 hk8 hS => ?_)
            obtain rfl : s.heap = H1 := hB.symm.trans ht
            subst hw
            refine lv_if_lt (tgt := 48) hx hb dFo_isFirstOfTwo_41 (by decide) (fun c6 => ?_) (fun c6 => ?_)
            · skip
              refine lv_iconst (v := (0 : Int32)) hx hb dFo_isFirstOfTwo_48 (by decide) ?_
              exact W.zret (v := (0 : Int32)) hx hb hr rfl (fun t ht hW => ⟨⟨(0 : Int32), (), rfl, (by unfold f_Fo_isFirstOfTwo; rw [if_pos c1, if_neg c2, if_pos c3, if_neg c4, if_pos c5, if_pos c6]; try rfl), ht⟩, hS.F ht⟩) hS.2.2 dFo_isFirstOfTwo_49
            · skip
              refine lv_iconst (v := (1 : Int32)) hx hb dFo_isFirstOfTwo_44 (by decide) ?_
              refine lv_goto (tgt := 49) hx hb dFo_isFirstOfTwo_45 (by decide) ?_
              exact W.zret (v := (1 : Int32)) hx hb hr rfl (fun t ht hW => ⟨⟨(1 : Int32), (), rfl, (by unfold f_Fo_isFirstOfTwo; rw [if_pos c1, if_neg c2, if_pos c3, if_neg c4, if_pos c5, if_neg c6]; try rfl), ht⟩, hS.F ht⟩) hS.2.2 dFo_isFirstOfTwo_49

def f_Fo_isSecondOf (a0 : Int64) (a1 : Int64) : Bool :=
  if ((a1).toInt32) = 0 then
    if (f_Fi_source a0) = 0 then
      true
    else
      if (f_Fi_immediate a1) = 0 then
        true
      else
        false
  else
    false
set_option maxHeartbeats 4000000 in
set_option maxRecDepth 100000 in
theorem c_Fo_isSecondOf (l : Launch) (Hp : Heap) (a0 : Int64) (a1 : Int64) : Met l yFo_isSecondOf wsFo_isSecondOf ({ frames := 1, cells := 0, slots := 0, locals := 21 }) (va_Pc [.long a0, .long a1] (fun U => U.heap = Hp)) (va_Qi (fun (r : Int32) (_ : Unit) => r = (bI (f_Fo_isSecondOf a0 a1))) (fun _ t => t.heap = Hp) (fun _ => False)) 0 0 (fun _ => False) := by
  refine Met.ofW (cc := cFo_isSecondOf) (maxL := 5) (ret := (some .boolean)) (by decide) rfl ?_
  intro p e s m args below meth c s₁ B hml hv
  obtain ⟨rfl, rfl⟩ := hv
  have hx := B.exec
  have hb := B.bytes
  have hr := B.returns
  have hT : ∀ w ∈ tB, w.before _ s = true := fun w h => atoms_spec (ws := wsFo_isSecondOf) B.pre w (List.mem_cons_of_mem _ h)
  have hown : s.vm.findClass "CompiledProgram$Form" = some m.cls := findClass_of_methodNamed B.named
  have hlocks := B.notSynchronized
  have hS : va_S (fun _ => False) s.heap s.heap [] := va_S.rf
  have hl := lv_entry ([.long a0, .long a1]) (n := 5) (Nat.le_of_ble_eq_true rfl)
  rw [lg_entry_eq]
  generalize (lg_sl ([.long a0, .long a1]) ++ List.replicate (5 - (lg_sl ([.long a0, .long a1])).length) Slot.unset).toArray = ls at hl ⊢
  have hl : lv_has ls 5 [(0, .long a0), (2, .long a1)] := hl
  refine lv_lload_n hx hb dFo_isSecondOf_0 rfl (lv_at hl 1 rfl) ?_
  refine lv_l2i hx hb dFo_isSecondOf_1 rfl ?_
  refine lv_if_ne (tgt := 9) hx hb dFo_isSecondOf_2 (by decide) (fun c1 => ?_) (fun c1 => ?_)
  · skip
    refine lv_iconst (v := (0 : Int32)) hx hb dFo_isSecondOf_9 (by decide) ?_
    refine lv_istore (lv' := [(4, .int (0 : Int32)), (0, .long a0), (2, .long a1)]) hx hb dFo_isSecondOf_10 hl (by decide) rfl (fun ls hl => ?_)
    refine lv_iload hx hb dFo_isSecondOf_12 (lv_at hl 0 rfl) ?_
    refine lv_if_eq (tgt := 35) hx hb dFo_isSecondOf_14 (by decide) (fun _ => ?_) (fun c2 => absurd c2 (by decide))
    refine lv_iconst (v := (0 : Int32)) hx hb dFo_isSecondOf_35 (by decide) ?_
    exact W.zret (v := (0 : Int32)) hx hb hr rfl (fun t ht hW => ⟨⟨(0 : Int32), (), rfl, (by unfold f_Fo_isSecondOf; rw [if_neg c1]; try rfl), ht⟩, hS.F ht⟩) hS.2.2 dFo_isSecondOf_36
  · skip
    refine lv_iconst (v := (1 : Int32)) hx hb dFo_isSecondOf_5 (by decide) ?_
    refine lv_goto (tgt := 10) hx hb dFo_isSecondOf_6 (by decide) ?_
    refine lv_istore (lv' := [(4, .int (1 : Int32)), (0, .long a0), (2, .long a1)]) hx hb dFo_isSecondOf_10 hl (by decide) rfl (fun ls hl => ?_)
    refine lv_iload hx hb dFo_isSecondOf_12 (lv_at hl 0 rfl) ?_
    refine lv_if_eq (tgt := 35) hx hb dFo_isSecondOf_14 (by decide) (fun c3 => absurd c3 (by decide)) (fun _ => ?_)
    refine lv_lload_n hx hb dFo_isSecondOf_17 rfl (lv_at hl 1 rfl) ?_
    refine va_calli (va_runS (As := [.long a0]) (rest := []) ⟨hx, hb, hml, hown, hT⟩ (c_Fi_source l s.heap a0) (va_cwS 1 hT (gB_SV mw_137 mw_138 mw_16 mw_139) rfl rfl rfl (by decide +kernel) ⟨Nat.le_of_ble_eq_true rfl, Nat.le_of_ble_eq_true rfl⟩) ⟨fun _ _ _ _ q => q, fun U hU hW => ⟨rfl, hU⟩⟩ rfl rfl hl.1 rfl (lv_room (Nat.le_of_ble_eq_true rfl)) dFo_isSecondOf_18 ⟨Nat.zero_le _, Nat.zero_le _⟩) hS (fun _ _ h => h.elim) (fun _ h => h.elim) (fun r u t H1 locs ht hvm hw hB hz8 hk8 hS => ?_)
    obtain rfl : s.heap = H1 := hB.symm.trans ht
    subst hw
    refine lv_if_eq (tgt := 31) hx hb dFo_isSecondOf_21 (by decide) (fun c4 => ?_) (fun c4 => ?_)
    · skip
      refine lv_iconst (v := (1 : Int32)) hx hb dFo_isSecondOf_31 (by decide) ?_
      refine lv_goto (tgt := 36) hx hb dFo_isSecondOf_32 (by decide) ?_
      exact W.zret (v := (1 : Int32)) hx hb hr rfl (fun t ht hW => ⟨⟨(1 : Int32), (), rfl, (by unfold f_Fo_isSecondOf; rw [if_pos c1, if_pos c4]; try rfl), ht⟩, hS.F ht⟩) hS.2.2 dFo_isSecondOf_36
    · skip
      refine lv_lload_n hx hb dFo_isSecondOf_24 rfl (lv_at hl 2 rfl) ?_
      refine va_calli (va_runS (As := [.long a1]) (rest := []) ⟨hx, hb, hml, hown, hT⟩ (c_Fi_immediate l s.heap a1) (va_cwS 1 hT (gB_SV mw_152 mw_153 mw_16 mw_154) rfl rfl rfl (by decide +kernel) ⟨Nat.le_of_ble_eq_true rfl, Nat.le_of_ble_eq_true rfl⟩) ⟨fun _ _ _ _ q => q, fun U hU hW => ⟨rfl, hU⟩⟩ rfl rfl hl.1 rfl (lv_room (Nat.le_of_ble_eq_true rfl)) dFo_isSecondOf_25 ⟨Nat.zero_le _, Nat.zero_le _⟩) hS (fun _ _ h => h.elim) (fun _ h => h.elim) (fun r u t H1 locs ht hvm hw hB hz8 hk8 hS => ?_)
      obtain rfl : s.heap = H1 := hB.symm.trans ht
      subst hw
      refine lv_if_ne (tgt := 35) hx hb dFo_isSecondOf_28 (by decide) (fun c5 => ?_) (fun c5 => ?_)
      · skip
        refine lv_iconst (v := (0 : Int32)) hx hb dFo_isSecondOf_35 (by decide) ?_
        exact W.zret (v := (0 : Int32)) hx hb hr rfl (fun t ht hW => ⟨⟨(0 : Int32), (), rfl, (by unfold f_Fo_isSecondOf; rw [if_pos c1, if_neg c4, if_neg c5]; try rfl), ht⟩, hS.F ht⟩) hS.2.2 dFo_isSecondOf_36
      · skip
        refine lv_iconst (v := (1 : Int32)) hx hb dFo_isSecondOf_31 (by decide) ?_
        refine lv_goto (tgt := 36) hx hb dFo_isSecondOf_32 (by decide) ?_
        exact W.zret (v := (1 : Int32)) hx hb hr rfl (fun t ht hW => ⟨⟨(1 : Int32), (), rfl, (by unfold f_Fo_isSecondOf; rw [if_pos c1, if_neg c4, if_pos c5]; try rfl), ht⟩, hS.F ht⟩) hS.2.2 dFo_isSecondOf_36

def f_Fo_isRead (a0 : Int64) : Bool :=
  if (f_Fi_mode a0) = (3 : Int32) then
    if (f_Fi_immediate a0) = 0 then
      if (9 : Int32) < (f_Fi_target a0) then
        false
      else
        if (10 : Int32) < (f_Fi_source a0) then
          false
        else
          true
    else
      false
  else
    if (f_Fi_mode a0) = (4 : Int32) then
      if (8 : Int32) ≤ (f_Fi_size a0) then
        false
      else
        if (f_Fi_immediate a0) = 0 then
          if (9 : Int32) < (f_Fi_target a0) then
            false
          else
            if (10 : Int32) < (f_Fi_source a0) then
              false
            else
              true
        else
          false
    else
      false
set_option maxHeartbeats 4000000 in
set_option maxRecDepth 100000 in
theorem c_Fo_isRead (l : Launch) (Hp : Heap) (a0 : Int64) : Met l yFo_isRead wsFo_isRead ({ frames := 1, cells := 0, slots := 0, locals := 21 }) (va_Pc [.long a0] (fun U => U.heap = Hp)) (va_Qi (fun (r : Int32) (_ : Unit) => r = (bI (f_Fo_isRead a0))) (fun _ t => t.heap = Hp) (fun _ => False)) 0 0 (fun _ => False) := by
  refine Met.ofW (cc := cFo_isRead) (maxL := 3) (ret := (some .boolean)) (by decide) rfl ?_
  intro p e s m args below meth c s₁ B hml hv
  obtain ⟨rfl, rfl⟩ := hv
  have hx := B.exec
  have hb := B.bytes
  have hr := B.returns
  have hT : ∀ w ∈ tB, w.before _ s = true := fun w h => atoms_spec (ws := wsFo_isRead) B.pre w (List.mem_cons_of_mem _ h)
  have hown : s.vm.findClass "CompiledProgram$Form" = some m.cls := findClass_of_methodNamed B.named
  have hlocks := B.notSynchronized
  have hS : va_S (fun _ => False) s.heap s.heap [] := va_S.rf
  have hl := lv_entry ([.long a0]) (n := 3) (Nat.le_of_ble_eq_true rfl)
  rw [lg_entry_eq]
  generalize (lg_sl ([.long a0]) ++ List.replicate (3 - (lg_sl ([.long a0])).length) Slot.unset).toArray = ls at hl ⊢
  have hl : lv_has ls 3 [(0, .long a0)] := hl
  refine lv_lload_n hx hb dFo_isRead_0 rfl (lv_at hl 0 rfl) ?_
  refine va_calli (va_runS (As := [.long a0]) (rest := []) ⟨hx, hb, hml, hown, hT⟩ (c_Fi_mode l s.heap a0) (va_cwS 1 hT (gB_SV mw_158 mw_159 mw_16 mw_160) rfl rfl rfl (by decide +kernel) ⟨Nat.le_of_ble_eq_true rfl, Nat.le_of_ble_eq_true rfl⟩) ⟨fun _ _ _ _ q => q, fun U hU hW => ⟨rfl, hU⟩⟩ rfl rfl hl.1 rfl (lv_room (Nat.le_of_ble_eq_true rfl)) dFo_isRead_1 ⟨Nat.zero_le _, Nat.zero_le _⟩) hS (fun _ _ h => h.elim) (fun _ h => h.elim) (fun r u t H1 locs ht hvm hw hB hz8 hk8 hS => ?_)
  obtain rfl : s.heap = H1 := hB.symm.trans ht
  subst hw
  refine lv_istore_n (lv' := [(2, .int (f_Fi_mode a0)), (0, .long a0)]) hx hb dFo_isRead_4 rfl hl (by decide) rfl (fun ls hl => ?_)
  refine lv_iload_n hx hb dFo_isRead_5 rfl (lv_at hl 0 rfl) ?_
  refine lv_iconst (v := (3 : Int32)) hx hb dFo_isRead_6 (by decide) ?_
  refine lv_icmp_eq (tgt := 24) hx hb dFo_isRead_7 (by decide) (fun c1 => ?_) (fun c1 => ?_)
  · skip
    refine lv_lload_n hx hb dFo_isRead_24 rfl (lv_at hl 1 rfl) ?_
    refine va_calli (va_runS (As := [.long a0]) (rest := []) ⟨hx, hb, hml, hown, hT⟩ (c_Fi_immediate l s.heap a0) (va_cwS 1 hT (gB_SV mw_152 mw_153 mw_16 mw_154) rfl rfl rfl (by decide +kernel) ⟨Nat.le_of_ble_eq_true rfl, Nat.le_of_ble_eq_true rfl⟩) ⟨fun _ _ _ _ q => q, fun U hU hW => ⟨rfl, hU⟩⟩ rfl rfl hl.1 rfl (lv_room (Nat.le_of_ble_eq_true rfl)) dFo_isRead_25 ⟨Nat.zero_le _, Nat.zero_le _⟩) hS (fun _ _ h => h.elim) (fun _ h => h.elim) (fun r u t H1 locs ht hvm hw hB hz8 hk8 hS => ?_)
    obtain rfl : s.heap = H1 := hB.symm.trans ht
    subst hw
    refine lv_if_ne (tgt := 53) hx hb dFo_isRead_28 (by decide) (fun c2 => ?_) (fun c2 => ?_)
    · skip
      refine lv_iconst (v := (0 : Int32)) hx hb dFo_isRead_53 (by decide) ?_
      exact W.zret (v := (0 : Int32)) hx hb hr rfl (fun t ht hW => ⟨⟨(0 : Int32), (), rfl, (by unfold f_Fo_isRead; rw [if_pos c1, if_neg c2]; try rfl), ht⟩, hS.F ht⟩) hS.2.2 dFo_isRead_54
    · skip
      refine lv_lload_n hx hb dFo_isRead_31 rfl (lv_at hl 1 rfl) ?_
      refine va_calli (va_runS (As := [.long a0]) (rest := []) ⟨hx, hb, hml, hown, hT⟩ (c_Fi_target l s.heap a0) (va_cwS 1 hT (gB_SV mw_146 mw_147 mw_16 mw_148) rfl rfl rfl (by decide +kernel) ⟨Nat.le_of_ble_eq_true rfl, Nat.le_of_ble_eq_true rfl⟩) ⟨fun _ _ _ _ q => q, fun U hU hW => ⟨rfl, hU⟩⟩ rfl rfl hl.1 rfl (lv_room (Nat.le_of_ble_eq_true rfl)) dFo_isRead_32 ⟨Nat.zero_le _, Nat.zero_le _⟩) hS (fun _ _ h => h.elim) (fun _ h => h.elim) (fun r u t H1 locs ht hvm hw hB hz8 hk8 hS => ?_)
      obtain rfl : s.heap = H1 := hB.symm.trans ht
      subst hw
      refine lv_bipush (v := (9 : Int32)) hx hb dFo_isRead_35 (by decide) ?_
      refine lv_icmp_gt (tgt := 53) hx hb dFo_isRead_37 (by decide) (fun c3 => ?_) (fun c3 => ?_)
      · skip
        refine lv_iconst (v := (0 : Int32)) hx hb dFo_isRead_53 (by decide) ?_
        exact W.zret (v := (0 : Int32)) hx hb hr rfl (fun t ht hW => ⟨⟨(0 : Int32), (), rfl, (by unfold f_Fo_isRead; rw [if_pos c1, if_pos c2, if_pos c3]; try rfl), ht⟩, hS.F ht⟩) hS.2.2 dFo_isRead_54
      · skip
        refine lv_lload_n hx hb dFo_isRead_40 rfl (lv_at hl 1 rfl) ?_
        refine va_calli (va_runS (As := [.long a0]) (rest := []) ⟨hx, hb, hml, hown, hT⟩ (c_Fi_source l s.heap a0) (va_cwS 1 hT (gB_SV mw_137 mw_138 mw_16 mw_139) rfl rfl rfl (by decide +kernel) ⟨Nat.le_of_ble_eq_true rfl, Nat.le_of_ble_eq_true rfl⟩) ⟨fun _ _ _ _ q => q, fun U hU hW => ⟨rfl, hU⟩⟩ rfl rfl hl.1 rfl (lv_room (Nat.le_of_ble_eq_true rfl)) dFo_isRead_41 ⟨Nat.zero_le _, Nat.zero_le _⟩) hS (fun _ _ h => h.elim) (fun _ h => h.elim) (fun r u t H1 locs ht hvm hw hB hz8 hk8 hS => ?_)
        obtain rfl : s.heap = H1 := hB.symm.trans ht
        subst hw
        refine lv_bipush (v := (10 : Int32)) hx hb dFo_isRead_44 (by decide) ?_
        refine lv_icmp_gt (tgt := 53) hx hb dFo_isRead_46 (by decide) (fun c4 => ?_) (fun c4 => ?_)
        · skip
          refine lv_iconst (v := (0 : Int32)) hx hb dFo_isRead_53 (by decide) ?_
          exact W.zret (v := (0 : Int32)) hx hb hr rfl (fun t ht hW => ⟨⟨(0 : Int32), (), rfl, (by unfold f_Fo_isRead; rw [if_pos c1, if_pos c2, if_neg c3, if_pos c4]; try rfl), ht⟩, hS.F ht⟩) hS.2.2 dFo_isRead_54
        · skip
          refine lv_iconst (v := (1 : Int32)) hx hb dFo_isRead_49 (by decide) ?_
          refine lv_goto (tgt := 54) hx hb dFo_isRead_50 (by decide) ?_
          exact W.zret (v := (1 : Int32)) hx hb hr rfl (fun t ht hW => ⟨⟨(1 : Int32), (), rfl, (by unfold f_Fo_isRead; rw [if_pos c1, if_pos c2, if_neg c3, if_neg c4]; try rfl), ht⟩, hS.F ht⟩) hS.2.2 dFo_isRead_54
  · skip
    refine lv_iload_n hx hb dFo_isRead_10 rfl (lv_at hl 0 rfl) ?_
    refine lv_iconst (v := (4 : Int32)) hx hb dFo_isRead_11 (by decide) ?_
    refine lv_icmp_ne (tgt := 53) hx hb dFo_isRead_12 (by decide) (fun c5 => ?_) (fun c5 => ?_)
    · skip
      refine lv_iconst (v := (0 : Int32)) hx hb dFo_isRead_53 (by decide) ?_
      exact W.zret (v := (0 : Int32)) hx hb hr rfl (fun t ht hW => ⟨⟨(0 : Int32), (), rfl, (by unfold f_Fo_isRead; rw [if_neg c1, if_neg c5]; try rfl), ht⟩, hS.F ht⟩) hS.2.2 dFo_isRead_54
    · skip
      refine lv_lload_n hx hb dFo_isRead_15 rfl (lv_at hl 1 rfl) ?_
      refine va_calli (va_runS (As := [.long a0]) (rest := []) ⟨hx, hb, hml, hown, hT⟩ (c_Fi_size l s.heap a0) (va_cwS 1 hT (gB_SV mw_161 mw_162 mw_16 mw_163) rfl rfl rfl (by decide +kernel) ⟨Nat.le_of_ble_eq_true rfl, Nat.le_of_ble_eq_true rfl⟩) ⟨fun _ _ _ _ q => q, fun U hU hW => ⟨rfl, hU⟩⟩ rfl rfl hl.1 rfl (lv_room (Nat.le_of_ble_eq_true rfl)) dFo_isRead_16 ⟨Nat.zero_le _, Nat.zero_le _⟩) hS (fun _ _ h => h.elim) (fun _ h => h.elim) (fun r u t H1 locs ht hvm hw hB hz8 hk8 hS => ?_)
      obtain rfl : s.heap = H1 := hB.symm.trans ht
      subst hw
      refine lv_bipush (v := (8 : Int32)) hx hb dFo_isRead_19 (by decide) ?_
      refine lv_icmp_ge (tgt := 53) hx hb dFo_isRead_21 (by decide) (fun c6 => ?_) (fun c6 => ?_)
      · skip
        refine lv_iconst (v := (0 : Int32)) hx hb dFo_isRead_53 (by decide) ?_
        exact W.zret (v := (0 : Int32)) hx hb hr rfl (fun t ht hW => ⟨⟨(0 : Int32), (), rfl, (by unfold f_Fo_isRead; rw [if_neg c1, if_pos c5, if_pos c6]; try rfl), ht⟩, hS.F ht⟩) hS.2.2 dFo_isRead_54
      · skip
        refine lv_lload_n hx hb dFo_isRead_24 rfl (lv_at hl 1 rfl) ?_
        refine va_calli (va_runS (As := [.long a0]) (rest := []) ⟨hx, hb, hml, hown, hT⟩ (c_Fi_immediate l s.heap a0) (va_cwS 1 hT (gB_SV mw_152 mw_153 mw_16 mw_154) rfl rfl rfl (by decide +kernel) ⟨Nat.le_of_ble_eq_true rfl, Nat.le_of_ble_eq_true rfl⟩) ⟨fun _ _ _ _ q => q, fun U hU hW => ⟨rfl, hU⟩⟩ rfl rfl hl.1 rfl (lv_room (Nat.le_of_ble_eq_true rfl)) dFo_isRead_25 ⟨Nat.zero_le _, Nat.zero_le _⟩) hS (fun _ _ h => h.elim) (fun _ h => h.elim) (fun r u t H1 locs ht hvm hw hB hz8 hk8 hS => ?_)
        obtain rfl : s.heap = H1 := hB.symm.trans ht
        subst hw
        refine lv_if_ne (tgt := 53) hx hb dFo_isRead_28 (by decide) (fun c7 => ?_) (fun c7 => ?_)
        · skip
          refine lv_iconst (v := (0 : Int32)) hx hb dFo_isRead_53 (by decide) ?_
          exact W.zret (v := (0 : Int32)) hx hb hr rfl (fun t ht hW => ⟨⟨(0 : Int32), (), rfl, (by unfold f_Fo_isRead; rw [if_neg c1, if_pos c5, if_neg c6, if_neg c7]; try rfl), ht⟩, hS.F ht⟩) hS.2.2 dFo_isRead_54
        · skip
          refine lv_lload_n hx hb dFo_isRead_31 rfl (lv_at hl 1 rfl) ?_
          refine va_calli (va_runS (As := [.long a0]) (rest := []) ⟨hx, hb, hml, hown, hT⟩ (c_Fi_target l s.heap a0) (va_cwS 1 hT (gB_SV mw_146 mw_147 mw_16 mw_148) rfl rfl rfl (by decide +kernel) ⟨Nat.le_of_ble_eq_true rfl, Nat.le_of_ble_eq_true rfl⟩) ⟨fun _ _ _ _ q => q, fun U hU hW => ⟨rfl, hU⟩⟩ rfl rfl hl.1 rfl (lv_room (Nat.le_of_ble_eq_true rfl)) dFo_isRead_32 ⟨Nat.zero_le _, Nat.zero_le _⟩) hS (fun _ _ h => h.elim) (fun _ h => h.elim) (fun r u t H1 locs ht hvm hw hB hz8 hk8 hS => ?_)
          obtain rfl : s.heap = H1 := hB.symm.trans ht
          subst hw
          refine lv_bipush (v := (9 : Int32)) hx hb dFo_isRead_35 (by decide) ?_
          refine lv_icmp_gt (tgt := 53) hx hb dFo_isRead_37 (by decide) (fun c8 => ?_) (fun c8 => ?_)
          · skip
            refine lv_iconst (v := (0 : Int32)) hx hb dFo_isRead_53 (by decide) ?_
            exact W.zret (v := (0 : Int32)) hx hb hr rfl (fun t ht hW => ⟨⟨(0 : Int32), (), rfl, (by unfold f_Fo_isRead; rw [if_neg c1, if_pos c5, if_neg c6, if_pos c7, if_pos c8]; try rfl), ht⟩, hS.F ht⟩) hS.2.2 dFo_isRead_54
          · skip
            refine lv_lload_n hx hb dFo_isRead_40 rfl (lv_at hl 1 rfl) ?_
            refine va_calli (va_runS (As := [.long a0]) (rest := []) ⟨hx, hb, hml, hown, hT⟩ (c_Fi_source l s.heap a0) (va_cwS 1 hT (gB_SV mw_137 mw_138 mw_16 mw_139) rfl rfl rfl (by decide +kernel) ⟨Nat.le_of_ble_eq_true rfl, Nat.le_of_ble_eq_true rfl⟩) ⟨fun _ _ _ _ q => q, fun U hU hW => ⟨rfl, hU⟩⟩ rfl rfl hl.1 rfl (lv_room (Nat.le_of_ble_eq_true rfl)) dFo_isRead_41 ⟨Nat.zero_le _, Nat.zero_le _⟩) hS (fun _ _ h => h.elim) (fun _ h => h.elim) (fun r u t H1 locs ht hvm hw hB hz8 hk8 hS => ?_)
            obtain rfl : s.heap = H1 := hB.symm.trans ht
            subst hw
            refine lv_bipush (v := (10 : Int32)) hx hb dFo_isRead_44 (by decide) ?_
            refine lv_icmp_gt (tgt := 53) hx hb dFo_isRead_46 (by decide) (fun c9 => ?_) (fun c9 => ?_)
            · skip
              refine lv_iconst (v := (0 : Int32)) hx hb dFo_isRead_53 (by decide) ?_
              exact W.zret (v := (0 : Int32)) hx hb hr rfl (fun t ht hW => ⟨⟨(0 : Int32), (), rfl, (by unfold f_Fo_isRead; rw [if_neg c1, if_pos c5, if_neg c6, if_pos c7, if_neg c8, if_pos c9]; try rfl), ht⟩, hS.F ht⟩) hS.2.2 dFo_isRead_54
            · skip
              refine lv_iconst (v := (1 : Int32)) hx hb dFo_isRead_49 (by decide) ?_
              refine lv_goto (tgt := 54) hx hb dFo_isRead_50 (by decide) ?_
              exact W.zret (v := (1 : Int32)) hx hb hr rfl (fun t ht hW => ⟨⟨(1 : Int32), (), rfl, (by unfold f_Fo_isRead; rw [if_neg c1, if_pos c5, if_neg c6, if_pos c7, if_neg c8, if_neg c9]; try rfl), ht⟩, hS.F ht⟩) hS.2.2 dFo_isRead_54

def f_Fo_isWriteOfNumber (a0 : Int64) : Bool :=
  if (f_Fi_mode a0) = (3 : Int32) then
    if (10 : Int32) < (f_Fi_target a0) then
      false
    else
      if (f_Fi_source a0) = 0 then
        true
      else
        false
  else
    false
set_option maxHeartbeats 4000000 in
set_option maxRecDepth 100000 in
theorem c_Fo_isWriteOfNumber (l : Launch) (Hp : Heap) (a0 : Int64) : Met l yFo_isWriteOfNumber wsFo_isWriteOfNumber ({ frames := 1, cells := 0, slots := 0, locals := 21 }) (va_Pc [.long a0] (fun U => U.heap = Hp)) (va_Qi (fun (r : Int32) (_ : Unit) => r = (bI (f_Fo_isWriteOfNumber a0))) (fun _ t => t.heap = Hp) (fun _ => False)) 0 0 (fun _ => False) := by
  refine Met.ofW (cc := cFo_isWriteOfNumber) (maxL := 2) (ret := (some .boolean)) (by decide) rfl ?_
  intro p e s m args below meth c s₁ B hml hv
  obtain ⟨rfl, rfl⟩ := hv
  have hx := B.exec
  have hb := B.bytes
  have hr := B.returns
  have hT : ∀ w ∈ tB, w.before _ s = true := fun w h => atoms_spec (ws := wsFo_isWriteOfNumber) B.pre w (List.mem_cons_of_mem _ h)
  have hown : s.vm.findClass "CompiledProgram$Form" = some m.cls := findClass_of_methodNamed B.named
  have hlocks := B.notSynchronized
  have hS : va_S (fun _ => False) s.heap s.heap [] := va_S.rf
  have hl := lv_entry ([.long a0]) (n := 2) (Nat.le_of_ble_eq_true rfl)
  rw [lg_entry_eq]
  generalize (lg_sl ([.long a0]) ++ List.replicate (2 - (lg_sl ([.long a0])).length) Slot.unset).toArray = ls at hl ⊢
  have hl : lv_has ls 2 [(0, .long a0)] := hl
  refine lv_lload_n hx hb dFo_isWriteOfNumber_0 rfl (lv_at hl 0 rfl) ?_
  refine va_calli (va_runS (As := [.long a0]) (rest := []) ⟨hx, hb, hml, hown, hT⟩ (c_Fi_mode l s.heap a0) (va_cwS 1 hT (gB_SV mw_158 mw_159 mw_16 mw_160) rfl rfl rfl (by decide +kernel) ⟨Nat.le_of_ble_eq_true rfl, Nat.le_of_ble_eq_true rfl⟩) ⟨fun _ _ _ _ q => q, fun U hU hW => ⟨rfl, hU⟩⟩ rfl rfl hl.1 rfl (lv_room (Nat.le_of_ble_eq_true rfl)) dFo_isWriteOfNumber_1 ⟨Nat.zero_le _, Nat.zero_le _⟩) hS (fun _ _ h => h.elim) (fun _ h => h.elim) (fun r u t H1 locs ht hvm hw hB hz8 hk8 hS => ?_)
  obtain rfl : s.heap = H1 := hB.symm.trans ht
  subst hw
  refine lv_iconst (v := (3 : Int32)) hx hb dFo_isWriteOfNumber_4 (by decide) ?_
  refine lv_icmp_ne (tgt := 28) hx hb dFo_isWriteOfNumber_5 (by decide) (fun c1 => ?_) (fun c1 => ?_)
  · skip
    refine lv_iconst (v := (0 : Int32)) hx hb dFo_isWriteOfNumber_28 (by decide) ?_
    exact W.zret (v := (0 : Int32)) hx hb hr rfl (fun t ht hW => ⟨⟨(0 : Int32), (), rfl, (by unfold f_Fo_isWriteOfNumber; rw [if_neg c1]; try rfl), ht⟩, hS.F ht⟩) hS.2.2 dFo_isWriteOfNumber_29
  · skip
    refine lv_lload_n hx hb dFo_isWriteOfNumber_8 rfl (lv_at hl 0 rfl) ?_
    refine va_calli (va_runS (As := [.long a0]) (rest := []) ⟨hx, hb, hml, hown, hT⟩ (c_Fi_target l s.heap a0) (va_cwS 1 hT (gB_SV mw_146 mw_147 mw_16 mw_148) rfl rfl rfl (by decide +kernel) ⟨Nat.le_of_ble_eq_true rfl, Nat.le_of_ble_eq_true rfl⟩) ⟨fun _ _ _ _ q => q, fun U hU hW => ⟨rfl, hU⟩⟩ rfl rfl hl.1 rfl (lv_room (Nat.le_of_ble_eq_true rfl)) dFo_isWriteOfNumber_9 ⟨Nat.zero_le _, Nat.zero_le _⟩) hS (fun _ _ h => h.elim) (fun _ h => h.elim) (fun r u t H1 locs ht hvm hw hB hz8 hk8 hS => ?_)
    obtain rfl : s.heap = H1 := hB.symm.trans ht
    subst hw
    refine lv_bipush (v := (10 : Int32)) hx hb dFo_isWriteOfNumber_12 (by decide) ?_
    refine lv_icmp_gt (tgt := 28) hx hb dFo_isWriteOfNumber_14 (by decide) (fun c2 => ?_) (fun c2 => ?_)
    · skip
      refine lv_iconst (v := (0 : Int32)) hx hb dFo_isWriteOfNumber_28 (by decide) ?_
      exact W.zret (v := (0 : Int32)) hx hb hr rfl (fun t ht hW => ⟨⟨(0 : Int32), (), rfl, (by unfold f_Fo_isWriteOfNumber; rw [if_pos c1, if_pos c2]; try rfl), ht⟩, hS.F ht⟩) hS.2.2 dFo_isWriteOfNumber_29
    · skip
      refine lv_lload_n hx hb dFo_isWriteOfNumber_17 rfl (lv_at hl 0 rfl) ?_
      refine va_calli (va_runS (As := [.long a0]) (rest := []) ⟨hx, hb, hml, hown, hT⟩ (c_Fi_source l s.heap a0) (va_cwS 1 hT (gB_SV mw_137 mw_138 mw_16 mw_139) rfl rfl rfl (by decide +kernel) ⟨Nat.le_of_ble_eq_true rfl, Nat.le_of_ble_eq_true rfl⟩) ⟨fun _ _ _ _ q => q, fun U hU hW => ⟨rfl, hU⟩⟩ rfl rfl hl.1 rfl (lv_room (Nat.le_of_ble_eq_true rfl)) dFo_isWriteOfNumber_18 ⟨Nat.zero_le _, Nat.zero_le _⟩) hS (fun _ _ h => h.elim) (fun _ h => h.elim) (fun r u t H1 locs ht hvm hw hB hz8 hk8 hS => ?_)
      obtain rfl : s.heap = H1 := hB.symm.trans ht
      subst hw
      refine lv_if_ne (tgt := 28) hx hb dFo_isWriteOfNumber_21 (by decide) (fun c3 => ?_) (fun c3 => ?_)
      · skip
        refine lv_iconst (v := (0 : Int32)) hx hb dFo_isWriteOfNumber_28 (by decide) ?_
        exact W.zret (v := (0 : Int32)) hx hb hr rfl (fun t ht hW => ⟨⟨(0 : Int32), (), rfl, (by unfold f_Fo_isWriteOfNumber; rw [if_pos c1, if_neg c2, if_neg c3]; try rfl), ht⟩, hS.F ht⟩) hS.2.2 dFo_isWriteOfNumber_29
      · skip
        refine lv_iconst (v := (1 : Int32)) hx hb dFo_isWriteOfNumber_24 (by decide) ?_
        refine lv_goto (tgt := 29) hx hb dFo_isWriteOfNumber_25 (by decide) ?_
        exact W.zret (v := (1 : Int32)) hx hb hr rfl (fun t ht hW => ⟨⟨(1 : Int32), (), rfl, (by unfold f_Fo_isWriteOfNumber; rw [if_pos c1, if_neg c2, if_pos c3]; try rfl), ht⟩, hS.F ht⟩) hS.2.2 dFo_isWriteOfNumber_29

def f_Fo_isWriteOfRegister (a0 : Int64) : Bool :=
  if (f_Fi_mode a0) = (3 : Int32) then
    if (f_Fi_immediate a0) = 0 then
      if (10 : Int32) < (f_Fi_target a0) then
        false
      else
        if (10 : Int32) < (f_Fi_source a0) then
          false
        else
          true
    else
      false
  else
    false
set_option maxHeartbeats 4000000 in
set_option maxRecDepth 100000 in
theorem c_Fo_isWriteOfRegister (l : Launch) (Hp : Heap) (a0 : Int64) : Met l yFo_isWriteOfRegister wsFo_isWriteOfRegister ({ frames := 1, cells := 0, slots := 0, locals := 21 }) (va_Pc [.long a0] (fun U => U.heap = Hp)) (va_Qi (fun (r : Int32) (_ : Unit) => r = (bI (f_Fo_isWriteOfRegister a0))) (fun _ t => t.heap = Hp) (fun _ => False)) 0 0 (fun _ => False) := by
  refine Met.ofW (cc := cFo_isWriteOfRegister) (maxL := 2) (ret := (some .boolean)) (by decide) rfl ?_
  intro p e s m args below meth c s₁ B hml hv
  obtain ⟨rfl, rfl⟩ := hv
  have hx := B.exec
  have hb := B.bytes
  have hr := B.returns
  have hT : ∀ w ∈ tB, w.before _ s = true := fun w h => atoms_spec (ws := wsFo_isWriteOfRegister) B.pre w (List.mem_cons_of_mem _ h)
  have hown : s.vm.findClass "CompiledProgram$Form" = some m.cls := findClass_of_methodNamed B.named
  have hlocks := B.notSynchronized
  have hS : va_S (fun _ => False) s.heap s.heap [] := va_S.rf
  have hl := lv_entry ([.long a0]) (n := 2) (Nat.le_of_ble_eq_true rfl)
  rw [lg_entry_eq]
  generalize (lg_sl ([.long a0]) ++ List.replicate (2 - (lg_sl ([.long a0])).length) Slot.unset).toArray = ls at hl ⊢
  have hl : lv_has ls 2 [(0, .long a0)] := hl
  refine lv_lload_n hx hb dFo_isWriteOfRegister_0 rfl (lv_at hl 0 rfl) ?_
  refine va_calli (va_runS (As := [.long a0]) (rest := []) ⟨hx, hb, hml, hown, hT⟩ (c_Fi_mode l s.heap a0) (va_cwS 1 hT (gB_SV mw_158 mw_159 mw_16 mw_160) rfl rfl rfl (by decide +kernel) ⟨Nat.le_of_ble_eq_true rfl, Nat.le_of_ble_eq_true rfl⟩) ⟨fun _ _ _ _ q => q, fun U hU hW => ⟨rfl, hU⟩⟩ rfl rfl hl.1 rfl (lv_room (Nat.le_of_ble_eq_true rfl)) dFo_isWriteOfRegister_1 ⟨Nat.zero_le _, Nat.zero_le _⟩) hS (fun _ _ h => h.elim) (fun _ h => h.elim) (fun r u t H1 locs ht hvm hw hB hz8 hk8 hS => ?_)
  obtain rfl : s.heap = H1 := hB.symm.trans ht
  subst hw
  refine lv_iconst (v := (3 : Int32)) hx hb dFo_isWriteOfRegister_4 (by decide) ?_
  refine lv_icmp_ne (tgt := 37) hx hb dFo_isWriteOfRegister_5 (by decide) (fun c1 => ?_) (fun c1 => ?_)
  · skip
    refine lv_iconst (v := (0 : Int32)) hx hb dFo_isWriteOfRegister_37 (by decide) ?_
    exact W.zret (v := (0 : Int32)) hx hb hr rfl (fun t ht hW => ⟨⟨(0 : Int32), (), rfl, (by unfold f_Fo_isWriteOfRegister; rw [if_neg c1]; try rfl), ht⟩, hS.F ht⟩) hS.2.2 dFo_isWriteOfRegister_38
  · skip
    refine lv_lload_n hx hb dFo_isWriteOfRegister_8 rfl (lv_at hl 0 rfl) ?_
    refine va_calli (va_runS (As := [.long a0]) (rest := []) ⟨hx, hb, hml, hown, hT⟩ (c_Fi_immediate l s.heap a0) (va_cwS 1 hT (gB_SV mw_152 mw_153 mw_16 mw_154) rfl rfl rfl (by decide +kernel) ⟨Nat.le_of_ble_eq_true rfl, Nat.le_of_ble_eq_true rfl⟩) ⟨fun _ _ _ _ q => q, fun U hU hW => ⟨rfl, hU⟩⟩ rfl rfl hl.1 rfl (lv_room (Nat.le_of_ble_eq_true rfl)) dFo_isWriteOfRegister_9 ⟨Nat.zero_le _, Nat.zero_le _⟩) hS (fun _ _ h => h.elim) (fun _ h => h.elim) (fun r u t H1 locs ht hvm hw hB hz8 hk8 hS => ?_)
    obtain rfl : s.heap = H1 := hB.symm.trans ht
    subst hw
    refine lv_if_ne (tgt := 37) hx hb dFo_isWriteOfRegister_12 (by decide) (fun c2 => ?_) (fun c2 => ?_)
    · skip
      refine lv_iconst (v := (0 : Int32)) hx hb dFo_isWriteOfRegister_37 (by decide) ?_
      exact W.zret (v := (0 : Int32)) hx hb hr rfl (fun t ht hW => ⟨⟨(0 : Int32), (), rfl, (by unfold f_Fo_isWriteOfRegister; rw [if_pos c1, if_neg c2]; try rfl), ht⟩, hS.F ht⟩) hS.2.2 dFo_isWriteOfRegister_38
    · skip
      refine lv_lload_n hx hb dFo_isWriteOfRegister_15 rfl (lv_at hl 0 rfl) ?_
      refine va_calli (va_runS (As := [.long a0]) (rest := []) ⟨hx, hb, hml, hown, hT⟩ (c_Fi_target l s.heap a0) (va_cwS 1 hT (gB_SV mw_146 mw_147 mw_16 mw_148) rfl rfl rfl (by decide +kernel) ⟨Nat.le_of_ble_eq_true rfl, Nat.le_of_ble_eq_true rfl⟩) ⟨fun _ _ _ _ q => q, fun U hU hW => ⟨rfl, hU⟩⟩ rfl rfl hl.1 rfl (lv_room (Nat.le_of_ble_eq_true rfl)) dFo_isWriteOfRegister_16 ⟨Nat.zero_le _, Nat.zero_le _⟩) hS (fun _ _ h => h.elim) (fun _ h => h.elim) (fun r u t H1 locs ht hvm hw hB hz8 hk8 hS => ?_)
      obtain rfl : s.heap = H1 := hB.symm.trans ht
      subst hw
      refine lv_bipush (v := (10 : Int32)) hx hb dFo_isWriteOfRegister_19 (by decide) ?_
      refine lv_icmp_gt (tgt := 37) hx hb dFo_isWriteOfRegister_21 (by decide) (fun c3 => ?_) (fun c3 => ?_)
      · skip
        refine lv_iconst (v := (0 : Int32)) hx hb dFo_isWriteOfRegister_37 (by decide) ?_
        exact W.zret (v := (0 : Int32)) hx hb hr rfl (fun t ht hW => ⟨⟨(0 : Int32), (), rfl, (by unfold f_Fo_isWriteOfRegister; rw [if_pos c1, if_pos c2, if_pos c3]; try rfl), ht⟩, hS.F ht⟩) hS.2.2 dFo_isWriteOfRegister_38
      · skip
        refine lv_lload_n hx hb dFo_isWriteOfRegister_24 rfl (lv_at hl 0 rfl) ?_
        refine va_calli (va_runS (As := [.long a0]) (rest := []) ⟨hx, hb, hml, hown, hT⟩ (c_Fi_source l s.heap a0) (va_cwS 1 hT (gB_SV mw_137 mw_138 mw_16 mw_139) rfl rfl rfl (by decide +kernel) ⟨Nat.le_of_ble_eq_true rfl, Nat.le_of_ble_eq_true rfl⟩) ⟨fun _ _ _ _ q => q, fun U hU hW => ⟨rfl, hU⟩⟩ rfl rfl hl.1 rfl (lv_room (Nat.le_of_ble_eq_true rfl)) dFo_isWriteOfRegister_25 ⟨Nat.zero_le _, Nat.zero_le _⟩) hS (fun _ _ h => h.elim) (fun _ h => h.elim) (fun r u t H1 locs ht hvm hw hB hz8 hk8 hS => ?_)
        obtain rfl : s.heap = H1 := hB.symm.trans ht
        subst hw
        refine lv_bipush (v := (10 : Int32)) hx hb dFo_isWriteOfRegister_28 (by decide) ?_
        refine lv_icmp_gt (tgt := 37) hx hb dFo_isWriteOfRegister_30 (by decide) (fun c4 => ?_) (fun c4 => ?_)
        · skip
          refine lv_iconst (v := (0 : Int32)) hx hb dFo_isWriteOfRegister_37 (by decide) ?_
          exact W.zret (v := (0 : Int32)) hx hb hr rfl (fun t ht hW => ⟨⟨(0 : Int32), (), rfl, (by unfold f_Fo_isWriteOfRegister; rw [if_pos c1, if_pos c2, if_neg c3, if_pos c4]; try rfl), ht⟩, hS.F ht⟩) hS.2.2 dFo_isWriteOfRegister_38
        · skip
          refine lv_iconst (v := (1 : Int32)) hx hb dFo_isWriteOfRegister_33 (by decide) ?_
          refine lv_goto (tgt := 38) hx hb dFo_isWriteOfRegister_34 (by decide) ?_
          exact W.zret (v := (1 : Int32)) hx hb hr rfl (fun t ht hW => ⟨⟨(1 : Int32), (), rfl, (by unfold f_Fo_isWriteOfRegister; rw [if_pos c1, if_pos c2, if_neg c3, if_neg c4]; try rfl), ht⟩, hS.F ht⟩) hS.2.2 dFo_isWriteOfRegister_38

def f_Fo_isExchange (a0 : Int64) : Bool :=
  if (f_Fi_size a0) < (4 : Int32) then
    false
  else
    if (f_Ex_isKnown (f_Fi_immediate a0)) = true then
      if (10 : Int32) < (f_Fi_target a0) then
        false
      else
        if (f_Ex_changesSource (f_Fi_immediate a0)) = true then
          if (9 : Int32) < (f_Fi_source a0) then
            false
          else
            true
        else
          if (10 : Int32) < (f_Fi_source a0) then
            false
          else
            true
    else
      false
set_option maxHeartbeats 4000000 in
set_option maxRecDepth 100000 in
theorem c_Fo_isExchange (l : Launch) (Hp : Heap) (a0 : Int64) : Met l yFo_isExchange wsFo_isExchange ({ frames := 1, cells := 0, slots := 0, locals := 21 }) (va_Pc [.long a0] (fun U => U.heap = Hp)) (va_Qi (fun (r : Int32) (_ : Unit) => r = (bI (f_Fo_isExchange a0))) (fun _ t => t.heap = Hp) (fun _ => False)) 0 0 (fun _ => False) := by
  refine Met.ofW (cc := cFo_isExchange) (maxL := 2) (ret := (some .boolean)) (by decide) rfl ?_
  intro p e s m args below meth c s₁ B hml hv
  obtain ⟨rfl, rfl⟩ := hv
  have hx := B.exec
  have hb := B.bytes
  have hr := B.returns
  have hT : ∀ w ∈ tB, w.before _ s = true := fun w h => atoms_spec (ws := wsFo_isExchange) B.pre w (List.mem_cons_of_mem _ h)
  have hown : s.vm.findClass "CompiledProgram$Form" = some m.cls := findClass_of_methodNamed B.named
  have hlocks := B.notSynchronized
  have hS : va_S (fun _ => False) s.heap s.heap [] := va_S.rf
  have hl := lv_entry ([.long a0]) (n := 2) (Nat.le_of_ble_eq_true rfl)
  rw [lg_entry_eq]
  generalize (lg_sl ([.long a0]) ++ List.replicate (2 - (lg_sl ([.long a0])).length) Slot.unset).toArray = ls at hl ⊢
  have hl : lv_has ls 2 [(0, .long a0)] := hl
  refine lv_lload_n hx hb dFo_isExchange_0 rfl (lv_at hl 0 rfl) ?_
  refine va_calli (va_runS (As := [.long a0]) (rest := []) ⟨hx, hb, hml, hown, hT⟩ (c_Fi_size l s.heap a0) (va_cwS 1 hT (gB_SV mw_161 mw_162 mw_16 mw_163) rfl rfl rfl (by decide +kernel) ⟨Nat.le_of_ble_eq_true rfl, Nat.le_of_ble_eq_true rfl⟩) ⟨fun _ _ _ _ q => q, fun U hU hW => ⟨rfl, hU⟩⟩ rfl rfl hl.1 rfl (lv_room (Nat.le_of_ble_eq_true rfl)) dFo_isExchange_1 ⟨Nat.zero_le _, Nat.zero_le _⟩) hS (fun _ _ h => h.elim) (fun _ h => h.elim) (fun r u t H1 locs ht hvm hw hB hz8 hk8 hS => ?_)
  obtain rfl : s.heap = H1 := hB.symm.trans ht
  subst hw
  refine lv_iconst (v := (4 : Int32)) hx hb dFo_isExchange_4 (by decide) ?_
  refine lv_icmp_lt (tgt := 55) hx hb dFo_isExchange_5 (by decide) (fun c1 => ?_) (fun c1 => ?_)
  · skip
    refine lv_iconst (v := (0 : Int32)) hx hb dFo_isExchange_55 (by decide) ?_
    exact W.zret (v := (0 : Int32)) hx hb hr rfl (fun t ht hW => ⟨⟨(0 : Int32), (), rfl, (by unfold f_Fo_isExchange; rw [if_pos c1]; try rfl), ht⟩, hS.F ht⟩) hS.2.2 dFo_isExchange_56
  · skip
    refine lv_lload_n hx hb dFo_isExchange_8 rfl (lv_at hl 0 rfl) ?_
    refine va_calli (va_runS (As := [.long a0]) (rest := []) ⟨hx, hb, hml, hown, hT⟩ (c_Fi_immediate l s.heap a0) (va_cwS 1 hT (gB_SV mw_152 mw_153 mw_16 mw_154) rfl rfl rfl (by decide +kernel) ⟨Nat.le_of_ble_eq_true rfl, Nat.le_of_ble_eq_true rfl⟩) ⟨fun _ _ _ _ q => q, fun U hU hW => ⟨rfl, hU⟩⟩ rfl rfl hl.1 rfl (lv_room (Nat.le_of_ble_eq_true rfl)) dFo_isExchange_9 ⟨Nat.zero_le _, Nat.zero_le _⟩) hS (fun _ _ h => h.elim) (fun _ h => h.elim) (fun r u t H1 locs ht hvm hw hB hz8 hk8 hS => ?_)
    obtain rfl : s.heap = H1 := hB.symm.trans ht
    subst hw
    refine va_calli (va_runS (As := [.int (f_Fi_immediate a0)]) (rest := []) ⟨hx, hb, hml, hown, hT⟩ (c_Ex_isKnown l s.heap (f_Fi_immediate a0)) (va_cwS 1 hT (gB_SV mw_170 mw_171 mw_17 mw_172) rfl rfl rfl (by decide +kernel) ⟨Nat.le_of_ble_eq_true rfl, Nat.le_of_ble_eq_true rfl⟩) ⟨fun _ _ _ _ q => q, fun U hU hW => ⟨rfl, hU⟩⟩ rfl rfl hl.1 rfl (lv_room (Nat.le_of_ble_eq_true rfl)) dFo_isExchange_12 ⟨Nat.zero_le _, Nat.zero_le _⟩) hS (fun _ _ h => h.elim) (fun _ h => h.elim) (fun r u t H1 locs ht hvm hw hB hz8 hk8 hS => ?_)
    obtain rfl : s.heap = H1 := hB.symm.trans ht
    subst hw
    refine lv_if_eq (tgt := 55) hx hb dFo_isExchange_15 (by decide) (fun c2 => ?_) (fun c2 => ?_)
    · have c2 := bI_z c2
      refine lv_iconst (v := (0 : Int32)) hx hb dFo_isExchange_55 (by decide) ?_
      exact W.zret (v := (0 : Int32)) hx hb hr rfl (fun t ht hW => ⟨⟨(0 : Int32), (), rfl, (by unfold f_Fo_isExchange; rw [if_neg c1, if_neg c2]; try rfl), ht⟩, hS.F ht⟩) hS.2.2 dFo_isExchange_56
    · have c2 := bI_n c2
      refine lv_lload_n hx hb dFo_isExchange_18 rfl (lv_at hl 0 rfl) ?_
      refine va_calli (va_runS (As := [.long a0]) (rest := []) ⟨hx, hb, hml, hown, hT⟩ (c_Fi_target l s.heap a0) (va_cwS 1 hT (gB_SV mw_146 mw_147 mw_16 mw_148) rfl rfl rfl (by decide +kernel) ⟨Nat.le_of_ble_eq_true rfl, Nat.le_of_ble_eq_true rfl⟩) ⟨fun _ _ _ _ q => q, fun U hU hW => ⟨rfl, hU⟩⟩ rfl rfl hl.1 rfl (lv_room (Nat.le_of_ble_eq_true rfl)) dFo_isExchange_19 ⟨Nat.zero_le _, Nat.zero_le _⟩) hS (fun _ _ h => h.elim) (fun _ h => h.elim) (fun r u t H1 locs ht hvm hw hB hz8 hk8 hS => ?_)
      obtain rfl : s.heap = H1 := hB.symm.trans ht
      subst hw
      refine lv_bipush (v := (10 : Int32)) hx hb dFo_isExchange_22 (by decide) ?_
      refine lv_icmp_gt (tgt := 55) hx hb dFo_isExchange_24 (by decide) (fun c3 => ?_) (fun c3 => ?_)
      · skip
        refine lv_iconst (v := (0 : Int32)) hx hb dFo_isExchange_55 (by decide) ?_
        exact W.zret (v := (0 : Int32)) hx hb hr rfl (fun t ht hW => ⟨⟨(0 : Int32), (), rfl, (by unfold f_Fo_isExchange; rw [if_neg c1, if_pos c2, if_pos c3]; try rfl), ht⟩, hS.F ht⟩) hS.2.2 dFo_isExchange_56
      · skip
        refine lv_lload_n hx hb dFo_isExchange_27 rfl (lv_at hl 0 rfl) ?_
        refine va_calli (va_runS (As := [.long a0]) (rest := []) ⟨hx, hb, hml, hown, hT⟩ (c_Fi_source l s.heap a0) (va_cwS 1 hT (gB_SV mw_137 mw_138 mw_16 mw_139) rfl rfl rfl (by decide +kernel) ⟨Nat.le_of_ble_eq_true rfl, Nat.le_of_ble_eq_true rfl⟩) ⟨fun _ _ _ _ q => q, fun U hU hW => ⟨rfl, hU⟩⟩ rfl rfl hl.1 rfl (lv_room (Nat.le_of_ble_eq_true rfl)) dFo_isExchange_28 ⟨Nat.zero_le _, Nat.zero_le _⟩) hS (fun _ _ h => h.elim) (fun _ h => h.elim) (fun r u t H1 locs ht hvm hw hB hz8 hk8 hS => ?_)
        obtain rfl : s.heap = H1 := hB.symm.trans ht
        subst hw
        refine lv_lload_n hx hb dFo_isExchange_31 rfl (lv_at hl 0 rfl) ?_
        refine va_calli (va_runS (As := [.long a0]) (rest := [.int (f_Fi_source a0)]) ⟨hx, hb, hml, hown, hT⟩ (c_Fi_immediate l s.heap a0) (va_cwS 1 hT (gB_SV mw_152 mw_153 mw_16 mw_154) rfl rfl rfl (by decide +kernel) ⟨Nat.le_of_ble_eq_true rfl, Nat.le_of_ble_eq_true rfl⟩) ⟨fun _ _ _ _ q => q, fun U hU hW => ⟨rfl, hU⟩⟩ rfl rfl hl.1 rfl (lv_room (Nat.le_of_ble_eq_true rfl)) dFo_isExchange_32 ⟨Nat.zero_le _, Nat.zero_le _⟩) hS (fun _ _ h => h.elim) (fun _ h => h.elim) (fun r u t H1 locs ht hvm hw hB hz8 hk8 hS => ?_)
        obtain rfl : s.heap = H1 := hB.symm.trans ht
        subst hw
        refine va_calli (va_runS (As := [.int (f_Fi_immediate a0)]) (rest := [.int (f_Fi_source a0)]) ⟨hx, hb, hml, hown, hT⟩ (c_Ex_changesSource l s.heap (f_Fi_immediate a0)) (va_cwS 1 hT (gB_SV mw_173 mw_174 mw_17 mw_175) rfl rfl rfl (by decide +kernel) ⟨Nat.le_of_ble_eq_true rfl, Nat.le_of_ble_eq_true rfl⟩) ⟨fun _ _ _ _ q => q, fun U hU hW => ⟨rfl, hU⟩⟩ rfl rfl hl.1 rfl (lv_room (Nat.le_of_ble_eq_true rfl)) dFo_isExchange_35 ⟨Nat.zero_le _, Nat.zero_le _⟩) hS (fun _ _ h => h.elim) (fun _ h => h.elim) (fun r u t H1 locs ht hvm hw hB hz8 hk8 hS => ?_)
        obtain rfl : s.heap = H1 := hB.symm.trans ht
        subst hw
        refine lv_if_eq (tgt := 46) hx hb dFo_isExchange_38 (by decide) (fun c4 => ?_) (fun c4 => ?_)
        · have c4 := bI_z c4
          refine lv_bipush (v := (10 : Int32)) hx hb dFo_isExchange_46 (by decide) ?_
          refine lv_icmp_gt (tgt := 55) hx hb dFo_isExchange_48 (by decide) (fun c5 => ?_) (fun c5 => ?_)
          · skip
            refine lv_iconst (v := (0 : Int32)) hx hb dFo_isExchange_55 (by decide) ?_
            exact W.zret (v := (0 : Int32)) hx hb hr rfl (fun t ht hW => ⟨⟨(0 : Int32), (), rfl, (by unfold f_Fo_isExchange; rw [if_neg c1, if_pos c2, if_neg c3, if_neg c4, if_pos c5]; try rfl), ht⟩, hS.F ht⟩) hS.2.2 dFo_isExchange_56
          · skip
            refine lv_iconst (v := (1 : Int32)) hx hb dFo_isExchange_51 (by decide) ?_
            refine lv_goto (tgt := 56) hx hb dFo_isExchange_52 (by decide) ?_
            exact W.zret (v := (1 : Int32)) hx hb hr rfl (fun t ht hW => ⟨⟨(1 : Int32), (), rfl, (by unfold f_Fo_isExchange; rw [if_neg c1, if_pos c2, if_neg c3, if_neg c4, if_neg c5]; try rfl), ht⟩, hS.F ht⟩) hS.2.2 dFo_isExchange_56
        · have c4 := bI_n c4
          refine lv_bipush (v := (9 : Int32)) hx hb dFo_isExchange_41 (by decide) ?_
          refine lv_goto (tgt := 48) hx hb dFo_isExchange_43 (by decide) ?_
          refine lv_icmp_gt (tgt := 55) hx hb dFo_isExchange_48 (by decide) (fun c6 => ?_) (fun c6 => ?_)
          · skip
            refine lv_iconst (v := (0 : Int32)) hx hb dFo_isExchange_55 (by decide) ?_
            exact W.zret (v := (0 : Int32)) hx hb hr rfl (fun t ht hW => ⟨⟨(0 : Int32), (), rfl, (by unfold f_Fo_isExchange; rw [if_neg c1, if_pos c2, if_neg c3, if_pos c4, if_pos c6]; try rfl), ht⟩, hS.F ht⟩) hS.2.2 dFo_isExchange_56
          · skip
            refine lv_iconst (v := (1 : Int32)) hx hb dFo_isExchange_51 (by decide) ?_
            refine lv_goto (tgt := 56) hx hb dFo_isExchange_52 (by decide) ?_
            exact W.zret (v := (1 : Int32)) hx hb hr rfl (fun t ht hW => ⟨⟨(1 : Int32), (), rfl, (by unfold f_Fo_isExchange; rw [if_neg c1, if_pos c2, if_neg c3, if_pos c4, if_neg c6]; try rfl), ht⟩, hS.F ht⟩) hS.2.2 dFo_isExchange_56

def f_Fo_hasOperand (a0 : Int64) : Bool :=
  if (f_Fi_usesSource a0) = true then
    if (10 : Int32) < (f_Fi_source a0) then
      false
    else
      if (f_Fi_immediate a0) = 0 then
        true
      else
        false
  else
    if (f_Fi_source a0) = 0 then
      true
    else
      false
set_option maxHeartbeats 4000000 in
set_option maxRecDepth 100000 in
theorem c_Fo_hasOperand (l : Launch) (Hp : Heap) (a0 : Int64) : Met l yFo_hasOperand wsFo_hasOperand ({ frames := 1, cells := 0, slots := 0, locals := 21 }) (va_Pc [.long a0] (fun U => U.heap = Hp)) (va_Qi (fun (r : Int32) (_ : Unit) => r = (bI (f_Fo_hasOperand a0))) (fun _ t => t.heap = Hp) (fun _ => False)) 0 0 (fun _ => False) := by
  refine Met.ofW (cc := cFo_hasOperand) (maxL := 2) (ret := (some .boolean)) (by decide) rfl ?_
  intro p e s m args below meth c s₁ B hml hv
  obtain ⟨rfl, rfl⟩ := hv
  have hx := B.exec
  have hb := B.bytes
  have hr := B.returns
  have hT : ∀ w ∈ tB, w.before _ s = true := fun w h => atoms_spec (ws := wsFo_hasOperand) B.pre w (List.mem_cons_of_mem _ h)
  have hown : s.vm.findClass "CompiledProgram$Form" = some m.cls := findClass_of_methodNamed B.named
  have hlocks := B.notSynchronized
  have hS : va_S (fun _ => False) s.heap s.heap [] := va_S.rf
  have hl := lv_entry ([.long a0]) (n := 2) (Nat.le_of_ble_eq_true rfl)
  rw [lg_entry_eq]
  generalize (lg_sl ([.long a0]) ++ List.replicate (2 - (lg_sl ([.long a0])).length) Slot.unset).toArray = ls at hl ⊢
  have hl : lv_has ls 2 [(0, .long a0)] := hl
  refine lv_lload_n hx hb dFo_hasOperand_0 rfl (lv_at hl 0 rfl) ?_
  refine va_calli (va_runS (As := [.long a0]) (rest := []) ⟨hx, hb, hml, hown, hT⟩ (c_Fi_usesSource l s.heap a0) (va_cwS 1 hT (gB_SV mw_192 mw_193 mw_16 mw_194) rfl rfl rfl (by decide +kernel) ⟨Nat.le_of_ble_eq_true rfl, Nat.le_of_ble_eq_true rfl⟩) ⟨fun _ _ _ _ q => q, fun U hU hW => ⟨rfl, hU⟩⟩ rfl rfl hl.1 rfl (lv_room (Nat.le_of_ble_eq_true rfl)) dFo_hasOperand_1 ⟨Nat.zero_le _, Nat.zero_le _⟩) hS (fun _ _ h => h.elim) (fun _ h => h.elim) (fun r u t H1 locs ht hvm hw hB hz8 hk8 hS => ?_)
  obtain rfl : s.heap = H1 := hB.symm.trans ht
  subst hw
  refine lv_if_eq (tgt := 31) hx hb dFo_hasOperand_4 (by decide) (fun c1 => ?_) (fun c1 => ?_)
  · have c1 := bI_z c1
    refine lv_lload_n hx hb dFo_hasOperand_31 rfl (lv_at hl 0 rfl) ?_
    refine va_calli (va_runS (As := [.long a0]) (rest := []) ⟨hx, hb, hml, hown, hT⟩ (c_Fi_source l s.heap a0) (va_cwS 1 hT (gB_SV mw_137 mw_138 mw_16 mw_139) rfl rfl rfl (by decide +kernel) ⟨Nat.le_of_ble_eq_true rfl, Nat.le_of_ble_eq_true rfl⟩) ⟨fun _ _ _ _ q => q, fun U hU hW => ⟨rfl, hU⟩⟩ rfl rfl hl.1 rfl (lv_room (Nat.le_of_ble_eq_true rfl)) dFo_hasOperand_32 ⟨Nat.zero_le _, Nat.zero_le _⟩) hS (fun _ _ h => h.elim) (fun _ h => h.elim) (fun r u t H1 locs ht hvm hw hB hz8 hk8 hS => ?_)
    obtain rfl : s.heap = H1 := hB.symm.trans ht
    subst hw
    refine lv_if_ne (tgt := 42) hx hb dFo_hasOperand_35 (by decide) (fun c2 => ?_) (fun c2 => ?_)
    · skip
      refine lv_iconst (v := (0 : Int32)) hx hb dFo_hasOperand_42 (by decide) ?_
      exact W.zret (v := (0 : Int32)) hx hb hr rfl (fun t ht hW => ⟨⟨(0 : Int32), (), rfl, (by unfold f_Fo_hasOperand; rw [if_neg c1, if_neg c2]; try rfl), ht⟩, hS.F ht⟩) hS.2.2 dFo_hasOperand_43
    · skip
      refine lv_iconst (v := (1 : Int32)) hx hb dFo_hasOperand_38 (by decide) ?_
      refine lv_goto (tgt := 43) hx hb dFo_hasOperand_39 (by decide) ?_
      exact W.zret (v := (1 : Int32)) hx hb hr rfl (fun t ht hW => ⟨⟨(1 : Int32), (), rfl, (by unfold f_Fo_hasOperand; rw [if_neg c1, if_pos c2]; try rfl), ht⟩, hS.F ht⟩) hS.2.2 dFo_hasOperand_43
  · have c1 := bI_n c1
    refine lv_lload_n hx hb dFo_hasOperand_7 rfl (lv_at hl 0 rfl) ?_
    refine va_calli (va_runS (As := [.long a0]) (rest := []) ⟨hx, hb, hml, hown, hT⟩ (c_Fi_source l s.heap a0) (va_cwS 1 hT (gB_SV mw_137 mw_138 mw_16 mw_139) rfl rfl rfl (by decide +kernel) ⟨Nat.le_of_ble_eq_true rfl, Nat.le_of_ble_eq_true rfl⟩) ⟨fun _ _ _ _ q => q, fun U hU hW => ⟨rfl, hU⟩⟩ rfl rfl hl.1 rfl (lv_room (Nat.le_of_ble_eq_true rfl)) dFo_hasOperand_8 ⟨Nat.zero_le _, Nat.zero_le _⟩) hS (fun _ _ h => h.elim) (fun _ h => h.elim) (fun r u t H1 locs ht hvm hw hB hz8 hk8 hS => ?_)
    obtain rfl : s.heap = H1 := hB.symm.trans ht
    subst hw
    refine lv_bipush (v := (10 : Int32)) hx hb dFo_hasOperand_11 (by decide) ?_
    refine lv_icmp_gt (tgt := 27) hx hb dFo_hasOperand_13 (by decide) (fun c3 => ?_) (fun c3 => ?_)
    · skip
      refine lv_iconst (v := (0 : Int32)) hx hb dFo_hasOperand_27 (by decide) ?_
      refine lv_goto (tgt := 43) hx hb dFo_hasOperand_28 (by decide) ?_
      exact W.zret (v := (0 : Int32)) hx hb hr rfl (fun t ht hW => ⟨⟨(0 : Int32), (), rfl, (by unfold f_Fo_hasOperand; rw [if_pos c1, if_pos c3]; try rfl), ht⟩, hS.F ht⟩) hS.2.2 dFo_hasOperand_43
    · skip
      refine lv_lload_n hx hb dFo_hasOperand_16 rfl (lv_at hl 0 rfl) ?_
      refine va_calli (va_runS (As := [.long a0]) (rest := []) ⟨hx, hb, hml, hown, hT⟩ (c_Fi_immediate l s.heap a0) (va_cwS 1 hT (gB_SV mw_152 mw_153 mw_16 mw_154) rfl rfl rfl (by decide +kernel) ⟨Nat.le_of_ble_eq_true rfl, Nat.le_of_ble_eq_true rfl⟩) ⟨fun _ _ _ _ q => q, fun U hU hW => ⟨rfl, hU⟩⟩ rfl rfl hl.1 rfl (lv_room (Nat.le_of_ble_eq_true rfl)) dFo_hasOperand_17 ⟨Nat.zero_le _, Nat.zero_le _⟩) hS (fun _ _ h => h.elim) (fun _ h => h.elim) (fun r u t H1 locs ht hvm hw hB hz8 hk8 hS => ?_)
      obtain rfl : s.heap = H1 := hB.symm.trans ht
      subst hw
      refine lv_if_ne (tgt := 27) hx hb dFo_hasOperand_20 (by decide) (fun c4 => ?_) (fun c4 => ?_)
      · skip
        refine lv_iconst (v := (0 : Int32)) hx hb dFo_hasOperand_27 (by decide) ?_
        refine lv_goto (tgt := 43) hx hb dFo_hasOperand_28 (by decide) ?_
        exact W.zret (v := (0 : Int32)) hx hb hr rfl (fun t ht hW => ⟨⟨(0 : Int32), (), rfl, (by unfold f_Fo_hasOperand; rw [if_pos c1, if_neg c3, if_neg c4]; try rfl), ht⟩, hS.F ht⟩) hS.2.2 dFo_hasOperand_43
      · skip
        refine lv_iconst (v := (1 : Int32)) hx hb dFo_hasOperand_23 (by decide) ?_
        refine lv_goto (tgt := 43) hx hb dFo_hasOperand_24 (by decide) ?_
        exact W.zret (v := (1 : Int32)) hx hb hr rfl (fun t ht hW => ⟨⟨(1 : Int32), (), rfl, (by unfold f_Fo_hasOperand; rw [if_pos c1, if_neg c3, if_pos c4]; try rfl), ht⟩, hS.F ht⟩) hS.2.2 dFo_hasOperand_43

def f_Fo_isPerhapsJump (a0 : Int64) : Bool :=
  if (10 : Int32) < (f_Fi_target a0) then
    false
  else
    if (f_Fo_hasOperand a0) = true then
      true
    else
      false
set_option maxHeartbeats 4000000 in
set_option maxRecDepth 100000 in
theorem c_Fo_isPerhapsJump (l : Launch) (Hp : Heap) (a0 : Int64) : Met l yFo_isPerhapsJump wsFo_isPerhapsJump ({ frames := 2, cells := 0, slots := 0, locals := 42 }) (va_Pc [.long a0] (fun U => U.heap = Hp)) (va_Qi (fun (r : Int32) (_ : Unit) => r = (bI (f_Fo_isPerhapsJump a0))) (fun _ t => t.heap = Hp) (fun _ => False)) 0 0 (fun _ => False) := by
  refine Met.ofW (cc := cFo_isPerhapsJump) (maxL := 2) (ret := (some .boolean)) (by decide) rfl ?_
  intro p e s m args below meth c s₁ B hml hv
  obtain ⟨rfl, rfl⟩ := hv
  have hx := B.exec
  have hb := B.bytes
  have hr := B.returns
  have hT : ∀ w ∈ tB, w.before _ s = true := fun w h => atoms_spec (ws := wsFo_isPerhapsJump) B.pre w (List.mem_cons_of_mem _ h)
  have hown : s.vm.findClass "CompiledProgram$Form" = some m.cls := findClass_of_methodNamed B.named
  have hlocks := B.notSynchronized
  have hS : va_S (fun _ => False) s.heap s.heap [] := va_S.rf
  have hl := lv_entry ([.long a0]) (n := 2) (Nat.le_of_ble_eq_true rfl)
  rw [lg_entry_eq]
  generalize (lg_sl ([.long a0]) ++ List.replicate (2 - (lg_sl ([.long a0])).length) Slot.unset).toArray = ls at hl ⊢
  have hl : lv_has ls 2 [(0, .long a0)] := hl
  refine lv_lload_n hx hb dFo_isPerhapsJump_0 rfl (lv_at hl 0 rfl) ?_
  refine va_calli (va_runS (As := [.long a0]) (rest := []) ⟨hx, hb, hml, hown, hT⟩ (c_Fi_target l s.heap a0) (va_cwS 1 hT (gB_SV mw_146 mw_147 mw_16 mw_148) rfl rfl rfl (by decide +kernel) ⟨Nat.le_of_ble_eq_true rfl, Nat.le_of_ble_eq_true rfl⟩) ⟨fun _ _ _ _ q => q, fun U hU hW => ⟨rfl, hU⟩⟩ rfl rfl hl.1 rfl (lv_room (Nat.le_of_ble_eq_true rfl)) dFo_isPerhapsJump_1 ⟨Nat.zero_le _, Nat.zero_le _⟩) hS (fun _ _ h => h.elim) (fun _ h => h.elim) (fun r u t H1 locs ht hvm hw hB hz8 hk8 hS => ?_)
  obtain rfl : s.heap = H1 := hB.symm.trans ht
  subst hw
  refine lv_bipush (v := (10 : Int32)) hx hb dFo_isPerhapsJump_4 (by decide) ?_
  refine lv_icmp_gt (tgt := 20) hx hb dFo_isPerhapsJump_6 (by decide) (fun c1 => ?_) (fun c1 => ?_)
  · skip
    refine lv_iconst (v := (0 : Int32)) hx hb dFo_isPerhapsJump_20 (by decide) ?_
    exact W.zret (v := (0 : Int32)) hx hb hr rfl (fun t ht hW => ⟨⟨(0 : Int32), (), rfl, (by unfold f_Fo_isPerhapsJump; rw [if_pos c1]; try rfl), ht⟩, hS.F ht⟩) hS.2.2 dFo_isPerhapsJump_21
  · skip
    refine lv_lload_n hx hb dFo_isPerhapsJump_9 rfl (lv_at hl 0 rfl) ?_
    refine va_calli (va_runS (As := [.long a0]) (rest := []) ⟨hx, hb, hml, hown, hT⟩ (c_Fo_hasOperand l s.heap a0) (cwS 1 hT (gB_S mw_189 mw_190 mw_15 mw_191) rfl rfl rfl (by decide +kernel) ⟨Nat.le_of_ble_eq_true rfl, Nat.le_of_ble_eq_true rfl⟩) ⟨fun _ _ _ _ q => q, fun U hU hW => ⟨rfl, hU⟩⟩ rfl rfl hl.1 rfl (lv_room (Nat.le_of_ble_eq_true rfl)) dFo_isPerhapsJump_10 ⟨Nat.zero_le _, Nat.zero_le _⟩) hS (fun _ _ h => h.elim) (fun _ h => h.elim) (fun r u t H1 locs ht hvm hw hB hz8 hk8 hS => ?_)
    obtain rfl : s.heap = H1 := hB.symm.trans ht
    subst hw
    refine lv_if_eq (tgt := 20) hx hb dFo_isPerhapsJump_13 (by decide) (fun c2 => ?_) (fun c2 => ?_)
    · have c2 := bI_z c2
      refine lv_iconst (v := (0 : Int32)) hx hb dFo_isPerhapsJump_20 (by decide) ?_
      exact W.zret (v := (0 : Int32)) hx hb hr rfl (fun t ht hW => ⟨⟨(0 : Int32), (), rfl, (by unfold f_Fo_isPerhapsJump; rw [if_neg c1, if_neg c2]; try rfl), ht⟩, hS.F ht⟩) hS.2.2 dFo_isPerhapsJump_21
    · have c2 := bI_n c2
      refine lv_iconst (v := (1 : Int32)) hx hb dFo_isPerhapsJump_16 (by decide) ?_
      refine lv_goto (tgt := 21) hx hb dFo_isPerhapsJump_17 (by decide) ?_
      exact W.zret (v := (1 : Int32)) hx hb hr rfl (fun t ht hW => ⟨⟨(1 : Int32), (), rfl, (by unfold f_Fo_isPerhapsJump; rw [if_neg c1, if_pos c2]; try rfl), ht⟩, hS.F ht⟩) hS.2.2 dFo_isPerhapsJump_21

def f_Fo_isCallOrExitOrJump (a0 : Int64) : Bool :=
  if (f_Fi_target a0) = 0 then
    if (f_Fi_source a0) = 0 then
      if (f_Fi_code a0) = (5 : Int32) then
        if (f_Fi_immediate a0) = 0 then
          true
        else
          false
      else
        if (f_Fi_code a0) = (6 : Int32) then
          if (f_Fi_offset a0) = 0 then
            true
          else
            false
        else
          if (f_Fi_code a0) = (133 : Int32) then
            if (f_Fi_offset a0) = 0 then
              true
            else
              false
          else
            if (f_Fi_code a0) = (149 : Int32) then
              if (f_Fi_offset a0) = 0 then
                if (f_Fi_immediate a0) = 0 then
                  true
                else
                  false
              else
                false
            else
              false
    else
      false
  else
    false
set_option maxHeartbeats 4000000 in
set_option maxRecDepth 100000 in
theorem c_Fo_isCallOrExitOrJump (l : Launch) (Hp : Heap) (a0 : Int64) : Met l yFo_isCallOrExitOrJump wsFo_isCallOrExitOrJump ({ frames := 1, cells := 0, slots := 0, locals := 21 }) (va_Pc [.long a0] (fun U => U.heap = Hp)) (va_Qi (fun (r : Int32) (_ : Unit) => r = (bI (f_Fo_isCallOrExitOrJump a0))) (fun _ t => t.heap = Hp) (fun _ => False)) 0 0 (fun _ => False) := by
  refine Met.ofW (cc := cFo_isCallOrExitOrJump) (maxL := 2) (ret := (some .boolean)) (by decide) rfl ?_
  intro p e s m args below meth c s₁ B hml hv
  obtain ⟨rfl, rfl⟩ := hv
  have hx := B.exec
  have hb := B.bytes
  have hr := B.returns
  have hT : ∀ w ∈ tB, w.before _ s = true := fun w h => atoms_spec (ws := wsFo_isCallOrExitOrJump) B.pre w (List.mem_cons_of_mem _ h)
  have hown : s.vm.findClass "CompiledProgram$Form" = some m.cls := findClass_of_methodNamed B.named
  have hlocks := B.notSynchronized
  have hS : va_S (fun _ => False) s.heap s.heap [] := va_S.rf
  have hl := lv_entry ([.long a0]) (n := 2) (Nat.le_of_ble_eq_true rfl)
  rw [lg_entry_eq]
  generalize (lg_sl ([.long a0]) ++ List.replicate (2 - (lg_sl ([.long a0])).length) Slot.unset).toArray = ls at hl ⊢
  have hl : lv_has ls 2 [(0, .long a0)] := hl
  refine lv_lload_n hx hb dFo_isCallOrExitOrJump_0 rfl (lv_at hl 0 rfl) ?_
  refine va_calli (va_runS (As := [.long a0]) (rest := []) ⟨hx, hb, hml, hown, hT⟩ (c_Fi_target l s.heap a0) (va_cwS 1 hT (gB_SV mw_146 mw_147 mw_16 mw_148) rfl rfl rfl (by decide +kernel) ⟨Nat.le_of_ble_eq_true rfl, Nat.le_of_ble_eq_true rfl⟩) ⟨fun _ _ _ _ q => q, fun U hU hW => ⟨rfl, hU⟩⟩ rfl rfl hl.1 rfl (lv_room (Nat.le_of_ble_eq_true rfl)) dFo_isCallOrExitOrJump_1 ⟨Nat.zero_le _, Nat.zero_le _⟩) hS (fun _ _ h => h.elim) (fun _ h => h.elim) (fun r u t H1 locs ht hvm hw hB hz8 hk8 hS => ?_)
  obtain rfl : s.heap = H1 := hB.symm.trans ht
  subst hw
  refine lv_if_ne (tgt := 14) hx hb dFo_isCallOrExitOrJump_4 (by decide) (fun c1 => ?_) (fun c1 => ?_)
  · skip
    refine lv_iconst (v := (0 : Int32)) hx hb dFo_isCallOrExitOrJump_14 (by decide) ?_
    exact W.zret (v := (0 : Int32)) hx hb hr rfl (fun t ht hW => ⟨⟨(0 : Int32), (), rfl, (by unfold f_Fo_isCallOrExitOrJump; rw [if_neg c1]; try rfl), ht⟩, hS.F ht⟩) hS.2.2 dFo_isCallOrExitOrJump_15
  · skip
    refine lv_lload_n hx hb dFo_isCallOrExitOrJump_7 rfl (lv_at hl 0 rfl) ?_
    refine va_calli (va_runS (As := [.long a0]) (rest := []) ⟨hx, hb, hml, hown, hT⟩ (c_Fi_source l s.heap a0) (va_cwS 1 hT (gB_SV mw_137 mw_138 mw_16 mw_139) rfl rfl rfl (by decide +kernel) ⟨Nat.le_of_ble_eq_true rfl, Nat.le_of_ble_eq_true rfl⟩) ⟨fun _ _ _ _ q => q, fun U hU hW => ⟨rfl, hU⟩⟩ rfl rfl hl.1 rfl (lv_room (Nat.le_of_ble_eq_true rfl)) dFo_isCallOrExitOrJump_8 ⟨Nat.zero_le _, Nat.zero_le _⟩) hS (fun _ _ h => h.elim) (fun _ h => h.elim) (fun r u t H1 locs ht hvm hw hB hz8 hk8 hS => ?_)
    obtain rfl : s.heap = H1 := hB.symm.trans ht
    subst hw
    refine lv_if_eq (tgt := 16) hx hb dFo_isCallOrExitOrJump_11 (by decide) (fun c2 => ?_) (fun c2 => ?_)
    · skip
      refine lv_lload_n hx hb dFo_isCallOrExitOrJump_16 rfl (lv_at hl 0 rfl) ?_
      refine va_calli (va_runS (As := [.long a0]) (rest := []) ⟨hx, hb, hml, hown, hT⟩ (c_Fi_code l s.heap a0) (va_cwS 1 hT (gB_SV mw_199 mw_144 mw_16 mw_145) rfl rfl rfl (by decide +kernel) ⟨Nat.le_of_ble_eq_true rfl, Nat.le_of_ble_eq_true rfl⟩) ⟨fun _ _ _ _ q => q, fun U hU hW => ⟨rfl, hU⟩⟩ rfl rfl hl.1 rfl (lv_room (Nat.le_of_ble_eq_true rfl)) dFo_isCallOrExitOrJump_17 ⟨Nat.zero_le _, Nat.zero_le _⟩) hS (fun _ _ h => h.elim) (fun _ h => h.elim) (fun r u t H1 locs ht hvm hw hB hz8 hk8 hS => ?_)
      obtain rfl : s.heap = H1 := hB.symm.trans ht
      subst hw
      by_cases c3 : (f_Fi_code a0) = (5 : Int32)
      · skip
        refine lv_lookup (tgt := 64) (off := 44) hx hb dFo_isCallOrExitOrJump_20 (by decide) (by rw [c3]; rfl) (by decide) ?_
        refine lv_lload_n hx hb dFo_isCallOrExitOrJump_64 rfl (lv_at hl 0 rfl) ?_
        refine va_calli (va_runS (As := [.long a0]) (rest := []) ⟨hx, hb, hml, hown, hT⟩ (c_Fi_immediate l s.heap a0) (va_cwS 1 hT (gB_SV mw_152 mw_153 mw_16 mw_154) rfl rfl rfl (by decide +kernel) ⟨Nat.le_of_ble_eq_true rfl, Nat.le_of_ble_eq_true rfl⟩) ⟨fun _ _ _ _ q => q, fun U hU hW => ⟨rfl, hU⟩⟩ rfl rfl hl.1 rfl (lv_room (Nat.le_of_ble_eq_true rfl)) dFo_isCallOrExitOrJump_65 ⟨Nat.zero_le _, Nat.zero_le _⟩) hS (fun _ _ h => h.elim) (fun _ h => h.elim) (fun r u t H1 locs ht hvm hw hB hz8 hk8 hS => ?_)
        obtain rfl : s.heap = H1 := hB.symm.trans ht
        subst hw
        refine lv_if_ne (tgt := 75) hx hb dFo_isCallOrExitOrJump_68 (by decide) (fun c4 => ?_) (fun c4 => ?_)
        · skip
          refine lv_iconst (v := (0 : Int32)) hx hb dFo_isCallOrExitOrJump_75 (by decide) ?_
          exact W.zret (v := (0 : Int32)) hx hb hr rfl (fun t ht hW => ⟨⟨(0 : Int32), (), rfl, (by unfold f_Fo_isCallOrExitOrJump; rw [if_pos c1, if_pos c2, if_pos c3, if_neg c4]; try rfl), ht⟩, hS.F ht⟩) hS.2.2 dFo_isCallOrExitOrJump_76
        · skip
          refine lv_iconst (v := (1 : Int32)) hx hb dFo_isCallOrExitOrJump_71 (by decide) ?_
          refine lv_goto (tgt := 76) hx hb dFo_isCallOrExitOrJump_72 (by decide) ?_
          exact W.zret (v := (1 : Int32)) hx hb hr rfl (fun t ht hW => ⟨⟨(1 : Int32), (), rfl, (by unfold f_Fo_isCallOrExitOrJump; rw [if_pos c1, if_pos c2, if_pos c3, if_pos c4]; try rfl), ht⟩, hS.F ht⟩) hS.2.2 dFo_isCallOrExitOrJump_76
      by_cases c5 : (f_Fi_code a0) = (6 : Int32)
      · skip
        refine lv_lookup (tgt := 77) (off := 57) hx hb dFo_isCallOrExitOrJump_20 (by decide) (by rw [c5]; rfl) (by decide) ?_
        refine lv_lload_n hx hb dFo_isCallOrExitOrJump_77 rfl (lv_at hl 0 rfl) ?_
        refine va_calli (va_runS (As := [.long a0]) (rest := []) ⟨hx, hb, hml, hown, hT⟩ (c_Fi_offset l s.heap a0) (va_cwS 1 hT (gB_SV mw_149 mw_150 mw_16 mw_151) rfl rfl rfl (by decide +kernel) ⟨Nat.le_of_ble_eq_true rfl, Nat.le_of_ble_eq_true rfl⟩) ⟨fun _ _ _ _ q => q, fun U hU hW => ⟨rfl, hU⟩⟩ rfl rfl hl.1 rfl (lv_room (Nat.le_of_ble_eq_true rfl)) dFo_isCallOrExitOrJump_78 ⟨Nat.zero_le _, Nat.zero_le _⟩) hS (fun _ _ h => h.elim) (fun _ h => h.elim) (fun r u t H1 locs ht hvm hw hB hz8 hk8 hS => ?_)
        obtain rfl : s.heap = H1 := hB.symm.trans ht
        subst hw
        refine lv_if_ne (tgt := 88) hx hb dFo_isCallOrExitOrJump_81 (by decide) (fun c6 => ?_) (fun c6 => ?_)
        · skip
          refine lv_iconst (v := (0 : Int32)) hx hb dFo_isCallOrExitOrJump_88 (by decide) ?_
          exact W.zret (v := (0 : Int32)) hx hb hr rfl (fun t ht hW => ⟨⟨(0 : Int32), (), rfl, (by unfold f_Fo_isCallOrExitOrJump; rw [if_pos c1, if_pos c2, if_neg c3, if_pos c5, if_neg c6]; try rfl), ht⟩, hS.F ht⟩) hS.2.2 dFo_isCallOrExitOrJump_89
        · skip
          refine lv_iconst (v := (1 : Int32)) hx hb dFo_isCallOrExitOrJump_84 (by decide) ?_
          refine lv_goto (tgt := 89) hx hb dFo_isCallOrExitOrJump_85 (by decide) ?_
          exact W.zret (v := (1 : Int32)) hx hb hr rfl (fun t ht hW => ⟨⟨(1 : Int32), (), rfl, (by unfold f_Fo_isCallOrExitOrJump; rw [if_pos c1, if_pos c2, if_neg c3, if_pos c5, if_pos c6]; try rfl), ht⟩, hS.F ht⟩) hS.2.2 dFo_isCallOrExitOrJump_89
      by_cases c7 : (f_Fi_code a0) = (133 : Int32)
      · skip
        refine lv_lookup (tgt := 77) (off := 57) hx hb dFo_isCallOrExitOrJump_20 (by decide) (by rw [c7]; rfl) (by decide) ?_
        refine lv_lload_n hx hb dFo_isCallOrExitOrJump_77 rfl (lv_at hl 0 rfl) ?_
        refine va_calli (va_runS (As := [.long a0]) (rest := []) ⟨hx, hb, hml, hown, hT⟩ (c_Fi_offset l s.heap a0) (va_cwS 1 hT (gB_SV mw_149 mw_150 mw_16 mw_151) rfl rfl rfl (by decide +kernel) ⟨Nat.le_of_ble_eq_true rfl, Nat.le_of_ble_eq_true rfl⟩) ⟨fun _ _ _ _ q => q, fun U hU hW => ⟨rfl, hU⟩⟩ rfl rfl hl.1 rfl (lv_room (Nat.le_of_ble_eq_true rfl)) dFo_isCallOrExitOrJump_78 ⟨Nat.zero_le _, Nat.zero_le _⟩) hS (fun _ _ h => h.elim) (fun _ h => h.elim) (fun r u t H1 locs ht hvm hw hB hz8 hk8 hS => ?_)
        obtain rfl : s.heap = H1 := hB.symm.trans ht
        subst hw
        refine lv_if_ne (tgt := 88) hx hb dFo_isCallOrExitOrJump_81 (by decide) (fun c8 => ?_) (fun c8 => ?_)
        · skip
          refine lv_iconst (v := (0 : Int32)) hx hb dFo_isCallOrExitOrJump_88 (by decide) ?_
          exact W.zret (v := (0 : Int32)) hx hb hr rfl (fun t ht hW => ⟨⟨(0 : Int32), (), rfl, (by unfold f_Fo_isCallOrExitOrJump; rw [if_pos c1, if_pos c2, if_neg c3, if_neg c5, if_pos c7, if_neg c8]; try rfl), ht⟩, hS.F ht⟩) hS.2.2 dFo_isCallOrExitOrJump_89
        · skip
          refine lv_iconst (v := (1 : Int32)) hx hb dFo_isCallOrExitOrJump_84 (by decide) ?_
          refine lv_goto (tgt := 89) hx hb dFo_isCallOrExitOrJump_85 (by decide) ?_
          exact W.zret (v := (1 : Int32)) hx hb hr rfl (fun t ht hW => ⟨⟨(1 : Int32), (), rfl, (by unfold f_Fo_isCallOrExitOrJump; rw [if_pos c1, if_pos c2, if_neg c3, if_neg c5, if_pos c7, if_pos c8]; try rfl), ht⟩, hS.F ht⟩) hS.2.2 dFo_isCallOrExitOrJump_89
      by_cases c9 : (f_Fi_code a0) = (149 : Int32)
      · skip
        refine lv_lookup (tgt := 90) (off := 70) hx hb dFo_isCallOrExitOrJump_20 (by decide) (by rw [c9]; rfl) (by decide) ?_
        refine lv_lload_n hx hb dFo_isCallOrExitOrJump_90 rfl (lv_at hl 0 rfl) ?_
        refine va_calli (va_runS (As := [.long a0]) (rest := []) ⟨hx, hb, hml, hown, hT⟩ (c_Fi_offset l s.heap a0) (va_cwS 1 hT (gB_SV mw_149 mw_150 mw_16 mw_151) rfl rfl rfl (by decide +kernel) ⟨Nat.le_of_ble_eq_true rfl, Nat.le_of_ble_eq_true rfl⟩) ⟨fun _ _ _ _ q => q, fun U hU hW => ⟨rfl, hU⟩⟩ rfl rfl hl.1 rfl (lv_room (Nat.le_of_ble_eq_true rfl)) dFo_isCallOrExitOrJump_91 ⟨Nat.zero_le _, Nat.zero_le _⟩) hS (fun _ _ h => h.elim) (fun _ h => h.elim) (fun r u t H1 locs ht hvm hw hB hz8 hk8 hS => ?_)
        obtain rfl : s.heap = H1 := hB.symm.trans ht
        subst hw
        refine lv_if_ne (tgt := 108) hx hb dFo_isCallOrExitOrJump_94 (by decide) (fun c10 => ?_) (fun c10 => ?_)
        · skip
          refine lv_iconst (v := (0 : Int32)) hx hb dFo_isCallOrExitOrJump_108 (by decide) ?_
          exact W.zret (v := (0 : Int32)) hx hb hr rfl (fun t ht hW => ⟨⟨(0 : Int32), (), rfl, (by unfold f_Fo_isCallOrExitOrJump; rw [if_pos c1, if_pos c2, if_neg c3, if_neg c5, if_neg c7, if_pos c9, if_neg c10]; try rfl), ht⟩, hS.F ht⟩) hS.2.2 dFo_isCallOrExitOrJump_109
        · skip
          refine lv_lload_n hx hb dFo_isCallOrExitOrJump_97 rfl (lv_at hl 0 rfl) ?_
          refine va_calli (va_runS (As := [.long a0]) (rest := []) ⟨hx, hb, hml, hown, hT⟩ (c_Fi_immediate l s.heap a0) (va_cwS 1 hT (gB_SV mw_152 mw_153 mw_16 mw_154) rfl rfl rfl (by decide +kernel) ⟨Nat.le_of_ble_eq_true rfl, Nat.le_of_ble_eq_true rfl⟩) ⟨fun _ _ _ _ q => q, fun U hU hW => ⟨rfl, hU⟩⟩ rfl rfl hl.1 rfl (lv_room (Nat.le_of_ble_eq_true rfl)) dFo_isCallOrExitOrJump_98 ⟨Nat.zero_le _, Nat.zero_le _⟩) hS (fun _ _ h => h.elim) (fun _ h => h.elim) (fun r u t H1 locs ht hvm hw hB hz8 hk8 hS => ?_)
          obtain rfl : s.heap = H1 := hB.symm.trans ht
          subst hw
          refine lv_if_ne (tgt := 108) hx hb dFo_isCallOrExitOrJump_101 (by decide) (fun c11 => ?_) (fun c11 => ?_)
          · skip
            refine lv_iconst (v := (0 : Int32)) hx hb dFo_isCallOrExitOrJump_108 (by decide) ?_
            exact W.zret (v := (0 : Int32)) hx hb hr rfl (fun t ht hW => ⟨⟨(0 : Int32), (), rfl, (by unfold f_Fo_isCallOrExitOrJump; rw [if_pos c1, if_pos c2, if_neg c3, if_neg c5, if_neg c7, if_pos c9, if_pos c10, if_neg c11]; try rfl), ht⟩, hS.F ht⟩) hS.2.2 dFo_isCallOrExitOrJump_109
          · skip
            refine lv_iconst (v := (1 : Int32)) hx hb dFo_isCallOrExitOrJump_104 (by decide) ?_
            refine lv_goto (tgt := 109) hx hb dFo_isCallOrExitOrJump_105 (by decide) ?_
            exact W.zret (v := (1 : Int32)) hx hb hr rfl (fun t ht hW => ⟨⟨(1 : Int32), (), rfl, (by unfold f_Fo_isCallOrExitOrJump; rw [if_pos c1, if_pos c2, if_neg c3, if_neg c5, if_neg c7, if_pos c9, if_pos c10, if_pos c11]; try rfl), ht⟩, hS.F ht⟩) hS.2.2 dFo_isCallOrExitOrJump_109
      refine lv_lookup (tgt := 110) (off := 90) hx hb dFo_isCallOrExitOrJump_20 (by decide) (by rw [lv_osw c3 (by decide), lv_osw c5 (by decide), lv_osw c7 (by decide), lv_osw c9 (by decide)]; rfl) (by decide) ?_
      refine lv_iconst (v := (0 : Int32)) hx hb dFo_isCallOrExitOrJump_110 (by decide) ?_
      exact W.zret (v := (0 : Int32)) hx hb hr rfl (fun t ht hW => ⟨⟨(0 : Int32), (), rfl, (by unfold f_Fo_isCallOrExitOrJump; rw [if_pos c1, if_pos c2, if_neg c3, if_neg c5, if_neg c7, if_neg c9]; try rfl), ht⟩, hS.F ht⟩) hS.2.2 dFo_isCallOrExitOrJump_111
    · skip
      refine lv_iconst (v := (0 : Int32)) hx hb dFo_isCallOrExitOrJump_14 (by decide) ?_
      exact W.zret (v := (0 : Int32)) hx hb hr rfl (fun t ht hW => ⟨⟨(0 : Int32), (), rfl, (by unfold f_Fo_isCallOrExitOrJump; rw [if_pos c1, if_neg c2]; try rfl), ht⟩, hS.F ht⟩) hS.2.2 dFo_isCallOrExitOrJump_15

def f_Fo_isMoveOffset (a0 : Int64) : Bool :=
  if (f_Fi_offset a0) = (0 : Int32) then
    true
  else
    if (f_Fi_offset a0) = (8 : Int32) then
      (f_Fi_usesSource a0)
    else
      if (f_Fi_offset a0) = (16 : Int32) then
        (f_Fi_usesSource a0)
      else
        if (f_Fi_offset a0) = (32 : Int32) then
          if (f_Fi_usesSource a0) = true then
            if (f_Fi_kind a0) = (7 : Int32) then
              true
            else
              false
          else
            false
        else
          false
set_option maxHeartbeats 4000000 in
set_option maxRecDepth 100000 in
theorem c_Fo_isMoveOffset (l : Launch) (Hp : Heap) (a0 : Int64) : Met l yFo_isMoveOffset wsFo_isMoveOffset ({ frames := 1, cells := 0, slots := 0, locals := 21 }) (va_Pc [.long a0] (fun U => U.heap = Hp)) (va_Qi (fun (r : Int32) (_ : Unit) => r = (bI (f_Fo_isMoveOffset a0))) (fun _ t => t.heap = Hp) (fun _ => False)) 0 0 (fun _ => False) := by
  refine Met.ofW (cc := cFo_isMoveOffset) (maxL := 2) (ret := (some .boolean)) (by decide) rfl ?_
  intro p e s m args below meth c s₁ B hml hv
  obtain ⟨rfl, rfl⟩ := hv
  have hx := B.exec
  have hb := B.bytes
  have hr := B.returns
  have hT : ∀ w ∈ tB, w.before _ s = true := fun w h => atoms_spec (ws := wsFo_isMoveOffset) B.pre w (List.mem_cons_of_mem _ h)
  have hown : s.vm.findClass "CompiledProgram$Form" = some m.cls := findClass_of_methodNamed B.named
  have hlocks := B.notSynchronized
  have hS : va_S (fun _ => False) s.heap s.heap [] := va_S.rf
  have hl := lv_entry ([.long a0]) (n := 2) (Nat.le_of_ble_eq_true rfl)
  rw [lg_entry_eq]
  generalize (lg_sl ([.long a0]) ++ List.replicate (2 - (lg_sl ([.long a0])).length) Slot.unset).toArray = ls at hl ⊢
  have hl : lv_has ls 2 [(0, .long a0)] := hl
  refine lv_lload_n hx hb dFo_isMoveOffset_0 rfl (lv_at hl 0 rfl) ?_
  refine va_calli (va_runS (As := [.long a0]) (rest := []) ⟨hx, hb, hml, hown, hT⟩ (c_Fi_offset l s.heap a0) (va_cwS 1 hT (gB_SV mw_149 mw_150 mw_16 mw_151) rfl rfl rfl (by decide +kernel) ⟨Nat.le_of_ble_eq_true rfl, Nat.le_of_ble_eq_true rfl⟩) ⟨fun _ _ _ _ q => q, fun U hU hW => ⟨rfl, hU⟩⟩ rfl rfl hl.1 rfl (lv_room (Nat.le_of_ble_eq_true rfl)) dFo_isMoveOffset_1 ⟨Nat.zero_le _, Nat.zero_le _⟩) hS (fun _ _ h => h.elim) (fun _ h => h.elim) (fun r u t H1 locs ht hvm hw hB hz8 hk8 hS => ?_)
  obtain rfl : s.heap = H1 := hB.symm.trans ht
  subst hw
  by_cases c1 : (f_Fi_offset a0) = (0 : Int32)
  · skip
    refine lv_lookup (tgt := 48) (off := 44) hx hb dFo_isMoveOffset_4 (by decide) (by rw [c1]; rfl) (by decide) ?_
    refine lv_iconst (v := (1 : Int32)) hx hb dFo_isMoveOffset_48 (by decide) ?_
    exact W.zret (v := (1 : Int32)) hx hb hr rfl (fun t ht hW => ⟨⟨(1 : Int32), (), rfl, (by unfold f_Fo_isMoveOffset; rw [if_pos c1]; try rfl), ht⟩, hS.F ht⟩) hS.2.2 dFo_isMoveOffset_49
  by_cases c2 : (f_Fi_offset a0) = (8 : Int32)
  · skip
    refine lv_lookup (tgt := 50) (off := 46) hx hb dFo_isMoveOffset_4 (by decide) (by rw [c2]; rfl) (by decide) ?_
    refine lv_lload_n hx hb dFo_isMoveOffset_50 rfl (lv_at hl 0 rfl) ?_
    refine va_calli (va_runS (As := [.long a0]) (rest := []) ⟨hx, hb, hml, hown, hT⟩ (c_Fi_usesSource l s.heap a0) (va_cwS 1 hT (gB_SV mw_192 mw_193 mw_16 mw_194) rfl rfl rfl (by decide +kernel) ⟨Nat.le_of_ble_eq_true rfl, Nat.le_of_ble_eq_true rfl⟩) ⟨fun _ _ _ _ q => q, fun U hU hW => ⟨rfl, hU⟩⟩ rfl rfl hl.1 rfl (lv_room (Nat.le_of_ble_eq_true rfl)) dFo_isMoveOffset_51 ⟨Nat.zero_le _, Nat.zero_le _⟩) hS (fun _ _ h => h.elim) (fun _ h => h.elim) (fun r u t H1 locs ht hvm hw hB hz8 hk8 hS => ?_)
    obtain rfl : s.heap = H1 := hB.symm.trans ht
    subst hw
    exact W.zret (v := (bI (f_Fi_usesSource a0))) hx hb hr (bI_nar _) (fun t ht hW => ⟨⟨(bI (f_Fi_usesSource a0)), (), rfl, (by unfold f_Fo_isMoveOffset; rw [if_neg c1, if_pos c2]; try rfl), ht⟩, hS.F ht⟩) hS.2.2 dFo_isMoveOffset_54
  by_cases c3 : (f_Fi_offset a0) = (16 : Int32)
  · skip
    refine lv_lookup (tgt := 50) (off := 46) hx hb dFo_isMoveOffset_4 (by decide) (by rw [c3]; rfl) (by decide) ?_
    refine lv_lload_n hx hb dFo_isMoveOffset_50 rfl (lv_at hl 0 rfl) ?_
    refine va_calli (va_runS (As := [.long a0]) (rest := []) ⟨hx, hb, hml, hown, hT⟩ (c_Fi_usesSource l s.heap a0) (va_cwS 1 hT (gB_SV mw_192 mw_193 mw_16 mw_194) rfl rfl rfl (by decide +kernel) ⟨Nat.le_of_ble_eq_true rfl, Nat.le_of_ble_eq_true rfl⟩) ⟨fun _ _ _ _ q => q, fun U hU hW => ⟨rfl, hU⟩⟩ rfl rfl hl.1 rfl (lv_room (Nat.le_of_ble_eq_true rfl)) dFo_isMoveOffset_51 ⟨Nat.zero_le _, Nat.zero_le _⟩) hS (fun _ _ h => h.elim) (fun _ h => h.elim) (fun r u t H1 locs ht hvm hw hB hz8 hk8 hS => ?_)
    obtain rfl : s.heap = H1 := hB.symm.trans ht
    subst hw
    exact W.zret (v := (bI (f_Fi_usesSource a0))) hx hb hr (bI_nar _) (fun t ht hW => ⟨⟨(bI (f_Fi_usesSource a0)), (), rfl, (by unfold f_Fo_isMoveOffset; rw [if_neg c1, if_neg c2, if_pos c3]; try rfl), ht⟩, hS.F ht⟩) hS.2.2 dFo_isMoveOffset_54
  by_cases c4 : (f_Fi_offset a0) = (32 : Int32)
  · skip
    refine lv_lookup (tgt := 55) (off := 51) hx hb dFo_isMoveOffset_4 (by decide) (by rw [c4]; rfl) (by decide) ?_
    refine lv_lload_n hx hb dFo_isMoveOffset_55 rfl (lv_at hl 0 rfl) ?_
    refine va_calli (va_runS (As := [.long a0]) (rest := []) ⟨hx, hb, hml, hown, hT⟩ (c_Fi_usesSource l s.heap a0) (va_cwS 1 hT (gB_SV mw_192 mw_193 mw_16 mw_194) rfl rfl rfl (by decide +kernel) ⟨Nat.le_of_ble_eq_true rfl, Nat.le_of_ble_eq_true rfl⟩) ⟨fun _ _ _ _ q => q, fun U hU hW => ⟨rfl, hU⟩⟩ rfl rfl hl.1 rfl (lv_room (Nat.le_of_ble_eq_true rfl)) dFo_isMoveOffset_56 ⟨Nat.zero_le _, Nat.zero_le _⟩) hS (fun _ _ h => h.elim) (fun _ h => h.elim) (fun r u t H1 locs ht hvm hw hB hz8 hk8 hS => ?_)
    obtain rfl : s.heap = H1 := hB.symm.trans ht
    subst hw
    refine lv_if_eq (tgt := 75) hx hb dFo_isMoveOffset_59 (by decide) (fun c5 => ?_) (fun c5 => ?_)
    · have c5 := bI_z c5
      refine lv_iconst (v := (0 : Int32)) hx hb dFo_isMoveOffset_75 (by decide) ?_
      exact W.zret (v := (0 : Int32)) hx hb hr rfl (fun t ht hW => ⟨⟨(0 : Int32), (), rfl, (by unfold f_Fo_isMoveOffset; rw [if_neg c1, if_neg c2, if_neg c3, if_pos c4, if_neg c5]; try rfl), ht⟩, hS.F ht⟩) hS.2.2 dFo_isMoveOffset_76
    · have c5 := bI_n c5
      refine lv_lload_n hx hb dFo_isMoveOffset_62 rfl (lv_at hl 0 rfl) ?_
      refine va_calli (va_runS (As := [.long a0]) (rest := []) ⟨hx, hb, hml, hown, hT⟩ (c_Fi_kind l s.heap a0) (va_cwS 1 hT (gB_SV mw_131 mw_132 mw_16 mw_133) rfl rfl rfl (by decide +kernel) ⟨Nat.le_of_ble_eq_true rfl, Nat.le_of_ble_eq_true rfl⟩) ⟨fun _ _ _ _ q => q, fun U hU hW => ⟨rfl, hU⟩⟩ rfl rfl hl.1 rfl (lv_room (Nat.le_of_ble_eq_true rfl)) dFo_isMoveOffset_63 ⟨Nat.zero_le _, Nat.zero_le _⟩) hS (fun _ _ h => h.elim) (fun _ h => h.elim) (fun r u t H1 locs ht hvm hw hB hz8 hk8 hS => ?_)
      obtain rfl : s.heap = H1 := hB.symm.trans ht
      subst hw
      refine lv_bipush (v := (7 : Int32)) hx hb dFo_isMoveOffset_66 (by decide) ?_
      refine lv_icmp_ne (tgt := 75) hx hb dFo_isMoveOffset_68 (by decide) (fun c6 => ?_) (fun c6 => ?_)
      · skip
        refine lv_iconst (v := (0 : Int32)) hx hb dFo_isMoveOffset_75 (by decide) ?_
        exact W.zret (v := (0 : Int32)) hx hb hr rfl (fun t ht hW => ⟨⟨(0 : Int32), (), rfl, (by unfold f_Fo_isMoveOffset; rw [if_neg c1, if_neg c2, if_neg c3, if_pos c4, if_pos c5, if_neg c6]; try rfl), ht⟩, hS.F ht⟩) hS.2.2 dFo_isMoveOffset_76
      · skip
        refine lv_iconst (v := (1 : Int32)) hx hb dFo_isMoveOffset_71 (by decide) ?_
        refine lv_goto (tgt := 76) hx hb dFo_isMoveOffset_72 (by decide) ?_
        exact W.zret (v := (1 : Int32)) hx hb hr rfl (fun t ht hW => ⟨⟨(1 : Int32), (), rfl, (by unfold f_Fo_isMoveOffset; rw [if_neg c1, if_neg c2, if_neg c3, if_pos c4, if_pos c5, if_pos c6]; try rfl), ht⟩, hS.F ht⟩) hS.2.2 dFo_isMoveOffset_76
  refine lv_lookup (tgt := 77) (off := 73) hx hb dFo_isMoveOffset_4 (by decide) (by rw [lv_osw c1 (by decide), lv_osw c2 (by decide), lv_osw c3 (by decide), lv_osw c4 (by decide)]; rfl) (by decide) ?_
  refine lv_iconst (v := (0 : Int32)) hx hb dFo_isMoveOffset_77 (by decide) ?_
  exact W.zret (v := (0 : Int32)) hx hb hr rfl (fun t ht hW => ⟨⟨(0 : Int32), (), rfl, (by unfold f_Fo_isMoveOffset; rw [if_neg c1, if_neg c2, if_neg c3, if_neg c4]; try rfl), ht⟩, hS.F ht⟩) hS.2.2 dFo_isMoveOffset_78

def f_Fo_isTurning (a0 : Int64) : Bool :=
  if (f_Fi_kind a0) = (4 : Int32) then
    if (f_Fi_source a0) = 0 then
      if (f_Fi_offset a0) = 0 then
        if (f_Fi_immediate a0) = (16 : Int32) then
          true
        else
          if (f_Fi_immediate a0) = (32 : Int32) then
            true
          else
            if (f_Fi_immediate a0) = (64 : Int32) then
              true
            else
              false
      else
        false
    else
      false
  else
    if (f_Fi_usesSource a0) = true then
      false
    else
      if (f_Fi_source a0) = 0 then
        if (f_Fi_offset a0) = 0 then
          if (f_Fi_immediate a0) = (16 : Int32) then
            true
          else
            if (f_Fi_immediate a0) = (32 : Int32) then
              true
            else
              if (f_Fi_immediate a0) = (64 : Int32) then
                true
              else
                false
        else
          false
      else
        false
set_option maxHeartbeats 4000000 in
set_option maxRecDepth 100000 in
theorem c_Fo_isTurning (l : Launch) (Hp : Heap) (a0 : Int64) : Met l yFo_isTurning wsFo_isTurning ({ frames := 1, cells := 0, slots := 0, locals := 21 }) (va_Pc [.long a0] (fun U => U.heap = Hp)) (va_Qi (fun (r : Int32) (_ : Unit) => r = (bI (f_Fo_isTurning a0))) (fun _ t => t.heap = Hp) (fun _ => False)) 0 0 (fun _ => False) := by
  refine Met.ofW (cc := cFo_isTurning) (maxL := 3) (ret := (some .boolean)) (by decide) rfl ?_
  intro p e s m args below meth c s₁ B hml hv
  obtain ⟨rfl, rfl⟩ := hv
  have hx := B.exec
  have hb := B.bytes
  have hr := B.returns
  have hT : ∀ w ∈ tB, w.before _ s = true := fun w h => atoms_spec (ws := wsFo_isTurning) B.pre w (List.mem_cons_of_mem _ h)
  have hown : s.vm.findClass "CompiledProgram$Form" = some m.cls := findClass_of_methodNamed B.named
  have hlocks := B.notSynchronized
  have hS : va_S (fun _ => False) s.heap s.heap [] := va_S.rf
  have hl := lv_entry ([.long a0]) (n := 3) (Nat.le_of_ble_eq_true rfl)
  rw [lg_entry_eq]
  generalize (lg_sl ([.long a0]) ++ List.replicate (3 - (lg_sl ([.long a0])).length) Slot.unset).toArray = ls at hl ⊢
  have hl : lv_has ls 3 [(0, .long a0)] := hl
  refine lv_lload_n hx hb dFo_isTurning_0 rfl (lv_at hl 0 rfl) ?_
  refine va_calli (va_runS (As := [.long a0]) (rest := []) ⟨hx, hb, hml, hown, hT⟩ (c_Fi_immediate l s.heap a0) (va_cwS 1 hT (gB_SV mw_152 mw_153 mw_16 mw_154) rfl rfl rfl (by decide +kernel) ⟨Nat.le_of_ble_eq_true rfl, Nat.le_of_ble_eq_true rfl⟩) ⟨fun _ _ _ _ q => q, fun U hU hW => ⟨rfl, hU⟩⟩ rfl rfl hl.1 rfl (lv_room (Nat.le_of_ble_eq_true rfl)) dFo_isTurning_1 ⟨Nat.zero_le _, Nat.zero_le _⟩) hS (fun _ _ h => h.elim) (fun _ h => h.elim) (fun r u t H1 locs ht hvm hw hB hz8 hk8 hS => ?_)
  obtain rfl : s.heap = H1 := hB.symm.trans ht
  subst hw
  refine lv_istore_n (lv' := [(2, .int (f_Fi_immediate a0)), (0, .long a0)]) hx hb dFo_isTurning_4 rfl hl (by decide) rfl (fun ls hl => ?_)
  refine lv_lload_n hx hb dFo_isTurning_5 rfl (lv_at hl 1 rfl) ?_
  refine va_calli (va_runS (As := [.long a0]) (rest := []) ⟨hx, hb, hml, hown, hT⟩ (c_Fi_kind l s.heap a0) (va_cwS 1 hT (gB_SV mw_131 mw_132 mw_16 mw_133) rfl rfl rfl (by decide +kernel) ⟨Nat.le_of_ble_eq_true rfl, Nat.le_of_ble_eq_true rfl⟩) ⟨fun _ _ _ _ q => q, fun U hU hW => ⟨rfl, hU⟩⟩ rfl rfl hl.1 rfl (lv_room (Nat.le_of_ble_eq_true rfl)) dFo_isTurning_6 ⟨Nat.zero_le _, Nat.zero_le _⟩) hS (fun _ _ h => h.elim) (fun _ h => h.elim) (fun r u t H1 locs ht hvm hw hB hz8 hk8 hS => ?_)
  obtain rfl : s.heap = H1 := hB.symm.trans ht
  subst hw
  refine lv_iconst (v := (4 : Int32)) hx hb dFo_isTurning_9 (by decide) ?_
  refine lv_icmp_eq (tgt := 20) hx hb dFo_isTurning_10 (by decide) (fun c1 => ?_) (fun c1 => ?_)
  · skip
    refine lv_lload_n hx hb dFo_isTurning_20 rfl (lv_at hl 1 rfl) ?_
    refine va_calli (va_runS (As := [.long a0]) (rest := []) ⟨hx, hb, hml, hown, hT⟩ (c_Fi_source l s.heap a0) (va_cwS 1 hT (gB_SV mw_137 mw_138 mw_16 mw_139) rfl rfl rfl (by decide +kernel) ⟨Nat.le_of_ble_eq_true rfl, Nat.le_of_ble_eq_true rfl⟩) ⟨fun _ _ _ _ q => q, fun U hU hW => ⟨rfl, hU⟩⟩ rfl rfl hl.1 rfl (lv_room (Nat.le_of_ble_eq_true rfl)) dFo_isTurning_21 ⟨Nat.zero_le _, Nat.zero_le _⟩) hS (fun _ _ h => h.elim) (fun _ h => h.elim) (fun r u t H1 locs ht hvm hw hB hz8 hk8 hS => ?_)
    obtain rfl : s.heap = H1 := hB.symm.trans ht
    subst hw
    refine lv_if_ne (tgt := 56) hx hb dFo_isTurning_24 (by decide) (fun c2 => ?_) (fun c2 => ?_)
    · skip
      refine lv_iconst (v := (0 : Int32)) hx hb dFo_isTurning_56 (by decide) ?_
      exact W.zret (v := (0 : Int32)) hx hb hr rfl (fun t ht hW => ⟨⟨(0 : Int32), (), rfl, (by unfold f_Fo_isTurning; rw [if_pos c1, if_neg c2]; try rfl), ht⟩, hS.F ht⟩) hS.2.2 dFo_isTurning_57
    · skip
      refine lv_lload_n hx hb dFo_isTurning_27 rfl (lv_at hl 1 rfl) ?_
      refine va_calli (va_runS (As := [.long a0]) (rest := []) ⟨hx, hb, hml, hown, hT⟩ (c_Fi_offset l s.heap a0) (va_cwS 1 hT (gB_SV mw_149 mw_150 mw_16 mw_151) rfl rfl rfl (by decide +kernel) ⟨Nat.le_of_ble_eq_true rfl, Nat.le_of_ble_eq_true rfl⟩) ⟨fun _ _ _ _ q => q, fun U hU hW => ⟨rfl, hU⟩⟩ rfl rfl hl.1 rfl (lv_room (Nat.le_of_ble_eq_true rfl)) dFo_isTurning_28 ⟨Nat.zero_le _, Nat.zero_le _⟩) hS (fun _ _ h => h.elim) (fun _ h => h.elim) (fun r u t H1 locs ht hvm hw hB hz8 hk8 hS => ?_)
      obtain rfl : s.heap = H1 := hB.symm.trans ht
      subst hw
      refine lv_if_ne (tgt := 56) hx hb dFo_isTurning_31 (by decide) (fun c3 => ?_) (fun c3 => ?_)
      · skip
        refine lv_iconst (v := (0 : Int32)) hx hb dFo_isTurning_56 (by decide) ?_
        exact W.zret (v := (0 : Int32)) hx hb hr rfl (fun t ht hW => ⟨⟨(0 : Int32), (), rfl, (by unfold f_Fo_isTurning; rw [if_pos c1, if_pos c2, if_neg c3]; try rfl), ht⟩, hS.F ht⟩) hS.2.2 dFo_isTurning_57
      · skip
        refine lv_iload_n hx hb dFo_isTurning_34 rfl (lv_at hl 0 rfl) ?_
        refine lv_bipush (v := (16 : Int32)) hx hb dFo_isTurning_35 (by decide) ?_
        refine lv_icmp_eq (tgt := 52) hx hb dFo_isTurning_37 (by decide) (fun c4 => ?_) (fun c4 => ?_)
        · skip
          refine lv_iconst (v := (1 : Int32)) hx hb dFo_isTurning_52 (by decide) ?_
          refine lv_goto (tgt := 57) hx hb dFo_isTurning_53 (by decide) ?_
          exact W.zret (v := (1 : Int32)) hx hb hr rfl (fun t ht hW => ⟨⟨(1 : Int32), (), rfl, (by unfold f_Fo_isTurning; rw [if_pos c1, if_pos c2, if_pos c3, if_pos c4]; try rfl), ht⟩, hS.F ht⟩) hS.2.2 dFo_isTurning_57
        · skip
          refine lv_iload_n hx hb dFo_isTurning_40 rfl (lv_at hl 0 rfl) ?_
          refine lv_bipush (v := (32 : Int32)) hx hb dFo_isTurning_41 (by decide) ?_
          refine lv_icmp_eq (tgt := 52) hx hb dFo_isTurning_43 (by decide) (fun c5 => ?_) (fun c5 => ?_)
          · skip
            refine lv_iconst (v := (1 : Int32)) hx hb dFo_isTurning_52 (by decide) ?_
            refine lv_goto (tgt := 57) hx hb dFo_isTurning_53 (by decide) ?_
            exact W.zret (v := (1 : Int32)) hx hb hr rfl (fun t ht hW => ⟨⟨(1 : Int32), (), rfl, (by unfold f_Fo_isTurning; rw [if_pos c1, if_pos c2, if_pos c3, if_neg c4, if_pos c5]; try rfl), ht⟩, hS.F ht⟩) hS.2.2 dFo_isTurning_57
          · skip
            refine lv_iload_n hx hb dFo_isTurning_46 rfl (lv_at hl 0 rfl) ?_
            refine lv_bipush (v := (64 : Int32)) hx hb dFo_isTurning_47 (by decide) ?_
            refine lv_icmp_ne (tgt := 56) hx hb dFo_isTurning_49 (by decide) (fun c6 => ?_) (fun c6 => ?_)
            · skip
              refine lv_iconst (v := (0 : Int32)) hx hb dFo_isTurning_56 (by decide) ?_
              exact W.zret (v := (0 : Int32)) hx hb hr rfl (fun t ht hW => ⟨⟨(0 : Int32), (), rfl, (by unfold f_Fo_isTurning; rw [if_pos c1, if_pos c2, if_pos c3, if_neg c4, if_neg c5, if_neg c6]; try rfl), ht⟩, hS.F ht⟩) hS.2.2 dFo_isTurning_57
            · skip
              refine lv_iconst (v := (1 : Int32)) hx hb dFo_isTurning_52 (by decide) ?_
              refine lv_goto (tgt := 57) hx hb dFo_isTurning_53 (by decide) ?_
              exact W.zret (v := (1 : Int32)) hx hb hr rfl (fun t ht hW => ⟨⟨(1 : Int32), (), rfl, (by unfold f_Fo_isTurning; rw [if_pos c1, if_pos c2, if_pos c3, if_neg c4, if_neg c5, if_pos c6]; try rfl), ht⟩, hS.F ht⟩) hS.2.2 dFo_isTurning_57
  · skip
    refine lv_lload_n hx hb dFo_isTurning_13 rfl (lv_at hl 1 rfl) ?_
    refine va_calli (va_runS (As := [.long a0]) (rest := []) ⟨hx, hb, hml, hown, hT⟩ (c_Fi_usesSource l s.heap a0) (va_cwS 1 hT (gB_SV mw_192 mw_193 mw_16 mw_194) rfl rfl rfl (by decide +kernel) ⟨Nat.le_of_ble_eq_true rfl, Nat.le_of_ble_eq_true rfl⟩) ⟨fun _ _ _ _ q => q, fun U hU hW => ⟨rfl, hU⟩⟩ rfl rfl hl.1 rfl (lv_room (Nat.le_of_ble_eq_true rfl)) dFo_isTurning_14 ⟨Nat.zero_le _, Nat.zero_le _⟩) hS (fun _ _ h => h.elim) (fun _ h => h.elim) (fun r u t H1 locs ht hvm hw hB hz8 hk8 hS => ?_)
    obtain rfl : s.heap = H1 := hB.symm.trans ht
    subst hw
    refine lv_if_ne (tgt := 56) hx hb dFo_isTurning_17 (by decide) (fun c7 => ?_) (fun c7 => ?_)
    · have c7 := bI_n c7
      refine lv_iconst (v := (0 : Int32)) hx hb dFo_isTurning_56 (by decide) ?_
      exact W.zret (v := (0 : Int32)) hx hb hr rfl (fun t ht hW => ⟨⟨(0 : Int32), (), rfl, (by unfold f_Fo_isTurning; rw [if_neg c1, if_pos c7]; try rfl), ht⟩, hS.F ht⟩) hS.2.2 dFo_isTurning_57
    · have c7 := bI_z c7
      refine lv_lload_n hx hb dFo_isTurning_20 rfl (lv_at hl 1 rfl) ?_
      refine va_calli (va_runS (As := [.long a0]) (rest := []) ⟨hx, hb, hml, hown, hT⟩ (c_Fi_source l s.heap a0) (va_cwS 1 hT (gB_SV mw_137 mw_138 mw_16 mw_139) rfl rfl rfl (by decide +kernel) ⟨Nat.le_of_ble_eq_true rfl, Nat.le_of_ble_eq_true rfl⟩) ⟨fun _ _ _ _ q => q, fun U hU hW => ⟨rfl, hU⟩⟩ rfl rfl hl.1 rfl (lv_room (Nat.le_of_ble_eq_true rfl)) dFo_isTurning_21 ⟨Nat.zero_le _, Nat.zero_le _⟩) hS (fun _ _ h => h.elim) (fun _ h => h.elim) (fun r u t H1 locs ht hvm hw hB hz8 hk8 hS => ?_)
      obtain rfl : s.heap = H1 := hB.symm.trans ht
      subst hw
      refine lv_if_ne (tgt := 56) hx hb dFo_isTurning_24 (by decide) (fun c8 => ?_) (fun c8 => ?_)
      · skip
        refine lv_iconst (v := (0 : Int32)) hx hb dFo_isTurning_56 (by decide) ?_
        exact W.zret (v := (0 : Int32)) hx hb hr rfl (fun t ht hW => ⟨⟨(0 : Int32), (), rfl, (by unfold f_Fo_isTurning; rw [if_neg c1, if_neg c7, if_neg c8]; try rfl), ht⟩, hS.F ht⟩) hS.2.2 dFo_isTurning_57
      · skip
        refine lv_lload_n hx hb dFo_isTurning_27 rfl (lv_at hl 1 rfl) ?_
        refine va_calli (va_runS (As := [.long a0]) (rest := []) ⟨hx, hb, hml, hown, hT⟩ (c_Fi_offset l s.heap a0) (va_cwS 1 hT (gB_SV mw_149 mw_150 mw_16 mw_151) rfl rfl rfl (by decide +kernel) ⟨Nat.le_of_ble_eq_true rfl, Nat.le_of_ble_eq_true rfl⟩) ⟨fun _ _ _ _ q => q, fun U hU hW => ⟨rfl, hU⟩⟩ rfl rfl hl.1 rfl (lv_room (Nat.le_of_ble_eq_true rfl)) dFo_isTurning_28 ⟨Nat.zero_le _, Nat.zero_le _⟩) hS (fun _ _ h => h.elim) (fun _ h => h.elim) (fun r u t H1 locs ht hvm hw hB hz8 hk8 hS => ?_)
        obtain rfl : s.heap = H1 := hB.symm.trans ht
        subst hw
        refine lv_if_ne (tgt := 56) hx hb dFo_isTurning_31 (by decide) (fun c9 => ?_) (fun c9 => ?_)
        · skip
          refine lv_iconst (v := (0 : Int32)) hx hb dFo_isTurning_56 (by decide) ?_
          exact W.zret (v := (0 : Int32)) hx hb hr rfl (fun t ht hW => ⟨⟨(0 : Int32), (), rfl, (by unfold f_Fo_isTurning; rw [if_neg c1, if_neg c7, if_pos c8, if_neg c9]; try rfl), ht⟩, hS.F ht⟩) hS.2.2 dFo_isTurning_57
        · skip
          refine lv_iload_n hx hb dFo_isTurning_34 rfl (lv_at hl 0 rfl) ?_
          refine lv_bipush (v := (16 : Int32)) hx hb dFo_isTurning_35 (by decide) ?_
          refine lv_icmp_eq (tgt := 52) hx hb dFo_isTurning_37 (by decide) (fun c10 => ?_) (fun c10 => ?_)
          · skip
            refine lv_iconst (v := (1 : Int32)) hx hb dFo_isTurning_52 (by decide) ?_
            refine lv_goto (tgt := 57) hx hb dFo_isTurning_53 (by decide) ?_
            exact W.zret (v := (1 : Int32)) hx hb hr rfl (fun t ht hW => ⟨⟨(1 : Int32), (), rfl, (by unfold f_Fo_isTurning; rw [if_neg c1, if_neg c7, if_pos c8, if_pos c9, if_pos c10]; try rfl), ht⟩, hS.F ht⟩) hS.2.2 dFo_isTurning_57
          · skip
            refine lv_iload_n hx hb dFo_isTurning_40 rfl (lv_at hl 0 rfl) ?_
            refine lv_bipush (v := (32 : Int32)) hx hb dFo_isTurning_41 (by decide) ?_
            refine lv_icmp_eq (tgt := 52) hx hb dFo_isTurning_43 (by decide) (fun c11 => ?_) (fun c11 => ?_)
            · skip
              refine lv_iconst (v := (1 : Int32)) hx hb dFo_isTurning_52 (by decide) ?_
              refine lv_goto (tgt := 57) hx hb dFo_isTurning_53 (by decide) ?_
              exact W.zret (v := (1 : Int32)) hx hb hr rfl (fun t ht hW => ⟨⟨(1 : Int32), (), rfl, (by unfold f_Fo_isTurning; rw [if_neg c1, if_neg c7, if_pos c8, if_pos c9, if_neg c10, if_pos c11]; try rfl), ht⟩, hS.F ht⟩) hS.2.2 dFo_isTurning_57
            · skip
              refine lv_iload_n hx hb dFo_isTurning_46 rfl (lv_at hl 0 rfl) ?_
              refine lv_bipush (v := (64 : Int32)) hx hb dFo_isTurning_47 (by decide) ?_
              refine lv_icmp_ne (tgt := 56) hx hb dFo_isTurning_49 (by decide) (fun c12 => ?_) (fun c12 => ?_)
              · skip
                refine lv_iconst (v := (0 : Int32)) hx hb dFo_isTurning_56 (by decide) ?_
                exact W.zret (v := (0 : Int32)) hx hb hr rfl (fun t ht hW => ⟨⟨(0 : Int32), (), rfl, (by unfold f_Fo_isTurning; rw [if_neg c1, if_neg c7, if_pos c8, if_pos c9, if_neg c10, if_neg c11, if_neg c12]; try rfl), ht⟩, hS.F ht⟩) hS.2.2 dFo_isTurning_57
              · skip
                refine lv_iconst (v := (1 : Int32)) hx hb dFo_isTurning_52 (by decide) ?_
                refine lv_goto (tgt := 57) hx hb dFo_isTurning_53 (by decide) ?_
                exact W.zret (v := (1 : Int32)) hx hb hr rfl (fun t ht hW => ⟨⟨(1 : Int32), (), rfl, (by unfold f_Fo_isTurning; rw [if_neg c1, if_neg c7, if_pos c8, if_pos c9, if_neg c10, if_neg c11, if_pos c12]; try rfl), ht⟩, hS.F ht⟩) hS.2.2 dFo_isTurning_57

def f_Fo_isArithmetic (a0 : Int64) : Bool :=
  if (f_Fi_target a0) ≤ (9 : Int32) then
    if (f_Fi_operation a0) = (3 : Int32) then
      if (f_Fo_hasOperand a0) = true then
        if (f_Fi_offset a0) = 0 then
          true
        else
          if (f_Fi_offset a0) = (1 : Int32) then
            true
          else
            false
      else
        false
    else
      if (f_Fi_operation a0) = (4 : Int32) then
        if (f_Fo_hasOperand a0) = true then
          if (f_Fi_offset a0) = 0 then
            true
          else
            false
        else
          false
      else
        if (f_Fi_operation a0) = (5 : Int32) then
          if (f_Fo_hasOperand a0) = true then
            if (f_Fi_offset a0) = 0 then
              true
            else
              false
          else
            false
        else
          if (f_Fi_operation a0) = (6 : Int32) then
            if (f_Fo_hasOperand a0) = true then
              if (f_Fi_offset a0) = 0 then
                true
              else
                false
            else
              false
          else
            if (f_Fi_operation a0) = (7 : Int32) then
              if (f_Fo_hasOperand a0) = true then
                if (f_Fi_offset a0) = 0 then
                  true
                else
                  false
              else
                false
            else
              if (f_Fi_operation a0) = (8 : Int32) then
                if (f_Fi_usesSource a0) = true then
                  false
                else
                  if (f_Fo_hasOperand a0) = true then
                    if (f_Fi_immediate a0) = 0 then
                      if (f_Fi_offset a0) = 0 then
                        true
                      else
                        false
                    else
                      false
                  else
                    false
              else
                if (f_Fi_operation a0) = (9 : Int32) then
                  if (f_Fo_hasOperand a0) = true then
                    if (f_Fi_offset a0) = 0 then
                      true
                    else
                      if (f_Fi_offset a0) = (1 : Int32) then
                        true
                      else
                        false
                  else
                    false
                else
                  if (f_Fi_operation a0) = (10 : Int32) then
                    if (f_Fo_hasOperand a0) = true then
                      if (f_Fi_offset a0) = 0 then
                        true
                      else
                        false
                    else
                      false
                  else
                    if (f_Fi_operation a0) = (11 : Int32) then
                      if (f_Fo_hasOperand a0) = true then
                        if (f_Fo_isMoveOffset a0) = true then
                          true
                        else
                          false
                      else
                        false
                    else
                      if (f_Fi_operation a0) = (12 : Int32) then
                        if (f_Fo_hasOperand a0) = true then
                          if (f_Fi_offset a0) = 0 then
                            true
                          else
                            false
                        else
                          false
                      else
                        if (f_Fi_operation a0) = (13 : Int32) then
                          (f_Fo_isTurning a0)
                        else
                          if (f_Fi_operation a0) = (14 : Int32) then
                            false
                          else
                            if (f_Fi_operation a0) = (15 : Int32) then
                              false
                            else
                              if (f_Fo_hasOperand a0) = true then
                                if (f_Fi_offset a0) = 0 then
                                  true
                                else
                                  false
                              else
                                false
  else
    false
set_option maxHeartbeats 4000000 in
set_option maxRecDepth 100000 in
theorem c_Fo_isArithmetic (l : Launch) (Hp : Heap) (a0 : Int64) : Met l yFo_isArithmetic wsFo_isArithmetic ({ frames := 2, cells := 0, slots := 0, locals := 43 }) (va_Pc [.long a0] (fun U => U.heap = Hp)) (va_Qi (fun (r : Int32) (_ : Unit) => r = (bI (f_Fo_isArithmetic a0))) (fun _ t => t.heap = Hp) (fun _ => False)) 0 0 (fun _ => False) := by
  refine Met.ofW (cc := cFo_isArithmetic) (maxL := 2) (ret := (some .boolean)) (by decide) rfl ?_
  intro p e s m args below meth c s₁ B hml hv
  obtain ⟨rfl, rfl⟩ := hv
  have hx := B.exec
  have hb := B.bytes
  have hr := B.returns
  have hT : ∀ w ∈ tB, w.before _ s = true := fun w h => atoms_spec (ws := wsFo_isArithmetic) B.pre w (List.mem_cons_of_mem _ h)
  have hown : s.vm.findClass "CompiledProgram$Form" = some m.cls := findClass_of_methodNamed B.named
  have hlocks := B.notSynchronized
  have hS : va_S (fun _ => False) s.heap s.heap [] := va_S.rf
  have hl := lv_entry ([.long a0]) (n := 2) (Nat.le_of_ble_eq_true rfl)
  rw [lg_entry_eq]
  generalize (lg_sl ([.long a0]) ++ List.replicate (2 - (lg_sl ([.long a0])).length) Slot.unset).toArray = ls at hl ⊢
  have hl : lv_has ls 2 [(0, .long a0)] := hl
  refine lv_lload_n hx hb dFo_isArithmetic_0 rfl (lv_at hl 0 rfl) ?_
  refine va_calli (va_runS (As := [.long a0]) (rest := []) ⟨hx, hb, hml, hown, hT⟩ (c_Fi_target l s.heap a0) (va_cwS 1 hT (gB_SV mw_146 mw_147 mw_16 mw_148) rfl rfl rfl (by decide +kernel) ⟨Nat.le_of_ble_eq_true rfl, Nat.le_of_ble_eq_true rfl⟩) ⟨fun _ _ _ _ q => q, fun U hU hW => ⟨rfl, hU⟩⟩ rfl rfl hl.1 rfl (lv_room (Nat.le_of_ble_eq_true rfl)) dFo_isArithmetic_1 ⟨Nat.zero_le _, Nat.zero_le _⟩) hS (fun _ _ h => h.elim) (fun _ h => h.elim) (fun r u t H1 locs ht hvm hw hB hz8 hk8 hS => ?_)
  obtain rfl : s.heap = H1 := hB.symm.trans ht
  subst hw
  refine lv_bipush (v := (9 : Int32)) hx hb dFo_isArithmetic_4 (by decide) ?_
  refine lv_icmp_le (tgt := 11) hx hb dFo_isArithmetic_6 (by decide) (fun c1 => ?_) (fun c1 => ?_)
  · skip
    refine lv_lload_n hx hb dFo_isArithmetic_11 rfl (lv_at hl 0 rfl) ?_
    refine va_calli (va_runS (As := [.long a0]) (rest := []) ⟨hx, hb, hml, hown, hT⟩ (c_Fi_operation l s.heap a0) (va_cwS 1 hT (gB_SV mw_203 mw_183 mw_16 mw_184) rfl rfl rfl (by decide +kernel) ⟨Nat.le_of_ble_eq_true rfl, Nat.le_of_ble_eq_true rfl⟩) ⟨fun _ _ _ _ q => q, fun U hU hW => ⟨rfl, hU⟩⟩ rfl rfl hl.1 rfl (lv_room (Nat.le_of_ble_eq_true rfl)) dFo_isArithmetic_12 ⟨Nat.zero_le _, Nat.zero_le _⟩) hS (fun _ _ h => h.elim) (fun _ h => h.elim) (fun r u t H1 locs ht hvm hw hB hz8 hk8 hS => ?_)
    obtain rfl : s.heap = H1 := hB.symm.trans ht
    subst hw
    by_cases c2 : (f_Fi_operation a0) = (3 : Int32)
    · skip
      refine lv_tableIn (tgt := 80) (off := 65) hx hb dFo_isArithmetic_15 (by rw [c2]; decide) (by rw [c2]; decide) (by rw [c2]; rfl) (by decide) ?_
      refine lv_lload_n hx hb dFo_isArithmetic_80 rfl (lv_at hl 0 rfl) ?_
      refine va_calli (va_runS (As := [.long a0]) (rest := []) ⟨hx, hb, hml, hown, hT⟩ (c_Fo_hasOperand l s.heap a0) (cwS 1 hT (gB_S mw_189 mw_190 mw_15 mw_191) rfl rfl rfl (by decide +kernel) ⟨Nat.le_of_ble_eq_true rfl, Nat.le_of_ble_eq_true rfl⟩) ⟨fun _ _ _ _ q => q, fun U hU hW => ⟨rfl, hU⟩⟩ rfl rfl hl.1 rfl (lv_room (Nat.le_of_ble_eq_true rfl)) dFo_isArithmetic_81 ⟨Nat.zero_le _, Nat.zero_le _⟩) hS (fun _ _ h => h.elim) (fun _ h => h.elim) (fun r u t H1 locs ht hvm hw hB hz8 hk8 hS => ?_)
      obtain rfl : s.heap = H1 := hB.symm.trans ht
      subst hw
      refine lv_if_eq (tgt := 106) hx hb dFo_isArithmetic_84 (by decide) (fun c3 => ?_) (fun c3 => ?_)
      · have c3 := bI_z c3
        refine lv_iconst (v := (0 : Int32)) hx hb dFo_isArithmetic_106 (by decide) ?_
        exact W.zret (v := (0 : Int32)) hx hb hr rfl (fun t ht hW => ⟨⟨(0 : Int32), (), rfl, (by unfold f_Fo_isArithmetic; rw [if_pos c1, if_pos c2, if_neg c3]; try rfl), ht⟩, hS.F ht⟩) hS.2.2 dFo_isArithmetic_107
      · have c3 := bI_n c3
        refine lv_lload_n hx hb dFo_isArithmetic_87 rfl (lv_at hl 0 rfl) ?_
        refine va_calli (va_runS (As := [.long a0]) (rest := []) ⟨hx, hb, hml, hown, hT⟩ (c_Fi_offset l s.heap a0) (va_cwS 1 hT (gB_SV mw_149 mw_150 mw_16 mw_151) rfl rfl rfl (by decide +kernel) ⟨Nat.le_of_ble_eq_true rfl, Nat.le_of_ble_eq_true rfl⟩) ⟨fun _ _ _ _ q => q, fun U hU hW => ⟨rfl, hU⟩⟩ rfl rfl hl.1 rfl (lv_room (Nat.le_of_ble_eq_true rfl)) dFo_isArithmetic_88 ⟨Nat.zero_le _, Nat.zero_le _⟩) hS (fun _ _ h => h.elim) (fun _ h => h.elim) (fun r u t H1 locs ht hvm hw hB hz8 hk8 hS => ?_)
        obtain rfl : s.heap = H1 := hB.symm.trans ht
        subst hw
        refine lv_if_eq (tgt := 102) hx hb dFo_isArithmetic_91 (by decide) (fun c4 => ?_) (fun c4 => ?_)
        · skip
          refine lv_iconst (v := (1 : Int32)) hx hb dFo_isArithmetic_102 (by decide) ?_
          refine lv_goto (tgt := 107) hx hb dFo_isArithmetic_103 (by decide) ?_
          exact W.zret (v := (1 : Int32)) hx hb hr rfl (fun t ht hW => ⟨⟨(1 : Int32), (), rfl, (by unfold f_Fo_isArithmetic; rw [if_pos c1, if_pos c2, if_pos c3, if_pos c4]; try rfl), ht⟩, hS.F ht⟩) hS.2.2 dFo_isArithmetic_107
        · skip
          refine lv_lload_n hx hb dFo_isArithmetic_94 rfl (lv_at hl 0 rfl) ?_
          refine va_calli (va_runS (As := [.long a0]) (rest := []) ⟨hx, hb, hml, hown, hT⟩ (c_Fi_offset l s.heap a0) (va_cwS 1 hT (gB_SV mw_149 mw_150 mw_16 mw_151) rfl rfl rfl (by decide +kernel) ⟨Nat.le_of_ble_eq_true rfl, Nat.le_of_ble_eq_true rfl⟩) ⟨fun _ _ _ _ q => q, fun U hU hW => ⟨rfl, hU⟩⟩ rfl rfl hl.1 rfl (lv_room (Nat.le_of_ble_eq_true rfl)) dFo_isArithmetic_95 ⟨Nat.zero_le _, Nat.zero_le _⟩) hS (fun _ _ h => h.elim) (fun _ h => h.elim) (fun r u t H1 locs ht hvm hw hB hz8 hk8 hS => ?_)
          obtain rfl : s.heap = H1 := hB.symm.trans ht
          subst hw
          refine lv_iconst (v := (1 : Int32)) hx hb dFo_isArithmetic_98 (by decide) ?_
          refine lv_icmp_ne (tgt := 106) hx hb dFo_isArithmetic_99 (by decide) (fun c5 => ?_) (fun c5 => ?_)
          · skip
            refine lv_iconst (v := (0 : Int32)) hx hb dFo_isArithmetic_106 (by decide) ?_
            exact W.zret (v := (0 : Int32)) hx hb hr rfl (fun t ht hW => ⟨⟨(0 : Int32), (), rfl, (by unfold f_Fo_isArithmetic; rw [if_pos c1, if_pos c2, if_pos c3, if_neg c4, if_neg c5]; try rfl), ht⟩, hS.F ht⟩) hS.2.2 dFo_isArithmetic_107
          · skip
            refine lv_iconst (v := (1 : Int32)) hx hb dFo_isArithmetic_102 (by decide) ?_
            refine lv_goto (tgt := 107) hx hb dFo_isArithmetic_103 (by decide) ?_
            exact W.zret (v := (1 : Int32)) hx hb hr rfl (fun t ht hW => ⟨⟨(1 : Int32), (), rfl, (by unfold f_Fo_isArithmetic; rw [if_pos c1, if_pos c2, if_pos c3, if_neg c4, if_pos c5]; try rfl), ht⟩, hS.F ht⟩) hS.2.2 dFo_isArithmetic_107
    by_cases c6 : (f_Fi_operation a0) = (4 : Int32)
    · skip
      refine lv_tableIn (tgt := 169) (off := 154) hx hb dFo_isArithmetic_15 (by rw [c6]; decide) (by rw [c6]; decide) (by rw [c6]; rfl) (by decide) ?_
      refine lv_lload_n hx hb dFo_isArithmetic_169 rfl (lv_at hl 0 rfl) ?_
      refine va_calli (va_runS (As := [.long a0]) (rest := []) ⟨hx, hb, hml, hown, hT⟩ (c_Fo_hasOperand l s.heap a0) (cwS 1 hT (gB_S mw_189 mw_190 mw_15 mw_191) rfl rfl rfl (by decide +kernel) ⟨Nat.le_of_ble_eq_true rfl, Nat.le_of_ble_eq_true rfl⟩) ⟨fun _ _ _ _ q => q, fun U hU hW => ⟨rfl, hU⟩⟩ rfl rfl hl.1 rfl (lv_room (Nat.le_of_ble_eq_true rfl)) dFo_isArithmetic_170 ⟨Nat.zero_le _, Nat.zero_le _⟩) hS (fun _ _ h => h.elim) (fun _ h => h.elim) (fun r u t H1 locs ht hvm hw hB hz8 hk8 hS => ?_)
      obtain rfl : s.heap = H1 := hB.symm.trans ht
      subst hw
      refine lv_if_eq (tgt := 187) hx hb dFo_isArithmetic_173 (by decide) (fun c7 => ?_) (fun c7 => ?_)
      · have c7 := bI_z c7
        refine lv_iconst (v := (0 : Int32)) hx hb dFo_isArithmetic_187 (by decide) ?_
        exact W.zret (v := (0 : Int32)) hx hb hr rfl (fun t ht hW => ⟨⟨(0 : Int32), (), rfl, (by unfold f_Fo_isArithmetic; rw [if_pos c1, if_neg c2, if_pos c6, if_neg c7]; try rfl), ht⟩, hS.F ht⟩) hS.2.2 dFo_isArithmetic_188
      · have c7 := bI_n c7
        refine lv_lload_n hx hb dFo_isArithmetic_176 rfl (lv_at hl 0 rfl) ?_
        refine va_calli (va_runS (As := [.long a0]) (rest := []) ⟨hx, hb, hml, hown, hT⟩ (c_Fi_offset l s.heap a0) (va_cwS 1 hT (gB_SV mw_149 mw_150 mw_16 mw_151) rfl rfl rfl (by decide +kernel) ⟨Nat.le_of_ble_eq_true rfl, Nat.le_of_ble_eq_true rfl⟩) ⟨fun _ _ _ _ q => q, fun U hU hW => ⟨rfl, hU⟩⟩ rfl rfl hl.1 rfl (lv_room (Nat.le_of_ble_eq_true rfl)) dFo_isArithmetic_177 ⟨Nat.zero_le _, Nat.zero_le _⟩) hS (fun _ _ h => h.elim) (fun _ h => h.elim) (fun r u t H1 locs ht hvm hw hB hz8 hk8 hS => ?_)
        obtain rfl : s.heap = H1 := hB.symm.trans ht
        subst hw
        refine lv_if_ne (tgt := 187) hx hb dFo_isArithmetic_180 (by decide) (fun c8 => ?_) (fun c8 => ?_)
        · skip
          refine lv_iconst (v := (0 : Int32)) hx hb dFo_isArithmetic_187 (by decide) ?_
          exact W.zret (v := (0 : Int32)) hx hb hr rfl (fun t ht hW => ⟨⟨(0 : Int32), (), rfl, (by unfold f_Fo_isArithmetic; rw [if_pos c1, if_neg c2, if_pos c6, if_pos c7, if_neg c8]; try rfl), ht⟩, hS.F ht⟩) hS.2.2 dFo_isArithmetic_188
        · skip
          refine lv_iconst (v := (1 : Int32)) hx hb dFo_isArithmetic_183 (by decide) ?_
          refine lv_goto (tgt := 188) hx hb dFo_isArithmetic_184 (by decide) ?_
          exact W.zret (v := (1 : Int32)) hx hb hr rfl (fun t ht hW => ⟨⟨(1 : Int32), (), rfl, (by unfold f_Fo_isArithmetic; rw [if_pos c1, if_neg c2, if_pos c6, if_pos c7, if_pos c8]; try rfl), ht⟩, hS.F ht⟩) hS.2.2 dFo_isArithmetic_188
    by_cases c9 : (f_Fi_operation a0) = (5 : Int32)
    · skip
      refine lv_tableIn (tgt := 169) (off := 154) hx hb dFo_isArithmetic_15 (by rw [c9]; decide) (by rw [c9]; decide) (by rw [c9]; rfl) (by decide) ?_
      refine lv_lload_n hx hb dFo_isArithmetic_169 rfl (lv_at hl 0 rfl) ?_
      refine va_calli (va_runS (As := [.long a0]) (rest := []) ⟨hx, hb, hml, hown, hT⟩ (c_Fo_hasOperand l s.heap a0) (cwS 1 hT (gB_S mw_189 mw_190 mw_15 mw_191) rfl rfl rfl (by decide +kernel) ⟨Nat.le_of_ble_eq_true rfl, Nat.le_of_ble_eq_true rfl⟩) ⟨fun _ _ _ _ q => q, fun U hU hW => ⟨rfl, hU⟩⟩ rfl rfl hl.1 rfl (lv_room (Nat.le_of_ble_eq_true rfl)) dFo_isArithmetic_170 ⟨Nat.zero_le _, Nat.zero_le _⟩) hS (fun _ _ h => h.elim) (fun _ h => h.elim) (fun r u t H1 locs ht hvm hw hB hz8 hk8 hS => ?_)
      obtain rfl : s.heap = H1 := hB.symm.trans ht
      subst hw
      refine lv_if_eq (tgt := 187) hx hb dFo_isArithmetic_173 (by decide) (fun c10 => ?_) (fun c10 => ?_)
      · have c10 := bI_z c10
        refine lv_iconst (v := (0 : Int32)) hx hb dFo_isArithmetic_187 (by decide) ?_
        exact W.zret (v := (0 : Int32)) hx hb hr rfl (fun t ht hW => ⟨⟨(0 : Int32), (), rfl, (by unfold f_Fo_isArithmetic; rw [if_pos c1, if_neg c2, if_neg c6, if_pos c9, if_neg c10]; try rfl), ht⟩, hS.F ht⟩) hS.2.2 dFo_isArithmetic_188
      · have c10 := bI_n c10
        refine lv_lload_n hx hb dFo_isArithmetic_176 rfl (lv_at hl 0 rfl) ?_
        refine va_calli (va_runS (As := [.long a0]) (rest := []) ⟨hx, hb, hml, hown, hT⟩ (c_Fi_offset l s.heap a0) (va_cwS 1 hT (gB_SV mw_149 mw_150 mw_16 mw_151) rfl rfl rfl (by decide +kernel) ⟨Nat.le_of_ble_eq_true rfl, Nat.le_of_ble_eq_true rfl⟩) ⟨fun _ _ _ _ q => q, fun U hU hW => ⟨rfl, hU⟩⟩ rfl rfl hl.1 rfl (lv_room (Nat.le_of_ble_eq_true rfl)) dFo_isArithmetic_177 ⟨Nat.zero_le _, Nat.zero_le _⟩) hS (fun _ _ h => h.elim) (fun _ h => h.elim) (fun r u t H1 locs ht hvm hw hB hz8 hk8 hS => ?_)
        obtain rfl : s.heap = H1 := hB.symm.trans ht
        subst hw
        refine lv_if_ne (tgt := 187) hx hb dFo_isArithmetic_180 (by decide) (fun c11 => ?_) (fun c11 => ?_)
        · skip
          refine lv_iconst (v := (0 : Int32)) hx hb dFo_isArithmetic_187 (by decide) ?_
          exact W.zret (v := (0 : Int32)) hx hb hr rfl (fun t ht hW => ⟨⟨(0 : Int32), (), rfl, (by unfold f_Fo_isArithmetic; rw [if_pos c1, if_neg c2, if_neg c6, if_pos c9, if_pos c10, if_neg c11]; try rfl), ht⟩, hS.F ht⟩) hS.2.2 dFo_isArithmetic_188
        · skip
          refine lv_iconst (v := (1 : Int32)) hx hb dFo_isArithmetic_183 (by decide) ?_
          refine lv_goto (tgt := 188) hx hb dFo_isArithmetic_184 (by decide) ?_
          exact W.zret (v := (1 : Int32)) hx hb hr rfl (fun t ht hW => ⟨⟨(1 : Int32), (), rfl, (by unfold f_Fo_isArithmetic; rw [if_pos c1, if_neg c2, if_neg c6, if_pos c9, if_pos c10, if_pos c11]; try rfl), ht⟩, hS.F ht⟩) hS.2.2 dFo_isArithmetic_188
    by_cases c12 : (f_Fi_operation a0) = (6 : Int32)
    · skip
      refine lv_tableIn (tgt := 169) (off := 154) hx hb dFo_isArithmetic_15 (by rw [c12]; decide) (by rw [c12]; decide) (by rw [c12]; rfl) (by decide) ?_
      refine lv_lload_n hx hb dFo_isArithmetic_169 rfl (lv_at hl 0 rfl) ?_
      refine va_calli (va_runS (As := [.long a0]) (rest := []) ⟨hx, hb, hml, hown, hT⟩ (c_Fo_hasOperand l s.heap a0) (cwS 1 hT (gB_S mw_189 mw_190 mw_15 mw_191) rfl rfl rfl (by decide +kernel) ⟨Nat.le_of_ble_eq_true rfl, Nat.le_of_ble_eq_true rfl⟩) ⟨fun _ _ _ _ q => q, fun U hU hW => ⟨rfl, hU⟩⟩ rfl rfl hl.1 rfl (lv_room (Nat.le_of_ble_eq_true rfl)) dFo_isArithmetic_170 ⟨Nat.zero_le _, Nat.zero_le _⟩) hS (fun _ _ h => h.elim) (fun _ h => h.elim) (fun r u t H1 locs ht hvm hw hB hz8 hk8 hS => ?_)
      obtain rfl : s.heap = H1 := hB.symm.trans ht
      subst hw
      refine lv_if_eq (tgt := 187) hx hb dFo_isArithmetic_173 (by decide) (fun c13 => ?_) (fun c13 => ?_)
      · have c13 := bI_z c13
        refine lv_iconst (v := (0 : Int32)) hx hb dFo_isArithmetic_187 (by decide) ?_
        exact W.zret (v := (0 : Int32)) hx hb hr rfl (fun t ht hW => ⟨⟨(0 : Int32), (), rfl, (by unfold f_Fo_isArithmetic; rw [if_pos c1, if_neg c2, if_neg c6, if_neg c9, if_pos c12, if_neg c13]; try rfl), ht⟩, hS.F ht⟩) hS.2.2 dFo_isArithmetic_188
      · have c13 := bI_n c13
        refine lv_lload_n hx hb dFo_isArithmetic_176 rfl (lv_at hl 0 rfl) ?_
        refine va_calli (va_runS (As := [.long a0]) (rest := []) ⟨hx, hb, hml, hown, hT⟩ (c_Fi_offset l s.heap a0) (va_cwS 1 hT (gB_SV mw_149 mw_150 mw_16 mw_151) rfl rfl rfl (by decide +kernel) ⟨Nat.le_of_ble_eq_true rfl, Nat.le_of_ble_eq_true rfl⟩) ⟨fun _ _ _ _ q => q, fun U hU hW => ⟨rfl, hU⟩⟩ rfl rfl hl.1 rfl (lv_room (Nat.le_of_ble_eq_true rfl)) dFo_isArithmetic_177 ⟨Nat.zero_le _, Nat.zero_le _⟩) hS (fun _ _ h => h.elim) (fun _ h => h.elim) (fun r u t H1 locs ht hvm hw hB hz8 hk8 hS => ?_)
        obtain rfl : s.heap = H1 := hB.symm.trans ht
        subst hw
        refine lv_if_ne (tgt := 187) hx hb dFo_isArithmetic_180 (by decide) (fun c14 => ?_) (fun c14 => ?_)
        · skip
          refine lv_iconst (v := (0 : Int32)) hx hb dFo_isArithmetic_187 (by decide) ?_
          exact W.zret (v := (0 : Int32)) hx hb hr rfl (fun t ht hW => ⟨⟨(0 : Int32), (), rfl, (by unfold f_Fo_isArithmetic; rw [if_pos c1, if_neg c2, if_neg c6, if_neg c9, if_pos c12, if_pos c13, if_neg c14]; try rfl), ht⟩, hS.F ht⟩) hS.2.2 dFo_isArithmetic_188
        · skip
          refine lv_iconst (v := (1 : Int32)) hx hb dFo_isArithmetic_183 (by decide) ?_
          refine lv_goto (tgt := 188) hx hb dFo_isArithmetic_184 (by decide) ?_
          exact W.zret (v := (1 : Int32)) hx hb hr rfl (fun t ht hW => ⟨⟨(1 : Int32), (), rfl, (by unfold f_Fo_isArithmetic; rw [if_pos c1, if_neg c2, if_neg c6, if_neg c9, if_pos c12, if_pos c13, if_pos c14]; try rfl), ht⟩, hS.F ht⟩) hS.2.2 dFo_isArithmetic_188
    by_cases c15 : (f_Fi_operation a0) = (7 : Int32)
    · skip
      refine lv_tableIn (tgt := 169) (off := 154) hx hb dFo_isArithmetic_15 (by rw [c15]; decide) (by rw [c15]; decide) (by rw [c15]; rfl) (by decide) ?_
      refine lv_lload_n hx hb dFo_isArithmetic_169 rfl (lv_at hl 0 rfl) ?_
      refine va_calli (va_runS (As := [.long a0]) (rest := []) ⟨hx, hb, hml, hown, hT⟩ (c_Fo_hasOperand l s.heap a0) (cwS 1 hT (gB_S mw_189 mw_190 mw_15 mw_191) rfl rfl rfl (by decide +kernel) ⟨Nat.le_of_ble_eq_true rfl, Nat.le_of_ble_eq_true rfl⟩) ⟨fun _ _ _ _ q => q, fun U hU hW => ⟨rfl, hU⟩⟩ rfl rfl hl.1 rfl (lv_room (Nat.le_of_ble_eq_true rfl)) dFo_isArithmetic_170 ⟨Nat.zero_le _, Nat.zero_le _⟩) hS (fun _ _ h => h.elim) (fun _ h => h.elim) (fun r u t H1 locs ht hvm hw hB hz8 hk8 hS => ?_)
      obtain rfl : s.heap = H1 := hB.symm.trans ht
      subst hw
      refine lv_if_eq (tgt := 187) hx hb dFo_isArithmetic_173 (by decide) (fun c16 => ?_) (fun c16 => ?_)
      · have c16 := bI_z c16
        refine lv_iconst (v := (0 : Int32)) hx hb dFo_isArithmetic_187 (by decide) ?_
        exact W.zret (v := (0 : Int32)) hx hb hr rfl (fun t ht hW => ⟨⟨(0 : Int32), (), rfl, (by unfold f_Fo_isArithmetic; rw [if_pos c1, if_neg c2, if_neg c6, if_neg c9, if_neg c12, if_pos c15, if_neg c16]; try rfl), ht⟩, hS.F ht⟩) hS.2.2 dFo_isArithmetic_188
      · have c16 := bI_n c16
        refine lv_lload_n hx hb dFo_isArithmetic_176 rfl (lv_at hl 0 rfl) ?_
        refine va_calli (va_runS (As := [.long a0]) (rest := []) ⟨hx, hb, hml, hown, hT⟩ (c_Fi_offset l s.heap a0) (va_cwS 1 hT (gB_SV mw_149 mw_150 mw_16 mw_151) rfl rfl rfl (by decide +kernel) ⟨Nat.le_of_ble_eq_true rfl, Nat.le_of_ble_eq_true rfl⟩) ⟨fun _ _ _ _ q => q, fun U hU hW => ⟨rfl, hU⟩⟩ rfl rfl hl.1 rfl (lv_room (Nat.le_of_ble_eq_true rfl)) dFo_isArithmetic_177 ⟨Nat.zero_le _, Nat.zero_le _⟩) hS (fun _ _ h => h.elim) (fun _ h => h.elim) (fun r u t H1 locs ht hvm hw hB hz8 hk8 hS => ?_)
        obtain rfl : s.heap = H1 := hB.symm.trans ht
        subst hw
        refine lv_if_ne (tgt := 187) hx hb dFo_isArithmetic_180 (by decide) (fun c17 => ?_) (fun c17 => ?_)
        · skip
          refine lv_iconst (v := (0 : Int32)) hx hb dFo_isArithmetic_187 (by decide) ?_
          exact W.zret (v := (0 : Int32)) hx hb hr rfl (fun t ht hW => ⟨⟨(0 : Int32), (), rfl, (by unfold f_Fo_isArithmetic; rw [if_pos c1, if_neg c2, if_neg c6, if_neg c9, if_neg c12, if_pos c15, if_pos c16, if_neg c17]; try rfl), ht⟩, hS.F ht⟩) hS.2.2 dFo_isArithmetic_188
        · skip
          refine lv_iconst (v := (1 : Int32)) hx hb dFo_isArithmetic_183 (by decide) ?_
          refine lv_goto (tgt := 188) hx hb dFo_isArithmetic_184 (by decide) ?_
          exact W.zret (v := (1 : Int32)) hx hb hr rfl (fun t ht hW => ⟨⟨(1 : Int32), (), rfl, (by unfold f_Fo_isArithmetic; rw [if_pos c1, if_neg c2, if_neg c6, if_neg c9, if_neg c12, if_pos c15, if_pos c16, if_pos c17]; try rfl), ht⟩, hS.F ht⟩) hS.2.2 dFo_isArithmetic_188
    by_cases c18 : (f_Fi_operation a0) = (8 : Int32)
    · skip
      refine lv_tableIn (tgt := 108) (off := 93) hx hb dFo_isArithmetic_15 (by rw [c18]; decide) (by rw [c18]; decide) (by rw [c18]; rfl) (by decide) ?_
      refine lv_lload_n hx hb dFo_isArithmetic_108 rfl (lv_at hl 0 rfl) ?_
      refine va_calli (va_runS (As := [.long a0]) (rest := []) ⟨hx, hb, hml, hown, hT⟩ (c_Fi_usesSource l s.heap a0) (va_cwS 1 hT (gB_SV mw_192 mw_193 mw_16 mw_194) rfl rfl rfl (by decide +kernel) ⟨Nat.le_of_ble_eq_true rfl, Nat.le_of_ble_eq_true rfl⟩) ⟨fun _ _ _ _ q => q, fun U hU hW => ⟨rfl, hU⟩⟩ rfl rfl hl.1 rfl (lv_room (Nat.le_of_ble_eq_true rfl)) dFo_isArithmetic_109 ⟨Nat.zero_le _, Nat.zero_le _⟩) hS (fun _ _ h => h.elim) (fun _ h => h.elim) (fun r u t H1 locs ht hvm hw hB hz8 hk8 hS => ?_)
      obtain rfl : s.heap = H1 := hB.symm.trans ht
      subst hw
      refine lv_if_ne (tgt := 140) hx hb dFo_isArithmetic_112 (by decide) (fun c19 => ?_) (fun c19 => ?_)
      · have c19 := bI_n c19
        refine lv_iconst (v := (0 : Int32)) hx hb dFo_isArithmetic_140 (by decide) ?_
        exact W.zret (v := (0 : Int32)) hx hb hr rfl (fun t ht hW => ⟨⟨(0 : Int32), (), rfl, (by unfold f_Fo_isArithmetic; rw [if_pos c1, if_neg c2, if_neg c6, if_neg c9, if_neg c12, if_neg c15, if_pos c18, if_pos c19]; try rfl), ht⟩, hS.F ht⟩) hS.2.2 dFo_isArithmetic_141
      · have c19 := bI_z c19
        refine lv_lload_n hx hb dFo_isArithmetic_115 rfl (lv_at hl 0 rfl) ?_
        refine va_calli (va_runS (As := [.long a0]) (rest := []) ⟨hx, hb, hml, hown, hT⟩ (c_Fo_hasOperand l s.heap a0) (cwS 1 hT (gB_S mw_189 mw_190 mw_15 mw_191) rfl rfl rfl (by decide +kernel) ⟨Nat.le_of_ble_eq_true rfl, Nat.le_of_ble_eq_true rfl⟩) ⟨fun _ _ _ _ q => q, fun U hU hW => ⟨rfl, hU⟩⟩ rfl rfl hl.1 rfl (lv_room (Nat.le_of_ble_eq_true rfl)) dFo_isArithmetic_116 ⟨Nat.zero_le _, Nat.zero_le _⟩) hS (fun _ _ h => h.elim) (fun _ h => h.elim) (fun r u t H1 locs ht hvm hw hB hz8 hk8 hS => ?_)
        obtain rfl : s.heap = H1 := hB.symm.trans ht
        subst hw
        refine lv_if_eq (tgt := 140) hx hb dFo_isArithmetic_119 (by decide) (fun c20 => ?_) (fun c20 => ?_)
        · have c20 := bI_z c20
          refine lv_iconst (v := (0 : Int32)) hx hb dFo_isArithmetic_140 (by decide) ?_
          exact W.zret (v := (0 : Int32)) hx hb hr rfl (fun t ht hW => ⟨⟨(0 : Int32), (), rfl, (by unfold f_Fo_isArithmetic; rw [if_pos c1, if_neg c2, if_neg c6, if_neg c9, if_neg c12, if_neg c15, if_pos c18, if_neg c19, if_neg c20]; try rfl), ht⟩, hS.F ht⟩) hS.2.2 dFo_isArithmetic_141
        · have c20 := bI_n c20
          refine lv_lload_n hx hb dFo_isArithmetic_122 rfl (lv_at hl 0 rfl) ?_
          refine va_calli (va_runS (As := [.long a0]) (rest := []) ⟨hx, hb, hml, hown, hT⟩ (c_Fi_immediate l s.heap a0) (va_cwS 1 hT (gB_SV mw_152 mw_153 mw_16 mw_154) rfl rfl rfl (by decide +kernel) ⟨Nat.le_of_ble_eq_true rfl, Nat.le_of_ble_eq_true rfl⟩) ⟨fun _ _ _ _ q => q, fun U hU hW => ⟨rfl, hU⟩⟩ rfl rfl hl.1 rfl (lv_room (Nat.le_of_ble_eq_true rfl)) dFo_isArithmetic_123 ⟨Nat.zero_le _, Nat.zero_le _⟩) hS (fun _ _ h => h.elim) (fun _ h => h.elim) (fun r u t H1 locs ht hvm hw hB hz8 hk8 hS => ?_)
          obtain rfl : s.heap = H1 := hB.symm.trans ht
          subst hw
          refine lv_if_ne (tgt := 140) hx hb dFo_isArithmetic_126 (by decide) (fun c21 => ?_) (fun c21 => ?_)
          · skip
            refine lv_iconst (v := (0 : Int32)) hx hb dFo_isArithmetic_140 (by decide) ?_
            exact W.zret (v := (0 : Int32)) hx hb hr rfl (fun t ht hW => ⟨⟨(0 : Int32), (), rfl, (by unfold f_Fo_isArithmetic; rw [if_pos c1, if_neg c2, if_neg c6, if_neg c9, if_neg c12, if_neg c15, if_pos c18, if_neg c19, if_pos c20, if_neg c21]; try rfl), ht⟩, hS.F ht⟩) hS.2.2 dFo_isArithmetic_141
          · skip
            refine lv_lload_n hx hb dFo_isArithmetic_129 rfl (lv_at hl 0 rfl) ?_
            refine va_calli (va_runS (As := [.long a0]) (rest := []) ⟨hx, hb, hml, hown, hT⟩ (c_Fi_offset l s.heap a0) (va_cwS 1 hT (gB_SV mw_149 mw_150 mw_16 mw_151) rfl rfl rfl (by decide +kernel) ⟨Nat.le_of_ble_eq_true rfl, Nat.le_of_ble_eq_true rfl⟩) ⟨fun _ _ _ _ q => q, fun U hU hW => ⟨rfl, hU⟩⟩ rfl rfl hl.1 rfl (lv_room (Nat.le_of_ble_eq_true rfl)) dFo_isArithmetic_130 ⟨Nat.zero_le _, Nat.zero_le _⟩) hS (fun _ _ h => h.elim) (fun _ h => h.elim) (fun r u t H1 locs ht hvm hw hB hz8 hk8 hS => ?_)
            obtain rfl : s.heap = H1 := hB.symm.trans ht
            subst hw
            refine lv_if_ne (tgt := 140) hx hb dFo_isArithmetic_133 (by decide) (fun c22 => ?_) (fun c22 => ?_)
            · skip
              refine lv_iconst (v := (0 : Int32)) hx hb dFo_isArithmetic_140 (by decide) ?_
              exact W.zret (v := (0 : Int32)) hx hb hr rfl (fun t ht hW => ⟨⟨(0 : Int32), (), rfl, (by unfold f_Fo_isArithmetic; rw [if_pos c1, if_neg c2, if_neg c6, if_neg c9, if_neg c12, if_neg c15, if_pos c18, if_neg c19, if_pos c20, if_pos c21, if_neg c22]; try rfl), ht⟩, hS.F ht⟩) hS.2.2 dFo_isArithmetic_141
            · skip
              refine lv_iconst (v := (1 : Int32)) hx hb dFo_isArithmetic_136 (by decide) ?_
              refine lv_goto (tgt := 141) hx hb dFo_isArithmetic_137 (by decide) ?_
              exact W.zret (v := (1 : Int32)) hx hb hr rfl (fun t ht hW => ⟨⟨(1 : Int32), (), rfl, (by unfold f_Fo_isArithmetic; rw [if_pos c1, if_neg c2, if_neg c6, if_neg c9, if_neg c12, if_neg c15, if_pos c18, if_neg c19, if_pos c20, if_pos c21, if_pos c22]; try rfl), ht⟩, hS.F ht⟩) hS.2.2 dFo_isArithmetic_141
    by_cases c23 : (f_Fi_operation a0) = (9 : Int32)
    · skip
      refine lv_tableIn (tgt := 80) (off := 65) hx hb dFo_isArithmetic_15 (by rw [c23]; decide) (by rw [c23]; decide) (by rw [c23]; rfl) (by decide) ?_
      refine lv_lload_n hx hb dFo_isArithmetic_80 rfl (lv_at hl 0 rfl) ?_
      refine va_calli (va_runS (As := [.long a0]) (rest := []) ⟨hx, hb, hml, hown, hT⟩ (c_Fo_hasOperand l s.heap a0) (cwS 1 hT (gB_S mw_189 mw_190 mw_15 mw_191) rfl rfl rfl (by decide +kernel) ⟨Nat.le_of_ble_eq_true rfl, Nat.le_of_ble_eq_true rfl⟩) ⟨fun _ _ _ _ q => q, fun U hU hW => ⟨rfl, hU⟩⟩ rfl rfl hl.1 rfl (lv_room (Nat.le_of_ble_eq_true rfl)) dFo_isArithmetic_81 ⟨Nat.zero_le _, Nat.zero_le _⟩) hS (fun _ _ h => h.elim) (fun _ h => h.elim) (fun r u t H1 locs ht hvm hw hB hz8 hk8 hS => ?_)
      obtain rfl : s.heap = H1 := hB.symm.trans ht
      subst hw
      refine lv_if_eq (tgt := 106) hx hb dFo_isArithmetic_84 (by decide) (fun c24 => ?_) (fun c24 => ?_)
      · have c24 := bI_z c24
        refine lv_iconst (v := (0 : Int32)) hx hb dFo_isArithmetic_106 (by decide) ?_
        exact W.zret (v := (0 : Int32)) hx hb hr rfl (fun t ht hW => ⟨⟨(0 : Int32), (), rfl, (by unfold f_Fo_isArithmetic; rw [if_pos c1, if_neg c2, if_neg c6, if_neg c9, if_neg c12, if_neg c15, if_neg c18, if_pos c23, if_neg c24]; try rfl), ht⟩, hS.F ht⟩) hS.2.2 dFo_isArithmetic_107
      · have c24 := bI_n c24
        refine lv_lload_n hx hb dFo_isArithmetic_87 rfl (lv_at hl 0 rfl) ?_
        refine va_calli (va_runS (As := [.long a0]) (rest := []) ⟨hx, hb, hml, hown, hT⟩ (c_Fi_offset l s.heap a0) (va_cwS 1 hT (gB_SV mw_149 mw_150 mw_16 mw_151) rfl rfl rfl (by decide +kernel) ⟨Nat.le_of_ble_eq_true rfl, Nat.le_of_ble_eq_true rfl⟩) ⟨fun _ _ _ _ q => q, fun U hU hW => ⟨rfl, hU⟩⟩ rfl rfl hl.1 rfl (lv_room (Nat.le_of_ble_eq_true rfl)) dFo_isArithmetic_88 ⟨Nat.zero_le _, Nat.zero_le _⟩) hS (fun _ _ h => h.elim) (fun _ h => h.elim) (fun r u t H1 locs ht hvm hw hB hz8 hk8 hS => ?_)
        obtain rfl : s.heap = H1 := hB.symm.trans ht
        subst hw
        refine lv_if_eq (tgt := 102) hx hb dFo_isArithmetic_91 (by decide) (fun c25 => ?_) (fun c25 => ?_)
        · skip
          refine lv_iconst (v := (1 : Int32)) hx hb dFo_isArithmetic_102 (by decide) ?_
          refine lv_goto (tgt := 107) hx hb dFo_isArithmetic_103 (by decide) ?_
          exact W.zret (v := (1 : Int32)) hx hb hr rfl (fun t ht hW => ⟨⟨(1 : Int32), (), rfl, (by unfold f_Fo_isArithmetic; rw [if_pos c1, if_neg c2, if_neg c6, if_neg c9, if_neg c12, if_neg c15, if_neg c18, if_pos c23, if_pos c24, if_pos c25]; try rfl), ht⟩, hS.F ht⟩) hS.2.2 dFo_isArithmetic_107
        · skip
          refine lv_lload_n hx hb dFo_isArithmetic_94 rfl (lv_at hl 0 rfl) ?_
          refine va_calli (va_runS (As := [.long a0]) (rest := []) ⟨hx, hb, hml, hown, hT⟩ (c_Fi_offset l s.heap a0) (va_cwS 1 hT (gB_SV mw_149 mw_150 mw_16 mw_151) rfl rfl rfl (by decide +kernel) ⟨Nat.le_of_ble_eq_true rfl, Nat.le_of_ble_eq_true rfl⟩) ⟨fun _ _ _ _ q => q, fun U hU hW => ⟨rfl, hU⟩⟩ rfl rfl hl.1 rfl (lv_room (Nat.le_of_ble_eq_true rfl)) dFo_isArithmetic_95 ⟨Nat.zero_le _, Nat.zero_le _⟩) hS (fun _ _ h => h.elim) (fun _ h => h.elim) (fun r u t H1 locs ht hvm hw hB hz8 hk8 hS => ?_)
          obtain rfl : s.heap = H1 := hB.symm.trans ht
          subst hw
          refine lv_iconst (v := (1 : Int32)) hx hb dFo_isArithmetic_98 (by decide) ?_
          refine lv_icmp_ne (tgt := 106) hx hb dFo_isArithmetic_99 (by decide) (fun c26 => ?_) (fun c26 => ?_)
          · skip
            refine lv_iconst (v := (0 : Int32)) hx hb dFo_isArithmetic_106 (by decide) ?_
            exact W.zret (v := (0 : Int32)) hx hb hr rfl (fun t ht hW => ⟨⟨(0 : Int32), (), rfl, (by unfold f_Fo_isArithmetic; rw [if_pos c1, if_neg c2, if_neg c6, if_neg c9, if_neg c12, if_neg c15, if_neg c18, if_pos c23, if_pos c24, if_neg c25, if_neg c26]; try rfl), ht⟩, hS.F ht⟩) hS.2.2 dFo_isArithmetic_107
          · skip
            refine lv_iconst (v := (1 : Int32)) hx hb dFo_isArithmetic_102 (by decide) ?_
            refine lv_goto (tgt := 107) hx hb dFo_isArithmetic_103 (by decide) ?_
            exact W.zret (v := (1 : Int32)) hx hb hr rfl (fun t ht hW => ⟨⟨(1 : Int32), (), rfl, (by unfold f_Fo_isArithmetic; rw [if_pos c1, if_neg c2, if_neg c6, if_neg c9, if_neg c12, if_neg c15, if_neg c18, if_pos c23, if_pos c24, if_neg c25, if_pos c26]; try rfl), ht⟩, hS.F ht⟩) hS.2.2 dFo_isArithmetic_107
    by_cases c27 : (f_Fi_operation a0) = (10 : Int32)
    · skip
      refine lv_tableIn (tgt := 169) (off := 154) hx hb dFo_isArithmetic_15 (by rw [c27]; decide) (by rw [c27]; decide) (by rw [c27]; rfl) (by decide) ?_
      refine lv_lload_n hx hb dFo_isArithmetic_169 rfl (lv_at hl 0 rfl) ?_
      refine va_calli (va_runS (As := [.long a0]) (rest := []) ⟨hx, hb, hml, hown, hT⟩ (c_Fo_hasOperand l s.heap a0) (cwS 1 hT (gB_S mw_189 mw_190 mw_15 mw_191) rfl rfl rfl (by decide +kernel) ⟨Nat.le_of_ble_eq_true rfl, Nat.le_of_ble_eq_true rfl⟩) ⟨fun _ _ _ _ q => q, fun U hU hW => ⟨rfl, hU⟩⟩ rfl rfl hl.1 rfl (lv_room (Nat.le_of_ble_eq_true rfl)) dFo_isArithmetic_170 ⟨Nat.zero_le _, Nat.zero_le _⟩) hS (fun _ _ h => h.elim) (fun _ h => h.elim) (fun r u t H1 locs ht hvm hw hB hz8 hk8 hS => ?_)
      obtain rfl : s.heap = H1 := hB.symm.trans ht
      subst hw
      refine lv_if_eq (tgt := 187) hx hb dFo_isArithmetic_173 (by decide) (fun c28 => ?_) (fun c28 => ?_)
      · have c28 := bI_z c28
        refine lv_iconst (v := (0 : Int32)) hx hb dFo_isArithmetic_187 (by decide) ?_
        exact W.zret (v := (0 : Int32)) hx hb hr rfl (fun t ht hW => ⟨⟨(0 : Int32), (), rfl, (by unfold f_Fo_isArithmetic; rw [if_pos c1, if_neg c2, if_neg c6, if_neg c9, if_neg c12, if_neg c15, if_neg c18, if_neg c23, if_pos c27, if_neg c28]; try rfl), ht⟩, hS.F ht⟩) hS.2.2 dFo_isArithmetic_188
      · have c28 := bI_n c28
        refine lv_lload_n hx hb dFo_isArithmetic_176 rfl (lv_at hl 0 rfl) ?_
        refine va_calli (va_runS (As := [.long a0]) (rest := []) ⟨hx, hb, hml, hown, hT⟩ (c_Fi_offset l s.heap a0) (va_cwS 1 hT (gB_SV mw_149 mw_150 mw_16 mw_151) rfl rfl rfl (by decide +kernel) ⟨Nat.le_of_ble_eq_true rfl, Nat.le_of_ble_eq_true rfl⟩) ⟨fun _ _ _ _ q => q, fun U hU hW => ⟨rfl, hU⟩⟩ rfl rfl hl.1 rfl (lv_room (Nat.le_of_ble_eq_true rfl)) dFo_isArithmetic_177 ⟨Nat.zero_le _, Nat.zero_le _⟩) hS (fun _ _ h => h.elim) (fun _ h => h.elim) (fun r u t H1 locs ht hvm hw hB hz8 hk8 hS => ?_)
        obtain rfl : s.heap = H1 := hB.symm.trans ht
        subst hw
        refine lv_if_ne (tgt := 187) hx hb dFo_isArithmetic_180 (by decide) (fun c29 => ?_) (fun c29 => ?_)
        · skip
          refine lv_iconst (v := (0 : Int32)) hx hb dFo_isArithmetic_187 (by decide) ?_
          exact W.zret (v := (0 : Int32)) hx hb hr rfl (fun t ht hW => ⟨⟨(0 : Int32), (), rfl, (by unfold f_Fo_isArithmetic; rw [if_pos c1, if_neg c2, if_neg c6, if_neg c9, if_neg c12, if_neg c15, if_neg c18, if_neg c23, if_pos c27, if_pos c28, if_neg c29]; try rfl), ht⟩, hS.F ht⟩) hS.2.2 dFo_isArithmetic_188
        · skip
          refine lv_iconst (v := (1 : Int32)) hx hb dFo_isArithmetic_183 (by decide) ?_
          refine lv_goto (tgt := 188) hx hb dFo_isArithmetic_184 (by decide) ?_
          exact W.zret (v := (1 : Int32)) hx hb hr rfl (fun t ht hW => ⟨⟨(1 : Int32), (), rfl, (by unfold f_Fo_isArithmetic; rw [if_pos c1, if_neg c2, if_neg c6, if_neg c9, if_neg c12, if_neg c15, if_neg c18, if_neg c23, if_pos c27, if_pos c28, if_pos c29]; try rfl), ht⟩, hS.F ht⟩) hS.2.2 dFo_isArithmetic_188
    by_cases c30 : (f_Fi_operation a0) = (11 : Int32)
    · skip
      refine lv_tableIn (tgt := 142) (off := 127) hx hb dFo_isArithmetic_15 (by rw [c30]; decide) (by rw [c30]; decide) (by rw [c30]; rfl) (by decide) ?_
      refine lv_lload_n hx hb dFo_isArithmetic_142 rfl (lv_at hl 0 rfl) ?_
      refine va_calli (va_runS (As := [.long a0]) (rest := []) ⟨hx, hb, hml, hown, hT⟩ (c_Fo_hasOperand l s.heap a0) (cwS 1 hT (gB_S mw_189 mw_190 mw_15 mw_191) rfl rfl rfl (by decide +kernel) ⟨Nat.le_of_ble_eq_true rfl, Nat.le_of_ble_eq_true rfl⟩) ⟨fun _ _ _ _ q => q, fun U hU hW => ⟨rfl, hU⟩⟩ rfl rfl hl.1 rfl (lv_room (Nat.le_of_ble_eq_true rfl)) dFo_isArithmetic_143 ⟨Nat.zero_le _, Nat.zero_le _⟩) hS (fun _ _ h => h.elim) (fun _ h => h.elim) (fun r u t H1 locs ht hvm hw hB hz8 hk8 hS => ?_)
      obtain rfl : s.heap = H1 := hB.symm.trans ht
      subst hw
      refine lv_if_eq (tgt := 160) hx hb dFo_isArithmetic_146 (by decide) (fun c31 => ?_) (fun c31 => ?_)
      · have c31 := bI_z c31
        refine lv_iconst (v := (0 : Int32)) hx hb dFo_isArithmetic_160 (by decide) ?_
        exact W.zret (v := (0 : Int32)) hx hb hr rfl (fun t ht hW => ⟨⟨(0 : Int32), (), rfl, (by unfold f_Fo_isArithmetic; rw [if_pos c1, if_neg c2, if_neg c6, if_neg c9, if_neg c12, if_neg c15, if_neg c18, if_neg c23, if_neg c27, if_pos c30, if_neg c31]; try rfl), ht⟩, hS.F ht⟩) hS.2.2 dFo_isArithmetic_161
      · have c31 := bI_n c31
        refine lv_lload_n hx hb dFo_isArithmetic_149 rfl (lv_at hl 0 rfl) ?_
        refine va_calli (va_runS (As := [.long a0]) (rest := []) ⟨hx, hb, hml, hown, hT⟩ (c_Fo_isMoveOffset l s.heap a0) (cwS 1 hT (gB_S mw_204 mw_205 mw_15 mw_206) rfl rfl rfl (by decide +kernel) ⟨Nat.le_of_ble_eq_true rfl, Nat.le_of_ble_eq_true rfl⟩) ⟨fun _ _ _ _ q => q, fun U hU hW => ⟨rfl, hU⟩⟩ rfl rfl hl.1 rfl (lv_room (Nat.le_of_ble_eq_true rfl)) dFo_isArithmetic_150 ⟨Nat.zero_le _, Nat.zero_le _⟩) hS (fun _ _ h => h.elim) (fun _ h => h.elim) (fun r u t H1 locs ht hvm hw hB hz8 hk8 hS => ?_)
        obtain rfl : s.heap = H1 := hB.symm.trans ht
        subst hw
        refine lv_if_eq (tgt := 160) hx hb dFo_isArithmetic_153 (by decide) (fun c32 => ?_) (fun c32 => ?_)
        · have c32 := bI_z c32
          refine lv_iconst (v := (0 : Int32)) hx hb dFo_isArithmetic_160 (by decide) ?_
          exact W.zret (v := (0 : Int32)) hx hb hr rfl (fun t ht hW => ⟨⟨(0 : Int32), (), rfl, (by unfold f_Fo_isArithmetic; rw [if_pos c1, if_neg c2, if_neg c6, if_neg c9, if_neg c12, if_neg c15, if_neg c18, if_neg c23, if_neg c27, if_pos c30, if_pos c31, if_neg c32]; try rfl), ht⟩, hS.F ht⟩) hS.2.2 dFo_isArithmetic_161
        · have c32 := bI_n c32
          refine lv_iconst (v := (1 : Int32)) hx hb dFo_isArithmetic_156 (by decide) ?_
          refine lv_goto (tgt := 161) hx hb dFo_isArithmetic_157 (by decide) ?_
          exact W.zret (v := (1 : Int32)) hx hb hr rfl (fun t ht hW => ⟨⟨(1 : Int32), (), rfl, (by unfold f_Fo_isArithmetic; rw [if_pos c1, if_neg c2, if_neg c6, if_neg c9, if_neg c12, if_neg c15, if_neg c18, if_neg c23, if_neg c27, if_pos c30, if_pos c31, if_pos c32]; try rfl), ht⟩, hS.F ht⟩) hS.2.2 dFo_isArithmetic_161
    by_cases c33 : (f_Fi_operation a0) = (12 : Int32)
    · skip
      refine lv_tableIn (tgt := 169) (off := 154) hx hb dFo_isArithmetic_15 (by rw [c33]; decide) (by rw [c33]; decide) (by rw [c33]; rfl) (by decide) ?_
      refine lv_lload_n hx hb dFo_isArithmetic_169 rfl (lv_at hl 0 rfl) ?_
      refine va_calli (va_runS (As := [.long a0]) (rest := []) ⟨hx, hb, hml, hown, hT⟩ (c_Fo_hasOperand l s.heap a0) (cwS 1 hT (gB_S mw_189 mw_190 mw_15 mw_191) rfl rfl rfl (by decide +kernel) ⟨Nat.le_of_ble_eq_true rfl, Nat.le_of_ble_eq_true rfl⟩) ⟨fun _ _ _ _ q => q, fun U hU hW => ⟨rfl, hU⟩⟩ rfl rfl hl.1 rfl (lv_room (Nat.le_of_ble_eq_true rfl)) dFo_isArithmetic_170 ⟨Nat.zero_le _, Nat.zero_le _⟩) hS (fun _ _ h => h.elim) (fun _ h => h.elim) (fun r u t H1 locs ht hvm hw hB hz8 hk8 hS => ?_)
      obtain rfl : s.heap = H1 := hB.symm.trans ht
      subst hw
      refine lv_if_eq (tgt := 187) hx hb dFo_isArithmetic_173 (by decide) (fun c34 => ?_) (fun c34 => ?_)
      · have c34 := bI_z c34
        refine lv_iconst (v := (0 : Int32)) hx hb dFo_isArithmetic_187 (by decide) ?_
        exact W.zret (v := (0 : Int32)) hx hb hr rfl (fun t ht hW => ⟨⟨(0 : Int32), (), rfl, (by unfold f_Fo_isArithmetic; rw [if_pos c1, if_neg c2, if_neg c6, if_neg c9, if_neg c12, if_neg c15, if_neg c18, if_neg c23, if_neg c27, if_neg c30, if_pos c33, if_neg c34]; try rfl), ht⟩, hS.F ht⟩) hS.2.2 dFo_isArithmetic_188
      · have c34 := bI_n c34
        refine lv_lload_n hx hb dFo_isArithmetic_176 rfl (lv_at hl 0 rfl) ?_
        refine va_calli (va_runS (As := [.long a0]) (rest := []) ⟨hx, hb, hml, hown, hT⟩ (c_Fi_offset l s.heap a0) (va_cwS 1 hT (gB_SV mw_149 mw_150 mw_16 mw_151) rfl rfl rfl (by decide +kernel) ⟨Nat.le_of_ble_eq_true rfl, Nat.le_of_ble_eq_true rfl⟩) ⟨fun _ _ _ _ q => q, fun U hU hW => ⟨rfl, hU⟩⟩ rfl rfl hl.1 rfl (lv_room (Nat.le_of_ble_eq_true rfl)) dFo_isArithmetic_177 ⟨Nat.zero_le _, Nat.zero_le _⟩) hS (fun _ _ h => h.elim) (fun _ h => h.elim) (fun r u t H1 locs ht hvm hw hB hz8 hk8 hS => ?_)
        obtain rfl : s.heap = H1 := hB.symm.trans ht
        subst hw
        refine lv_if_ne (tgt := 187) hx hb dFo_isArithmetic_180 (by decide) (fun c35 => ?_) (fun c35 => ?_)
        · skip
          refine lv_iconst (v := (0 : Int32)) hx hb dFo_isArithmetic_187 (by decide) ?_
          exact W.zret (v := (0 : Int32)) hx hb hr rfl (fun t ht hW => ⟨⟨(0 : Int32), (), rfl, (by unfold f_Fo_isArithmetic; rw [if_pos c1, if_neg c2, if_neg c6, if_neg c9, if_neg c12, if_neg c15, if_neg c18, if_neg c23, if_neg c27, if_neg c30, if_pos c33, if_pos c34, if_neg c35]; try rfl), ht⟩, hS.F ht⟩) hS.2.2 dFo_isArithmetic_188
        · skip
          refine lv_iconst (v := (1 : Int32)) hx hb dFo_isArithmetic_183 (by decide) ?_
          refine lv_goto (tgt := 188) hx hb dFo_isArithmetic_184 (by decide) ?_
          exact W.zret (v := (1 : Int32)) hx hb hr rfl (fun t ht hW => ⟨⟨(1 : Int32), (), rfl, (by unfold f_Fo_isArithmetic; rw [if_pos c1, if_neg c2, if_neg c6, if_neg c9, if_neg c12, if_neg c15, if_neg c18, if_neg c23, if_neg c27, if_neg c30, if_pos c33, if_pos c34, if_pos c35]; try rfl), ht⟩, hS.F ht⟩) hS.2.2 dFo_isArithmetic_188
    by_cases c36 : (f_Fi_operation a0) = (13 : Int32)
    · skip
      refine lv_tableIn (tgt := 162) (off := 147) hx hb dFo_isArithmetic_15 (by rw [c36]; decide) (by rw [c36]; decide) (by rw [c36]; rfl) (by decide) ?_
      refine lv_lload_n hx hb dFo_isArithmetic_162 rfl (lv_at hl 0 rfl) ?_
      refine va_calli (va_runS (As := [.long a0]) (rest := []) ⟨hx, hb, hml, hown, hT⟩ (c_Fo_isTurning l s.heap a0) (cwS 1 hT (gB_S mw_207 mw_208 mw_15 mw_209) rfl rfl rfl (by decide +kernel) ⟨Nat.le_of_ble_eq_true rfl, Nat.le_of_ble_eq_true rfl⟩) ⟨fun _ _ _ _ q => q, fun U hU hW => ⟨rfl, hU⟩⟩ rfl rfl hl.1 rfl (lv_room (Nat.le_of_ble_eq_true rfl)) dFo_isArithmetic_163 ⟨Nat.zero_le _, Nat.zero_le _⟩) hS (fun _ _ h => h.elim) (fun _ h => h.elim) (fun r u t H1 locs ht hvm hw hB hz8 hk8 hS => ?_)
      obtain rfl : s.heap = H1 := hB.symm.trans ht
      subst hw
      exact W.zret (v := (bI (f_Fo_isTurning a0))) hx hb hr (bI_nar _) (fun t ht hW => ⟨⟨(bI (f_Fo_isTurning a0)), (), rfl, (by unfold f_Fo_isArithmetic; rw [if_pos c1, if_neg c2, if_neg c6, if_neg c9, if_neg c12, if_neg c15, if_neg c18, if_neg c23, if_neg c27, if_neg c30, if_neg c33, if_pos c36]; try rfl), ht⟩, hS.F ht⟩) hS.2.2 dFo_isArithmetic_166
    by_cases c37 : (f_Fi_operation a0) = (14 : Int32)
    · skip
      refine lv_tableIn (tgt := 167) (off := 152) hx hb dFo_isArithmetic_15 (by rw [c37]; decide) (by rw [c37]; decide) (by rw [c37]; rfl) (by decide) ?_
      refine lv_iconst (v := (0 : Int32)) hx hb dFo_isArithmetic_167 (by decide) ?_
      exact W.zret (v := (0 : Int32)) hx hb hr rfl (fun t ht hW => ⟨⟨(0 : Int32), (), rfl, (by unfold f_Fo_isArithmetic; rw [if_pos c1, if_neg c2, if_neg c6, if_neg c9, if_neg c12, if_neg c15, if_neg c18, if_neg c23, if_neg c27, if_neg c30, if_neg c33, if_neg c36, if_pos c37]; try rfl), ht⟩, hS.F ht⟩) hS.2.2 dFo_isArithmetic_168
    by_cases c38 : (f_Fi_operation a0) = (15 : Int32)
    · skip
      refine lv_tableIn (tgt := 167) (off := 152) hx hb dFo_isArithmetic_15 (by rw [c38]; decide) (by rw [c38]; decide) (by rw [c38]; rfl) (by decide) ?_
      refine lv_iconst (v := (0 : Int32)) hx hb dFo_isArithmetic_167 (by decide) ?_
      exact W.zret (v := (0 : Int32)) hx hb hr rfl (fun t ht hW => ⟨⟨(0 : Int32), (), rfl, (by unfold f_Fo_isArithmetic; rw [if_pos c1, if_neg c2, if_neg c6, if_neg c9, if_neg c12, if_neg c15, if_neg c18, if_neg c23, if_neg c27, if_neg c30, if_neg c33, if_neg c36, if_neg c37, if_pos c38]; try rfl), ht⟩, hS.F ht⟩) hS.2.2 dFo_isArithmetic_168
    refine lv_tableOut (tgt := 169) hx hb dFo_isArithmetic_15 (by have h0 := lv_neT c2 (a := 3) (by decide); have h1 := lv_neT c6 (a := 4) (by decide); have h2 := lv_neT c9 (a := 5) (by decide); have h3 := lv_neT c12 (a := 6) (by decide); have h4 := lv_neT c15 (a := 7) (by decide); have h5 := lv_neT c18 (a := 8) (by decide); have h6 := lv_neT c23 (a := 9) (by decide); have h7 := lv_neT c27 (a := 10) (by decide); have h8 := lv_neT c30 (a := 11) (by decide); have h9 := lv_neT c33 (a := 12) (by decide); have h10 := lv_neT c36 (a := 13) (by decide); have h11 := lv_neT c37 (a := 14) (by decide); have h12 := lv_neT c38 (a := 15) (by decide); omega) (by decide) ?_
    refine lv_lload_n hx hb dFo_isArithmetic_169 rfl (lv_at hl 0 rfl) ?_
    refine va_calli (va_runS (As := [.long a0]) (rest := []) ⟨hx, hb, hml, hown, hT⟩ (c_Fo_hasOperand l s.heap a0) (cwS 1 hT (gB_S mw_189 mw_190 mw_15 mw_191) rfl rfl rfl (by decide +kernel) ⟨Nat.le_of_ble_eq_true rfl, Nat.le_of_ble_eq_true rfl⟩) ⟨fun _ _ _ _ q => q, fun U hU hW => ⟨rfl, hU⟩⟩ rfl rfl hl.1 rfl (lv_room (Nat.le_of_ble_eq_true rfl)) dFo_isArithmetic_170 ⟨Nat.zero_le _, Nat.zero_le _⟩) hS (fun _ _ h => h.elim) (fun _ h => h.elim) (fun r u t H1 locs ht hvm hw hB hz8 hk8 hS => ?_)
    obtain rfl : s.heap = H1 := hB.symm.trans ht
    subst hw
    refine lv_if_eq (tgt := 187) hx hb dFo_isArithmetic_173 (by decide) (fun c39 => ?_) (fun c39 => ?_)
    · have c39 := bI_z c39
      refine lv_iconst (v := (0 : Int32)) hx hb dFo_isArithmetic_187 (by decide) ?_
      exact W.zret (v := (0 : Int32)) hx hb hr rfl (fun t ht hW => ⟨⟨(0 : Int32), (), rfl, (by unfold f_Fo_isArithmetic; rw [if_pos c1, if_neg c2, if_neg c6, if_neg c9, if_neg c12, if_neg c15, if_neg c18, if_neg c23, if_neg c27, if_neg c30, if_neg c33, if_neg c36, if_neg c37, if_neg c38, if_neg c39]; try rfl), ht⟩, hS.F ht⟩) hS.2.2 dFo_isArithmetic_188
    · have c39 := bI_n c39
      refine lv_lload_n hx hb dFo_isArithmetic_176 rfl (lv_at hl 0 rfl) ?_
      refine va_calli (va_runS (As := [.long a0]) (rest := []) ⟨hx, hb, hml, hown, hT⟩ (c_Fi_offset l s.heap a0) (va_cwS 1 hT (gB_SV mw_149 mw_150 mw_16 mw_151) rfl rfl rfl (by decide +kernel) ⟨Nat.le_of_ble_eq_true rfl, Nat.le_of_ble_eq_true rfl⟩) ⟨fun _ _ _ _ q => q, fun U hU hW => ⟨rfl, hU⟩⟩ rfl rfl hl.1 rfl (lv_room (Nat.le_of_ble_eq_true rfl)) dFo_isArithmetic_177 ⟨Nat.zero_le _, Nat.zero_le _⟩) hS (fun _ _ h => h.elim) (fun _ h => h.elim) (fun r u t H1 locs ht hvm hw hB hz8 hk8 hS => ?_)
      obtain rfl : s.heap = H1 := hB.symm.trans ht
      subst hw
      refine lv_if_ne (tgt := 187) hx hb dFo_isArithmetic_180 (by decide) (fun c40 => ?_) (fun c40 => ?_)
      · skip
        refine lv_iconst (v := (0 : Int32)) hx hb dFo_isArithmetic_187 (by decide) ?_
        exact W.zret (v := (0 : Int32)) hx hb hr rfl (fun t ht hW => ⟨⟨(0 : Int32), (), rfl, (by unfold f_Fo_isArithmetic; rw [if_pos c1, if_neg c2, if_neg c6, if_neg c9, if_neg c12, if_neg c15, if_neg c18, if_neg c23, if_neg c27, if_neg c30, if_neg c33, if_neg c36, if_neg c37, if_neg c38, if_pos c39, if_neg c40]; try rfl), ht⟩, hS.F ht⟩) hS.2.2 dFo_isArithmetic_188
      · skip
        refine lv_iconst (v := (1 : Int32)) hx hb dFo_isArithmetic_183 (by decide) ?_
        refine lv_goto (tgt := 188) hx hb dFo_isArithmetic_184 (by decide) ?_
        exact W.zret (v := (1 : Int32)) hx hb hr rfl (fun t ht hW => ⟨⟨(1 : Int32), (), rfl, (by unfold f_Fo_isArithmetic; rw [if_pos c1, if_neg c2, if_neg c6, if_neg c9, if_neg c12, if_neg c15, if_neg c18, if_neg c23, if_neg c27, if_neg c30, if_neg c33, if_neg c36, if_neg c37, if_neg c38, if_pos c39, if_pos c40]; try rfl), ht⟩, hS.F ht⟩) hS.2.2 dFo_isArithmetic_188
  · skip
    refine lv_iconst (v := (0 : Int32)) hx hb dFo_isArithmetic_9 (by decide) ?_
    exact W.zret (v := (0 : Int32)) hx hb hr rfl (fun t ht hW => ⟨⟨(0 : Int32), (), rfl, (by unfold f_Fo_isArithmetic; rw [if_neg c1]; try rfl), ht⟩, hS.F ht⟩) hS.2.2 dFo_isArithmetic_10

def f_Fo_isInstruction (a0 : Int64) : Bool :=
  if (f_Fi_kind a0) = (0 : Int32) then
    (f_Fo_isFirstOfTwo a0)
  else
    if (f_Fi_kind a0) = (1 : Int32) then
      (f_Fo_isRead a0)
    else
      if (f_Fi_kind a0) = (2 : Int32) then
        (f_Fo_isWriteOfNumber a0)
      else
        if (f_Fi_kind a0) = (3 : Int32) then
          if (f_Fi_mode a0) = (6 : Int32) then
            (f_Fo_isExchange a0)
          else
            (f_Fo_isWriteOfRegister a0)
        else
          if (f_Fi_kind a0) = (4 : Int32) then
            (f_Fo_isArithmetic a0)
          else
            if (f_Fi_kind a0) = (5 : Int32) then
              if (f_Fi_jumpsPerhaps a0) = true then
                (f_Fo_isPerhapsJump a0)
              else
                (f_Fo_isCallOrExitOrJump a0)
            else
              if (f_Fi_kind a0) = (6 : Int32) then
                if (f_Fi_jumpsPerhaps a0) = true then
                  (f_Fo_isPerhapsJump a0)
                else
                  (f_Fo_isCallOrExitOrJump a0)
              else
                (f_Fo_isArithmetic a0)
set_option maxHeartbeats 4000000 in
set_option maxRecDepth 100000 in
theorem c_Fo_isInstruction (l : Launch) (Hp : Heap) (a0 : Int64) : Met l yFo_isInstruction wsFo_isInstruction ({ frames := 3, cells := 0, slots := 0, locals := 64 }) (va_Pc [.long a0] (fun U => U.heap = Hp)) (va_Qi (fun (r : Int32) (_ : Unit) => r = (bI (f_Fo_isInstruction a0))) (fun _ t => t.heap = Hp) (fun _ => False)) 0 0 (fun _ => False) := by
  refine Met.ofW (cc := cFo_isInstruction) (maxL := 2) (ret := (some .boolean)) (by decide) rfl ?_
  intro p e s m args below meth c s₁ B hml hv
  obtain ⟨rfl, rfl⟩ := hv
  have hx := B.exec
  have hb := B.bytes
  have hr := B.returns
  have hT : ∀ w ∈ tB, w.before _ s = true := fun w h => atoms_spec (ws := wsFo_isInstruction) B.pre w (List.mem_cons_of_mem _ h)
  have hown : s.vm.findClass "CompiledProgram$Form" = some m.cls := findClass_of_methodNamed B.named
  have hlocks := B.notSynchronized
  have hS : va_S (fun _ => False) s.heap s.heap [] := va_S.rf
  have hl := lv_entry ([.long a0]) (n := 2) (Nat.le_of_ble_eq_true rfl)
  rw [lg_entry_eq]
  generalize (lg_sl ([.long a0]) ++ List.replicate (2 - (lg_sl ([.long a0])).length) Slot.unset).toArray = ls at hl ⊢
  have hl : lv_has ls 2 [(0, .long a0)] := hl
  refine lv_lload_n hx hb dFo_isInstruction_0 rfl (lv_at hl 0 rfl) ?_
  refine va_calli (va_runS (As := [.long a0]) (rest := []) ⟨hx, hb, hml, hown, hT⟩ (c_Fi_kind l s.heap a0) (va_cwS 1 hT (gB_SV mw_131 mw_132 mw_16 mw_133) rfl rfl rfl (by decide +kernel) ⟨Nat.le_of_ble_eq_true rfl, Nat.le_of_ble_eq_true rfl⟩) ⟨fun _ _ _ _ q => q, fun U hU hW => ⟨rfl, hU⟩⟩ rfl rfl hl.1 rfl (lv_room (Nat.le_of_ble_eq_true rfl)) dFo_isInstruction_1 ⟨Nat.zero_le _, Nat.zero_le _⟩) hS (fun _ _ h => h.elim) (fun _ h => h.elim) (fun r u t H1 locs ht hvm hw hB hz8 hk8 hS => ?_)
  obtain rfl : s.heap = H1 := hB.symm.trans ht
  subst hw
  by_cases c1 : (f_Fi_kind a0) = (0 : Int32)
  · skip
    refine lv_tableIn (tgt := 48) (off := 44) hx hb dFo_isInstruction_4 (by rw [c1]; decide) (by rw [c1]; decide) (by rw [c1]; rfl) (by decide) ?_
    refine lv_lload_n hx hb dFo_isInstruction_48 rfl (lv_at hl 0 rfl) ?_
    refine va_calli (va_runS (As := [.long a0]) (rest := []) ⟨hx, hb, hml, hown, hT⟩ (c_Fo_isFirstOfTwo l s.heap a0) (cwS 1 hT (gB_S mw_134 mw_135 mw_15 mw_136) rfl rfl rfl (by decide +kernel) ⟨Nat.le_of_ble_eq_true rfl, Nat.le_of_ble_eq_true rfl⟩) ⟨fun _ _ _ _ q => q, fun U hU hW => ⟨rfl, hU⟩⟩ rfl rfl hl.1 rfl (lv_room (Nat.le_of_ble_eq_true rfl)) dFo_isInstruction_49 ⟨Nat.zero_le _, Nat.zero_le _⟩) hS (fun _ _ h => h.elim) (fun _ h => h.elim) (fun r u t H1 locs ht hvm hw hB hz8 hk8 hS => ?_)
    obtain rfl : s.heap = H1 := hB.symm.trans ht
    subst hw
    exact W.zret (v := (bI (f_Fo_isFirstOfTwo a0))) hx hb hr (bI_nar _) (fun t ht hW => ⟨⟨(bI (f_Fo_isFirstOfTwo a0)), (), rfl, (by unfold f_Fo_isInstruction; rw [if_pos c1]; try rfl), ht⟩, hS.F ht⟩) hS.2.2 dFo_isInstruction_52
  by_cases c2 : (f_Fi_kind a0) = (1 : Int32)
  · skip
    refine lv_tableIn (tgt := 53) (off := 49) hx hb dFo_isInstruction_4 (by rw [c2]; decide) (by rw [c2]; decide) (by rw [c2]; rfl) (by decide) ?_
    refine lv_lload_n hx hb dFo_isInstruction_53 rfl (lv_at hl 0 rfl) ?_
    refine va_calli (va_runS (As := [.long a0]) (rest := []) ⟨hx, hb, hml, hown, hT⟩ (c_Fo_isRead l s.heap a0) (cwS 1 hT (gB_S mw_155 mw_156 mw_15 mw_157) rfl rfl rfl (by decide +kernel) ⟨Nat.le_of_ble_eq_true rfl, Nat.le_of_ble_eq_true rfl⟩) ⟨fun _ _ _ _ q => q, fun U hU hW => ⟨rfl, hU⟩⟩ rfl rfl hl.1 rfl (lv_room (Nat.le_of_ble_eq_true rfl)) dFo_isInstruction_54 ⟨Nat.zero_le _, Nat.zero_le _⟩) hS (fun _ _ h => h.elim) (fun _ h => h.elim) (fun r u t H1 locs ht hvm hw hB hz8 hk8 hS => ?_)
    obtain rfl : s.heap = H1 := hB.symm.trans ht
    subst hw
    exact W.zret (v := (bI (f_Fo_isRead a0))) hx hb hr (bI_nar _) (fun t ht hW => ⟨⟨(bI (f_Fo_isRead a0)), (), rfl, (by unfold f_Fo_isInstruction; rw [if_neg c1, if_pos c2]; try rfl), ht⟩, hS.F ht⟩) hS.2.2 dFo_isInstruction_57
  by_cases c3 : (f_Fi_kind a0) = (2 : Int32)
  · skip
    refine lv_tableIn (tgt := 58) (off := 54) hx hb dFo_isInstruction_4 (by rw [c3]; decide) (by rw [c3]; decide) (by rw [c3]; rfl) (by decide) ?_
    refine lv_lload_n hx hb dFo_isInstruction_58 rfl (lv_at hl 0 rfl) ?_
    refine va_calli (va_runS (As := [.long a0]) (rest := []) ⟨hx, hb, hml, hown, hT⟩ (c_Fo_isWriteOfNumber l s.heap a0) (cwS 1 hT (gB_S mw_164 mw_165 mw_15 mw_166) rfl rfl rfl (by decide +kernel) ⟨Nat.le_of_ble_eq_true rfl, Nat.le_of_ble_eq_true rfl⟩) ⟨fun _ _ _ _ q => q, fun U hU hW => ⟨rfl, hU⟩⟩ rfl rfl hl.1 rfl (lv_room (Nat.le_of_ble_eq_true rfl)) dFo_isInstruction_59 ⟨Nat.zero_le _, Nat.zero_le _⟩) hS (fun _ _ h => h.elim) (fun _ h => h.elim) (fun r u t H1 locs ht hvm hw hB hz8 hk8 hS => ?_)
    obtain rfl : s.heap = H1 := hB.symm.trans ht
    subst hw
    exact W.zret (v := (bI (f_Fo_isWriteOfNumber a0))) hx hb hr (bI_nar _) (fun t ht hW => ⟨⟨(bI (f_Fo_isWriteOfNumber a0)), (), rfl, (by unfold f_Fo_isInstruction; rw [if_neg c1, if_neg c2, if_pos c3]; try rfl), ht⟩, hS.F ht⟩) hS.2.2 dFo_isInstruction_62
  by_cases c4 : (f_Fi_kind a0) = (3 : Int32)
  · skip
    refine lv_tableIn (tgt := 63) (off := 59) hx hb dFo_isInstruction_4 (by rw [c4]; decide) (by rw [c4]; decide) (by rw [c4]; rfl) (by decide) ?_
    refine lv_lload_n hx hb dFo_isInstruction_63 rfl (lv_at hl 0 rfl) ?_
    refine va_calli (va_runS (As := [.long a0]) (rest := []) ⟨hx, hb, hml, hown, hT⟩ (c_Fi_mode l s.heap a0) (va_cwS 1 hT (gB_SV mw_158 mw_159 mw_16 mw_160) rfl rfl rfl (by decide +kernel) ⟨Nat.le_of_ble_eq_true rfl, Nat.le_of_ble_eq_true rfl⟩) ⟨fun _ _ _ _ q => q, fun U hU hW => ⟨rfl, hU⟩⟩ rfl rfl hl.1 rfl (lv_room (Nat.le_of_ble_eq_true rfl)) dFo_isInstruction_64 ⟨Nat.zero_le _, Nat.zero_le _⟩) hS (fun _ _ h => h.elim) (fun _ h => h.elim) (fun r u t H1 locs ht hvm hw hB hz8 hk8 hS => ?_)
    obtain rfl : s.heap = H1 := hB.symm.trans ht
    subst hw
    refine lv_bipush (v := (6 : Int32)) hx hb dFo_isInstruction_67 (by decide) ?_
    refine lv_icmp_ne (tgt := 79) hx hb dFo_isInstruction_69 (by decide) (fun c5 => ?_) (fun c5 => ?_)
    · skip
      refine lv_lload_n hx hb dFo_isInstruction_79 rfl (lv_at hl 0 rfl) ?_
      refine va_calli (va_runS (As := [.long a0]) (rest := []) ⟨hx, hb, hml, hown, hT⟩ (c_Fo_isWriteOfRegister l s.heap a0) (cwS 1 hT (gB_S mw_176 mw_177 mw_15 mw_178) rfl rfl rfl (by decide +kernel) ⟨Nat.le_of_ble_eq_true rfl, Nat.le_of_ble_eq_true rfl⟩) ⟨fun _ _ _ _ q => q, fun U hU hW => ⟨rfl, hU⟩⟩ rfl rfl hl.1 rfl (lv_room (Nat.le_of_ble_eq_true rfl)) dFo_isInstruction_80 ⟨Nat.zero_le _, Nat.zero_le _⟩) hS (fun _ _ h => h.elim) (fun _ h => h.elim) (fun r u t H1 locs ht hvm hw hB hz8 hk8 hS => ?_)
      obtain rfl : s.heap = H1 := hB.symm.trans ht
      subst hw
      exact W.zret (v := (bI (f_Fo_isWriteOfRegister a0))) hx hb hr (bI_nar _) (fun t ht hW => ⟨⟨(bI (f_Fo_isWriteOfRegister a0)), (), rfl, (by unfold f_Fo_isInstruction; rw [if_neg c1, if_neg c2, if_neg c3, if_pos c4, if_neg c5]; try rfl), ht⟩, hS.F ht⟩) hS.2.2 dFo_isInstruction_83
    · skip
      refine lv_lload_n hx hb dFo_isInstruction_72 rfl (lv_at hl 0 rfl) ?_
      refine va_calli (va_runS (As := [.long a0]) (rest := []) ⟨hx, hb, hml, hown, hT⟩ (c_Fo_isExchange l s.heap a0) (cwS 1 hT (gB_S mw_167 mw_168 mw_15 mw_169) rfl rfl rfl (by decide +kernel) ⟨Nat.le_of_ble_eq_true rfl, Nat.le_of_ble_eq_true rfl⟩) ⟨fun _ _ _ _ q => q, fun U hU hW => ⟨rfl, hU⟩⟩ rfl rfl hl.1 rfl (lv_room (Nat.le_of_ble_eq_true rfl)) dFo_isInstruction_73 ⟨Nat.zero_le _, Nat.zero_le _⟩) hS (fun _ _ h => h.elim) (fun _ h => h.elim) (fun r u t H1 locs ht hvm hw hB hz8 hk8 hS => ?_)
      obtain rfl : s.heap = H1 := hB.symm.trans ht
      subst hw
      refine lv_goto (tgt := 83) hx hb dFo_isInstruction_76 (by decide) ?_
      exact W.zret (v := (bI (f_Fo_isExchange a0))) hx hb hr (bI_nar _) (fun t ht hW => ⟨⟨(bI (f_Fo_isExchange a0)), (), rfl, (by unfold f_Fo_isInstruction; rw [if_neg c1, if_neg c2, if_neg c3, if_pos c4, if_pos c5]; try rfl), ht⟩, hS.F ht⟩) hS.2.2 dFo_isInstruction_83
  by_cases c6 : (f_Fi_kind a0) = (4 : Int32)
  · skip
    refine lv_tableIn (tgt := 103) (off := 99) hx hb dFo_isInstruction_4 (by rw [c6]; decide) (by rw [c6]; decide) (by rw [c6]; rfl) (by decide) ?_
    refine lv_lload_n hx hb dFo_isInstruction_103 rfl (lv_at hl 0 rfl) ?_
    refine va_calli (va_runS (As := [.long a0]) (rest := []) ⟨hx, hb, hml, hown, hT⟩ (c_Fo_isArithmetic l s.heap a0) (cwS 1 hT (gB_S mw_200 mw_201 mw_15 mw_202) rfl rfl rfl (by decide +kernel) ⟨Nat.le_of_ble_eq_true rfl, Nat.le_of_ble_eq_true rfl⟩) ⟨fun _ _ _ _ q => q, fun U hU hW => ⟨rfl, hU⟩⟩ rfl rfl hl.1 rfl (lv_room (Nat.le_of_ble_eq_true rfl)) dFo_isInstruction_104 ⟨Nat.zero_le _, Nat.zero_le _⟩) hS (fun _ _ h => h.elim) (fun _ h => h.elim) (fun r u t H1 locs ht hvm hw hB hz8 hk8 hS => ?_)
    obtain rfl : s.heap = H1 := hB.symm.trans ht
    subst hw
    exact W.zret (v := (bI (f_Fo_isArithmetic a0))) hx hb hr (bI_nar _) (fun t ht hW => ⟨⟨(bI (f_Fo_isArithmetic a0)), (), rfl, (by unfold f_Fo_isInstruction; rw [if_neg c1, if_neg c2, if_neg c3, if_neg c4, if_pos c6]; try rfl), ht⟩, hS.F ht⟩) hS.2.2 dFo_isInstruction_107
  by_cases c7 : (f_Fi_kind a0) = (5 : Int32)
  · skip
    refine lv_tableIn (tgt := 84) (off := 80) hx hb dFo_isInstruction_4 (by rw [c7]; decide) (by rw [c7]; decide) (by rw [c7]; rfl) (by decide) ?_
    refine lv_lload_n hx hb dFo_isInstruction_84 rfl (lv_at hl 0 rfl) ?_
    refine va_calli (va_runS (As := [.long a0]) (rest := []) ⟨hx, hb, hml, hown, hT⟩ (c_Fi_jumpsPerhaps l s.heap a0) (va_cwS 1 hT (gB_SV mw_179 mw_180 mw_16 mw_181) rfl rfl rfl (by decide +kernel) ⟨Nat.le_of_ble_eq_true rfl, Nat.le_of_ble_eq_true rfl⟩) ⟨fun _ _ _ _ q => q, fun U hU hW => ⟨rfl, hU⟩⟩ rfl rfl hl.1 rfl (lv_room (Nat.le_of_ble_eq_true rfl)) dFo_isInstruction_85 ⟨Nat.zero_le _, Nat.zero_le _⟩) hS (fun _ _ h => h.elim) (fun _ h => h.elim) (fun r u t H1 locs ht hvm hw hB hz8 hk8 hS => ?_)
    obtain rfl : s.heap = H1 := hB.symm.trans ht
    subst hw
    refine lv_if_eq (tgt := 98) hx hb dFo_isInstruction_88 (by decide) (fun c8 => ?_) (fun c8 => ?_)
    · have c8 := bI_z c8
      refine lv_lload_n hx hb dFo_isInstruction_98 rfl (lv_at hl 0 rfl) ?_
      refine va_calli (va_runS (As := [.long a0]) (rest := []) ⟨hx, hb, hml, hown, hT⟩ (c_Fo_isCallOrExitOrJump l s.heap a0) (cwS 1 hT (gB_S mw_196 mw_197 mw_15 mw_198) rfl rfl rfl (by decide +kernel) ⟨Nat.le_of_ble_eq_true rfl, Nat.le_of_ble_eq_true rfl⟩) ⟨fun _ _ _ _ q => q, fun U hU hW => ⟨rfl, hU⟩⟩ rfl rfl hl.1 rfl (lv_room (Nat.le_of_ble_eq_true rfl)) dFo_isInstruction_99 ⟨Nat.zero_le _, Nat.zero_le _⟩) hS (fun _ _ h => h.elim) (fun _ h => h.elim) (fun r u t H1 locs ht hvm hw hB hz8 hk8 hS => ?_)
      obtain rfl : s.heap = H1 := hB.symm.trans ht
      subst hw
      exact W.zret (v := (bI (f_Fo_isCallOrExitOrJump a0))) hx hb hr (bI_nar _) (fun t ht hW => ⟨⟨(bI (f_Fo_isCallOrExitOrJump a0)), (), rfl, (by unfold f_Fo_isInstruction; rw [if_neg c1, if_neg c2, if_neg c3, if_neg c4, if_neg c6, if_pos c7, if_neg c8]; try rfl), ht⟩, hS.F ht⟩) hS.2.2 dFo_isInstruction_102
    · have c8 := bI_n c8
      refine lv_lload_n hx hb dFo_isInstruction_91 rfl (lv_at hl 0 rfl) ?_
      refine va_calli (va_runS (As := [.long a0]) (rest := []) ⟨hx, hb, hml, hown, hT⟩ (c_Fo_isPerhapsJump l s.heap a0) (cwS 1 hT (gB_S mw_186 mw_187 mw_15 mw_188) rfl rfl rfl (by decide +kernel) ⟨Nat.le_of_ble_eq_true rfl, Nat.le_of_ble_eq_true rfl⟩) ⟨fun _ _ _ _ q => q, fun U hU hW => ⟨rfl, hU⟩⟩ rfl rfl hl.1 rfl (lv_room (Nat.le_of_ble_eq_true rfl)) dFo_isInstruction_92 ⟨Nat.zero_le _, Nat.zero_le _⟩) hS (fun _ _ h => h.elim) (fun _ h => h.elim) (fun r u t H1 locs ht hvm hw hB hz8 hk8 hS => ?_)
      obtain rfl : s.heap = H1 := hB.symm.trans ht
      subst hw
      refine lv_goto (tgt := 102) hx hb dFo_isInstruction_95 (by decide) ?_
      exact W.zret (v := (bI (f_Fo_isPerhapsJump a0))) hx hb hr (bI_nar _) (fun t ht hW => ⟨⟨(bI (f_Fo_isPerhapsJump a0)), (), rfl, (by unfold f_Fo_isInstruction; rw [if_neg c1, if_neg c2, if_neg c3, if_neg c4, if_neg c6, if_pos c7, if_pos c8]; try rfl), ht⟩, hS.F ht⟩) hS.2.2 dFo_isInstruction_102
  by_cases c9 : (f_Fi_kind a0) = (6 : Int32)
  · skip
    refine lv_tableIn (tgt := 84) (off := 80) hx hb dFo_isInstruction_4 (by rw [c9]; decide) (by rw [c9]; decide) (by rw [c9]; rfl) (by decide) ?_
    refine lv_lload_n hx hb dFo_isInstruction_84 rfl (lv_at hl 0 rfl) ?_
    refine va_calli (va_runS (As := [.long a0]) (rest := []) ⟨hx, hb, hml, hown, hT⟩ (c_Fi_jumpsPerhaps l s.heap a0) (va_cwS 1 hT (gB_SV mw_179 mw_180 mw_16 mw_181) rfl rfl rfl (by decide +kernel) ⟨Nat.le_of_ble_eq_true rfl, Nat.le_of_ble_eq_true rfl⟩) ⟨fun _ _ _ _ q => q, fun U hU hW => ⟨rfl, hU⟩⟩ rfl rfl hl.1 rfl (lv_room (Nat.le_of_ble_eq_true rfl)) dFo_isInstruction_85 ⟨Nat.zero_le _, Nat.zero_le _⟩) hS (fun _ _ h => h.elim) (fun _ h => h.elim) (fun r u t H1 locs ht hvm hw hB hz8 hk8 hS => ?_)
    obtain rfl : s.heap = H1 := hB.symm.trans ht
    subst hw
    refine lv_if_eq (tgt := 98) hx hb dFo_isInstruction_88 (by decide) (fun c10 => ?_) (fun c10 => ?_)
    · have c10 := bI_z c10
      refine lv_lload_n hx hb dFo_isInstruction_98 rfl (lv_at hl 0 rfl) ?_
      refine va_calli (va_runS (As := [.long a0]) (rest := []) ⟨hx, hb, hml, hown, hT⟩ (c_Fo_isCallOrExitOrJump l s.heap a0) (cwS 1 hT (gB_S mw_196 mw_197 mw_15 mw_198) rfl rfl rfl (by decide +kernel) ⟨Nat.le_of_ble_eq_true rfl, Nat.le_of_ble_eq_true rfl⟩) ⟨fun _ _ _ _ q => q, fun U hU hW => ⟨rfl, hU⟩⟩ rfl rfl hl.1 rfl (lv_room (Nat.le_of_ble_eq_true rfl)) dFo_isInstruction_99 ⟨Nat.zero_le _, Nat.zero_le _⟩) hS (fun _ _ h => h.elim) (fun _ h => h.elim) (fun r u t H1 locs ht hvm hw hB hz8 hk8 hS => ?_)
      obtain rfl : s.heap = H1 := hB.symm.trans ht
      subst hw
      exact W.zret (v := (bI (f_Fo_isCallOrExitOrJump a0))) hx hb hr (bI_nar _) (fun t ht hW => ⟨⟨(bI (f_Fo_isCallOrExitOrJump a0)), (), rfl, (by unfold f_Fo_isInstruction; rw [if_neg c1, if_neg c2, if_neg c3, if_neg c4, if_neg c6, if_neg c7, if_pos c9, if_neg c10]; try rfl), ht⟩, hS.F ht⟩) hS.2.2 dFo_isInstruction_102
    · have c10 := bI_n c10
      refine lv_lload_n hx hb dFo_isInstruction_91 rfl (lv_at hl 0 rfl) ?_
      refine va_calli (va_runS (As := [.long a0]) (rest := []) ⟨hx, hb, hml, hown, hT⟩ (c_Fo_isPerhapsJump l s.heap a0) (cwS 1 hT (gB_S mw_186 mw_187 mw_15 mw_188) rfl rfl rfl (by decide +kernel) ⟨Nat.le_of_ble_eq_true rfl, Nat.le_of_ble_eq_true rfl⟩) ⟨fun _ _ _ _ q => q, fun U hU hW => ⟨rfl, hU⟩⟩ rfl rfl hl.1 rfl (lv_room (Nat.le_of_ble_eq_true rfl)) dFo_isInstruction_92 ⟨Nat.zero_le _, Nat.zero_le _⟩) hS (fun _ _ h => h.elim) (fun _ h => h.elim) (fun r u t H1 locs ht hvm hw hB hz8 hk8 hS => ?_)
      obtain rfl : s.heap = H1 := hB.symm.trans ht
      subst hw
      refine lv_goto (tgt := 102) hx hb dFo_isInstruction_95 (by decide) ?_
      exact W.zret (v := (bI (f_Fo_isPerhapsJump a0))) hx hb hr (bI_nar _) (fun t ht hW => ⟨⟨(bI (f_Fo_isPerhapsJump a0)), (), rfl, (by unfold f_Fo_isInstruction; rw [if_neg c1, if_neg c2, if_neg c3, if_neg c4, if_neg c6, if_neg c7, if_pos c9, if_pos c10]; try rfl), ht⟩, hS.F ht⟩) hS.2.2 dFo_isInstruction_102
  refine lv_tableOut (tgt := 103) hx hb dFo_isInstruction_4 (by have h0 := lv_neT c1 (a := 0) (by decide); have h1 := lv_neT c2 (a := 1) (by decide); have h2 := lv_neT c3 (a := 2) (by decide); have h3 := lv_neT c4 (a := 3) (by decide); have h4 := lv_neT c6 (a := 4) (by decide); have h5 := lv_neT c7 (a := 5) (by decide); have h6 := lv_neT c9 (a := 6) (by decide); omega) (by decide) ?_
  refine lv_lload_n hx hb dFo_isInstruction_103 rfl (lv_at hl 0 rfl) ?_
  refine va_calli (va_runS (As := [.long a0]) (rest := []) ⟨hx, hb, hml, hown, hT⟩ (c_Fo_isArithmetic l s.heap a0) (cwS 1 hT (gB_S mw_200 mw_201 mw_15 mw_202) rfl rfl rfl (by decide +kernel) ⟨Nat.le_of_ble_eq_true rfl, Nat.le_of_ble_eq_true rfl⟩) ⟨fun _ _ _ _ q => q, fun U hU hW => ⟨rfl, hU⟩⟩ rfl rfl hl.1 rfl (lv_room (Nat.le_of_ble_eq_true rfl)) dFo_isInstruction_104 ⟨Nat.zero_le _, Nat.zero_le _⟩) hS (fun _ _ h => h.elim) (fun _ h => h.elim) (fun r u t H1 locs ht hvm hw hB hz8 hk8 hS => ?_)
  obtain rfl : s.heap = H1 := hB.symm.trans ht
  subst hw
  exact W.zret (v := (bI (f_Fo_isArithmetic a0))) hx hb hr (bI_nar _) (fun t ht hW => ⟨⟨(bI (f_Fo_isArithmetic a0)), (), rfl, (by unfold f_Fo_isInstruction; rw [if_neg c1, if_neg c2, if_neg c3, if_neg c4, if_neg c6, if_neg c7, if_neg c9]; try rfl), ht⟩, hS.F ht⟩) hS.2.2 dFo_isInstruction_107
