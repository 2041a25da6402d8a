def f_Ex_isKnown (a0 : Int32) : Bool :=
  if a0 = (0 : Int32) then
    true
  else
    if a0 = (1 : Int32) then
      true
    else
      if a0 = (64 : Int32) then
        true
      else
        if a0 = (65 : Int32) then
          true
        else
          if a0 = (80 : Int32) then
            true
          else
            if a0 = (81 : Int32) then
              true
            else
              if a0 = (160 : Int32) then
                true
              else
                if a0 = (161 : Int32) then
                  true
                else
                  if a0 = (225 : Int32) then
                    true
                  else
                    if a0 = (241 : Int32) then
                      true
                    else
                      false
set_option maxHeartbeats 4000000 in
set_option maxRecDepth 100000 in
theorem c_Ex_isKnown (l : Launch) (Hp : Heap) (a0 : Int32) : Met l yEx_isKnown wsEx_isKnown ({ frames := 0, cells := 0, slots := 0, locals := 0 }) (va_Pc [.int a0] (fun U => U.heap = Hp)) (va_Qi (fun (r : Int32) (_ : Unit) => r = (bI (f_Ex_isKnown a0))) (fun _ t => t.heap = Hp) (fun _ => False)) 0 0 (fun _ => False) := by
  refine Met.ofW (cc := cEx_isKnown) (maxL := 1) (ret := (some .boolean)) (by decide) rfl ?_
  intro p e s m args below meth c s₁ B hml hv
  obtain ⟨rfl, rfl⟩ := hv
  have hx := B.exec
  have hb := B.bytes
  have hr := B.returns
  have hT : ∀ w ∈ tB, w.before _ s = true := fun w h => atoms_spec (ws := wsEx_isKnown) B.pre w (List.mem_cons_of_mem _ h)
  have hown : s.vm.findClass "CompiledProgram$Exchange" = some m.cls := findClass_of_methodNamed B.named
  have hlocks := B.notSynchronized
  have hS : va_S (fun _ => False) s.heap s.heap [] := va_S.rf
  have hl := lv_entry ([.int a0]) (n := 1) (Nat.le_of_ble_eq_true rfl)
  rw [lg_entry_eq]
  generalize (lg_sl ([.int a0]) ++ List.replicate (1 - (lg_sl ([.int a0])).length) Slot.unset).toArray = ls at hl ⊢
  have hl : lv_has ls 1 [(0, .int a0)] := hl
  refine lv_iload_n hx hb dEx_isKnown_0 rfl (lv_at hl 0 rfl) ?_
  by_cases c1 : a0 = (0 : Int32)
  · skip
    refine lv_lookup (tgt := 76) (off := 75) hx hb dEx_isKnown_1 (by decide) (by rw [c1]; rfl) (by decide) ?_
    refine lv_iconst (v := (1 : Int32)) hx hb dEx_isKnown_76 (by decide) ?_
    exact W.zret (v := (1 : Int32)) hx hb hr rfl (fun t ht hW => ⟨⟨(1 : Int32), (), rfl, (by unfold f_Ex_isKnown; rw [if_pos c1]; try rfl), ht⟩, hS.F ht⟩) hS.2.2 dEx_isKnown_77
  by_cases c2 : a0 = (1 : Int32)
  · skip
    refine lv_lookup (tgt := 76) (off := 75) hx hb dEx_isKnown_1 (by decide) (by rw [c2]; rfl) (by decide) ?_
    refine lv_iconst (v := (1 : Int32)) hx hb dEx_isKnown_76 (by decide) ?_
    exact W.zret (v := (1 : Int32)) hx hb hr rfl (fun t ht hW => ⟨⟨(1 : Int32), (), rfl, (by unfold f_Ex_isKnown; rw [if_neg c1, if_pos c2]; try rfl), ht⟩, hS.F ht⟩) hS.2.2 dEx_isKnown_77
  by_cases c3 : a0 = (64 : Int32)
  · skip
    refine lv_lookup (tgt := 76) (off := 75) hx hb dEx_isKnown_1 (by decide) (by rw [c3]; rfl) (by decide) ?_
    refine lv_iconst (v := (1 : Int32)) hx hb dEx_isKnown_76 (by decide) ?_
    exact W.zret (v := (1 : Int32)) hx hb hr rfl (fun t ht hW => ⟨⟨(1 : Int32), (), rfl, (by unfold f_Ex_isKnown; rw [if_neg c1, if_neg c2, if_pos c3]; try rfl), ht⟩, hS.F ht⟩) hS.2.2 dEx_isKnown_77
  by_cases c4 : a0 = (65 : Int32)
  · skip
    refine lv_lookup (tgt := 76) (off := 75) hx hb dEx_isKnown_1 (by decide) (by rw [c4]; rfl) (by decide) ?_
    refine lv_iconst (v := (1 : Int32)) hx hb dEx_isKnown_76 (by decide) ?_
    exact W.zret (v := (1 : Int32)) hx hb hr rfl (fun t ht hW => ⟨⟨(1 : Int32), (), rfl, (by unfold f_Ex_isKnown; rw [if_neg c1, if_neg c2, if_neg c3, if_pos c4]; try rfl), ht⟩, hS.F ht⟩) hS.2.2 dEx_isKnown_77
  by_cases c5 : a0 = (80 : Int32)
  · skip
    refine lv_lookup (tgt := 76) (off := 75) hx hb dEx_isKnown_1 (by decide) (by rw [c5]; rfl) (by decide) ?_
    refine lv_iconst (v := (1 : Int32)) hx hb dEx_isKnown_76 (by decide) ?_
    exact W.zret (v := (1 : Int32)) hx hb hr rfl (fun t ht hW => ⟨⟨(1 : Int32), (), rfl, (by unfold f_Ex_isKnown; rw [if_neg c1, if_neg c2, if_neg c3, if_neg c4, if_pos c5]; try rfl), ht⟩, hS.F ht⟩) hS.2.2 dEx_isKnown_77
  by_cases c6 : a0 = (81 : Int32)
  · skip
    refine lv_lookup (tgt := 76) (off := 75) hx hb dEx_isKnown_1 (by decide) (by rw [c6]; rfl) (by decide) ?_
    refine lv_iconst (v := (1 : Int32)) hx hb dEx_isKnown_76 (by decide) ?_
    exact W.zret (v := (1 : Int32)) hx hb hr rfl (fun t ht hW => ⟨⟨(1 : Int32), (), rfl, (by unfold f_Ex_isKnown; rw [if_neg c1, if_neg c2, if_neg c3, if_neg c4, if_neg c5, if_pos c6]; try rfl), ht⟩, hS.F ht⟩) hS.2.2 dEx_isKnown_77
  by_cases c7 : a0 = (160 : Int32)
  · skip
    refine lv_lookup (tgt := 76) (off := 75) hx hb dEx_isKnown_1 (by decide) (by rw [c7]; rfl) (by decide) ?_
    refine lv_iconst (v := (1 : Int32)) hx hb dEx_isKnown_76 (by decide) ?_
    exact W.zret (v := (1 : Int32)) hx hb hr rfl (fun t ht hW => ⟨⟨(1 : Int32), (), rfl, (by unfold f_Ex_isKnown; rw [if_neg c1, if_neg c2, if_neg c3, if_neg c4, if_neg c5, if_neg c6, if_pos c7]; try rfl), ht⟩, hS.F ht⟩) hS.2.2 dEx_isKnown_77
  by_cases c8 : a0 = (161 : Int32)
  · skip
    refine lv_lookup (tgt := 76) (off := 75) hx hb dEx_isKnown_1 (by decide) (by rw [c8]; rfl) (by decide) ?_
    refine lv_iconst (v := (1 : Int32)) hx hb dEx_isKnown_76 (by decide) ?_
    exact W.zret (v := (1 : Int32)) hx hb hr rfl (fun t ht hW => ⟨⟨(1 : Int32), (), rfl, (by unfold f_Ex_isKnown; rw [if_neg c1, if_neg c2, if_neg c3, if_neg c4, if_neg c5, if_neg c6, if_neg c7, if_pos c8]; try rfl), ht⟩, hS.F ht⟩) hS.2.2 dEx_isKnown_77
  refine lv_lookup (tgt := 78) (off := 77) hx hb dEx_isKnown_1 (by decide) (by rw [lv_osw c1 (by decide), lv_osw c2 (by decide), lv_osw c3 (by decide), lv_osw c4 (by decide), lv_osw c5 (by decide), lv_osw c6 (by decide), lv_osw c7 (by decide), lv_osw c8 (by decide)]; rfl) (by decide) ?_
  refine lv_iload_n hx hb dEx_isKnown_78 rfl (lv_at hl 0 rfl) ?_
  refine lv_sipush (v := (225 : Int32)) hx hb dEx_isKnown_79 (by decide) ?_
  refine lv_icmp_eq (tgt := 92) hx hb dEx_isKnown_82 (by decide) (fun c9 => ?_) (fun c9 => ?_)
  · skip
    refine lv_iconst (v := (1 : Int32)) hx hb dEx_isKnown_92 (by decide) ?_
    refine lv_goto (tgt := 97) hx hb dEx_isKnown_93 (by decide) ?_
    exact W.zret (v := (1 : Int32)) hx hb hr rfl (fun t ht hW => ⟨⟨(1 : Int32), (), rfl, (by unfold f_Ex_isKnown; rw [if_neg c1, if_neg c2, if_neg c3, if_neg c4, if_neg c5, if_neg c6, if_neg c7, if_neg c8, if_pos c9]; try rfl), ht⟩, hS.F ht⟩) hS.2.2 dEx_isKnown_97
  · skip
    refine lv_iload_n hx hb dEx_isKnown_85 rfl (lv_at hl 0 rfl) ?_
    refine lv_sipush (v := (241 : Int32)) hx hb dEx_isKnown_86 (by decide) ?_
    refine lv_icmp_ne (tgt := 96) hx hb dEx_isKnown_89 (by decide) (fun c10 => ?_) (fun c10 => ?_)
    · skip
      refine lv_iconst (v := (0 : Int32)) hx hb dEx_isKnown_96 (by decide) ?_
      exact W.zret (v := (0 : Int32)) hx hb hr rfl (fun t ht hW => ⟨⟨(0 : Int32), (), rfl, (by unfold f_Ex_isKnown; rw [if_neg c1, if_neg c2, if_neg c3, if_neg c4, if_neg c5, if_neg c6, if_neg c7, if_neg c8, if_neg c9, if_neg c10]; try rfl), ht⟩, hS.F ht⟩) hS.2.2 dEx_isKnown_97
    · skip
      refine lv_iconst (v := (1 : Int32)) hx hb dEx_isKnown_92 (by decide) ?_
      refine lv_goto (tgt := 97) hx hb dEx_isKnown_93 (by decide) ?_
      exact W.zret (v := (1 : Int32)) hx hb hr rfl (fun t ht hW => ⟨⟨(1 : Int32), (), rfl, (by unfold f_Ex_isKnown; rw [if_neg c1, if_neg c2, if_neg c3, if_neg c4, if_neg c5, if_neg c6, if_neg c7, if_neg c8, if_neg c9, if_pos c10]; try rfl), ht⟩, hS.F ht⟩) hS.2.2 dEx_isKnown_97

def f_Ex_changesSource (a0 : Int32) : Bool :=
  if (a0 &&& (1 : Int32)) = (1 : Int32) then
    if a0 = (241 : Int32) then
      false
    else
      true
  else
    false
set_option maxHeartbeats 4000000 in
set_option maxRecDepth 100000 in
theorem c_Ex_changesSource (l : Launch) (Hp : Heap) (a0 : Int32) : Met l yEx_changesSource wsEx_changesSource ({ frames := 0, cells := 0, slots := 0, locals := 0 }) (va_Pc [.int a0] (fun U => U.heap = Hp)) (va_Qi (fun (r : Int32) (_ : Unit) => r = (bI (f_Ex_changesSource a0))) (fun _ t => t.heap = Hp) (fun _ => False)) 0 0 (fun _ => False) := by
  refine Met.ofW (cc := cEx_changesSource) (maxL := 1) (ret := (some .boolean)) (by decide) rfl ?_
  intro p e s m args below meth c s₁ B hml hv
  obtain ⟨rfl, rfl⟩ := hv
  have hx := B.exec
  have hb := B.bytes
  have hr := B.returns
  have hT : ∀ w ∈ tB, w.before _ s = true := fun w h => atoms_spec (ws := wsEx_changesSource) B.pre w (List.mem_cons_of_mem _ h)
  have hown : s.vm.findClass "CompiledProgram$Exchange" = some m.cls := findClass_of_methodNamed B.named
  have hlocks := B.notSynchronized
  have hS : va_S (fun _ => False) s.heap s.heap [] := va_S.rf
  have hl := lv_entry ([.int a0]) (n := 1) (Nat.le_of_ble_eq_true rfl)
  rw [lg_entry_eq]
  generalize (lg_sl ([.int a0]) ++ List.replicate (1 - (lg_sl ([.int a0])).length) Slot.unset).toArray = ls at hl ⊢
  have hl : lv_has ls 1 [(0, .int a0)] := hl
  refine lv_iload_n hx hb dEx_changesSource_0 rfl (lv_at hl 0 rfl) ?_
  refine lv_iconst (v := (1 : Int32)) hx hb dEx_changesSource_1 (by decide) ?_
  refine lv_iand hx hb dEx_changesSource_2 ?_
  refine lv_iconst (v := (1 : Int32)) hx hb dEx_changesSource_3 (by decide) ?_
  refine lv_icmp_ne (tgt := 18) hx hb dEx_changesSource_4 (by decide) (fun c1 => ?_) (fun c1 => ?_)
  · skip
    refine lv_iconst (v := (0 : Int32)) hx hb dEx_changesSource_18 (by decide) ?_
    exact W.zret (v := (0 : Int32)) hx hb hr rfl (fun t ht hW => ⟨⟨(0 : Int32), (), rfl, (by unfold f_Ex_changesSource; rw [if_neg c1]; try rfl), ht⟩, hS.F ht⟩) hS.2.2 dEx_changesSource_19
  · skip
    refine lv_iload_n hx hb dEx_changesSource_7 rfl (lv_at hl 0 rfl) ?_
    refine lv_sipush (v := (241 : Int32)) hx hb dEx_changesSource_8 (by decide) ?_
    refine lv_icmp_eq (tgt := 18) hx hb dEx_changesSource_11 (by decide) (fun c2 => ?_) (fun c2 => ?_)
    · skip
      refine lv_iconst (v := (0 : Int32)) hx hb dEx_changesSource_18 (by decide) ?_
      exact W.zret (v := (0 : Int32)) hx hb hr rfl (fun t ht hW => ⟨⟨(0 : Int32), (), rfl, (by unfold f_Ex_changesSource; rw [if_pos c1, if_pos c2]; try rfl), ht⟩, hS.F ht⟩) hS.2.2 dEx_changesSource_19
    · skip
      refine lv_iconst (v := (1 : Int32)) hx hb dEx_changesSource_14 (by decide) ?_
      refine lv_goto (tgt := 19) hx hb dEx_changesSource_15 (by decide) ?_
      exact W.zret (v := (1 : Int32)) hx hb hr rfl (fun t ht hW => ⟨⟨(1 : Int32), (), rfl, (by unfold f_Ex_changesSource; rw [if_pos c1, if_neg c2]; try rfl), ht⟩, hS.F ht⟩) hS.2.2 dEx_changesSource_19

def f_Ex_become (a0 : Int32) (a1 : Int64) (a2 : Int64) (a3 : Bool) : Int64 :=
  if a0 = (0 : Int32) then
    (a1 + a2)
  else
    if a0 = (1 : Int32) then
      (a1 + a2)
    else
      if a0 = (64 : Int32) then
        (a1 ||| a2)
      else
        if a0 = (65 : Int32) then
          (a1 ||| a2)
        else
          if a0 = (80 : Int32) then
            (a1 &&& a2)
          else
            if a0 = (81 : Int32) then
              (a1 &&& a2)
            else
              if a0 = (160 : Int32) then
                (a1 ^^^ a2)
              else
                if a0 = (161 : Int32) then
                  (a1 ^^^ a2)
                else
                  if a0 = (225 : Int32) then
                    a2
                  else
                    if a3 = true then
                      a2
                    else
                      a1
set_option maxHeartbeats 4000000 in
set_option maxRecDepth 100000 in
theorem c_Ex_become (l : Launch) (Hp : Heap) (a0 : Int32) (a1 : Int64) (a2 : Int64) (a3 : Bool) : Met l yEx_become wsEx_become ({ frames := 0, cells := 0, slots := 0, locals := 0 }) (va_Pc [.int a0, .long a1, .long a2, .int (bI a3)] (fun U => U.heap = Hp)) (va_Ql (fun (r : Int64) (_ : Unit) => r = f_Ex_become a0 a1 a2 a3) (fun _ t => t.heap = Hp) (fun _ => False)) 0 0 (fun _ => False) := by
  refine Met.ofW (cc := cEx_become) (maxL := 6) (ret := (some .long)) (by decide) rfl ?_
  intro p e s m args below meth c s₁ B hml hv
  obtain ⟨rfl, rfl⟩ := hv
  have hx := B.exec
  have hb := B.bytes
  have hr := B.returns
  have hT : ∀ w ∈ tB, w.before _ s = true := fun w h => atoms_spec (ws := wsEx_become) B.pre w (List.mem_cons_of_mem _ h)
  have hown : s.vm.findClass "CompiledProgram$Exchange" = some m.cls := findClass_of_methodNamed B.named
  have hlocks := B.notSynchronized
  have hS : va_S (fun _ => False) s.heap s.heap [] := va_S.rf
  have hl := lv_entry ([.int a0, .long a1, .long a2, .int (bI a3)]) (n := 6) (Nat.le_of_ble_eq_true rfl)
  rw [lg_entry_eq]
  generalize (lg_sl ([.int a0, .long a1, .long a2, .int (bI a3)]) ++ List.replicate (6 - (lg_sl ([.int a0, .long a1, .long a2, .int (bI a3)])).length) Slot.unset).toArray = ls at hl ⊢
  have hl : lv_has ls 6 [(0, .int a0), (1, .long a1), (3, .long a2), (5, .int (bI a3))] := hl
  refine lv_iload_n hx hb dEx_become_0 rfl (lv_at hl 0 rfl) ?_
  by_cases c1 : a0 = (0 : Int32)
  · skip
    refine lv_lookup (tgt := 84) (off := 83) hx hb dEx_become_1 (by decide) (by rw [c1]; rfl) (by decide) ?_
    refine lv_lload_n hx hb dEx_become_84 rfl (lv_at hl 1 rfl) ?_
    refine lv_lload_n hx hb dEx_become_85 rfl (lv_at hl 2 rfl) ?_
    refine lv_ladd hx hb dEx_become_86 ?_
    exact W.lret (v := (a1 + a2)) hx hb hr (fun t ht hW => ⟨⟨(a1 + a2), (), rfl, (by unfold f_Ex_become; rw [if_pos c1]; try rfl), ht⟩, hS.F ht⟩) hS.2.2 dEx_become_87
  by_cases c2 : a0 = (1 : Int32)
  · skip
    refine lv_lookup (tgt := 84) (off := 83) hx hb dEx_become_1 (by decide) (by rw [c2]; rfl) (by decide) ?_
    refine lv_lload_n hx hb dEx_become_84 rfl (lv_at hl 1 rfl) ?_
    refine lv_lload_n hx hb dEx_become_85 rfl (lv_at hl 2 rfl) ?_
    refine lv_ladd hx hb dEx_become_86 ?_
    exact W.lret (v := (a1 + a2)) hx hb hr (fun t ht hW => ⟨⟨(a1 + a2), (), rfl, (by unfold f_Ex_become; rw [if_neg c1, if_pos c2]; try rfl), ht⟩, hS.F ht⟩) hS.2.2 dEx_become_87
  by_cases c3 : a0 = (64 : Int32)
  · skip
    refine lv_lookup (tgt := 88) (off := 87) hx hb dEx_become_1 (by decide) (by rw [c3]; rfl) (by decide) ?_
    refine lv_lload_n hx hb dEx_become_88 rfl (lv_at hl 1 rfl) ?_
    refine lv_lload_n hx hb dEx_become_89 rfl (lv_at hl 2 rfl) ?_
    refine lv_lor hx hb dEx_become_90 ?_
    exact W.lret (v := (a1 ||| a2)) hx hb hr (fun t ht hW => ⟨⟨(a1 ||| a2), (), rfl, (by unfold f_Ex_become; rw [if_neg c1, if_neg c2, if_pos c3]; try rfl), ht⟩, hS.F ht⟩) hS.2.2 dEx_become_91
  by_cases c4 : a0 = (65 : Int32)
  · skip
    refine lv_lookup (tgt := 88) (off := 87) hx hb dEx_become_1 (by decide) (by rw [c4]; rfl) (by decide) ?_
    refine lv_lload_n hx hb dEx_become_88 rfl (lv_at hl 1 rfl) ?_
    refine lv_lload_n hx hb dEx_become_89 rfl (lv_at hl 2 rfl) ?_
    refine lv_lor hx hb dEx_become_90 ?_
    exact W.lret (v := (a1 ||| a2)) hx hb hr (fun t ht hW => ⟨⟨(a1 ||| a2), (), rfl, (by unfold f_Ex_become; rw [if_neg c1, if_neg c2, if_neg c3, if_pos c4]; try rfl), ht⟩, hS.F ht⟩) hS.2.2 dEx_become_91
  by_cases c5 : a0 = (80 : Int32)
  · skip
    refine lv_lookup (tgt := 92) (off := 91) hx hb dEx_become_1 (by decide) (by rw [c5]; rfl) (by decide) ?_
    refine lv_lload_n hx hb dEx_become_92 rfl (lv_at hl 1 rfl) ?_
    refine lv_lload_n hx hb dEx_become_93 rfl (lv_at hl 2 rfl) ?_
    refine lv_land hx hb dEx_become_94 ?_
    exact W.lret (v := (a1 &&& a2)) hx hb hr (fun t ht hW => ⟨⟨(a1 &&& a2), (), rfl, (by unfold f_Ex_become; rw [if_neg c1, if_neg c2, if_neg c3, if_neg c4, if_pos c5]; try rfl), ht⟩, hS.F ht⟩) hS.2.2 dEx_become_95
  by_cases c6 : a0 = (81 : Int32)
  · skip
    refine lv_lookup (tgt := 92) (off := 91) hx hb dEx_become_1 (by decide) (by rw [c6]; rfl) (by decide) ?_
    refine lv_lload_n hx hb dEx_become_92 rfl (lv_at hl 1 rfl) ?_
    refine lv_lload_n hx hb dEx_become_93 rfl (lv_at hl 2 rfl) ?_
    refine lv_land hx hb dEx_become_94 ?_
    exact W.lret (v := (a1 &&& a2)) hx hb hr (fun t ht hW => ⟨⟨(a1 &&& a2), (), rfl, (by unfold f_Ex_become; rw [if_neg c1, if_neg c2, if_neg c3, if_neg c4, if_neg c5, if_pos c6]; try rfl), ht⟩, hS.F ht⟩) hS.2.2 dEx_become_95
  by_cases c7 : a0 = (160 : Int32)
  · skip
    refine lv_lookup (tgt := 96) (off := 95) hx hb dEx_become_1 (by decide) (by rw [c7]; rfl) (by decide) ?_
    refine lv_lload_n hx hb dEx_become_96 rfl (lv_at hl 1 rfl) ?_
    refine lv_lload_n hx hb dEx_become_97 rfl (lv_at hl 2 rfl) ?_
    refine lv_lxor hx hb dEx_become_98 ?_
    exact W.lret (v := (a1 ^^^ a2)) hx hb hr (fun t ht hW => ⟨⟨(a1 ^^^ a2), (), rfl, (by unfold f_Ex_become; rw [if_neg c1, if_neg c2, if_neg c3, if_neg c4, if_neg c5, if_neg c6, if_pos c7]; try rfl), ht⟩, hS.F ht⟩) hS.2.2 dEx_become_99
  by_cases c8 : a0 = (161 : Int32)
  · skip
    refine lv_lookup (tgt := 96) (off := 95) hx hb dEx_become_1 (by decide) (by rw [c8]; rfl) (by decide) ?_
    refine lv_lload_n hx hb dEx_become_96 rfl (lv_at hl 1 rfl) ?_
    refine lv_lload_n hx hb dEx_become_97 rfl (lv_at hl 2 rfl) ?_
    refine lv_lxor hx hb dEx_become_98 ?_
    exact W.lret (v := (a1 ^^^ a2)) hx hb hr (fun t ht hW => ⟨⟨(a1 ^^^ a2), (), rfl, (by unfold f_Ex_become; rw [if_neg c1, if_neg c2, if_neg c3, if_neg c4, if_neg c5, if_neg c6, if_neg c7, if_pos c8]; try rfl), ht⟩, hS.F ht⟩) hS.2.2 dEx_become_99
  by_cases c9 : a0 = (225 : Int32)
  · skip
    refine lv_lookup (tgt := 100) (off := 99) hx hb dEx_become_1 (by decide) (by rw [c9]; rfl) (by decide) ?_
    refine lv_lload_n hx hb dEx_become_100 rfl (lv_at hl 2 rfl) ?_
    exact W.lret (v := a2) hx hb hr (fun t ht hW => ⟨⟨a2, (), rfl, (by unfold f_Ex_become; rw [if_neg c1, if_neg c2, if_neg c3, if_neg c4, if_neg c5, if_neg c6, if_neg c7, if_neg c8, if_pos c9]; try rfl), ht⟩, hS.F ht⟩) hS.2.2 dEx_become_101
  refine lv_lookup (tgt := 102) (off := 101) hx hb dEx_become_1 (by decide) (by rw [lv_osw c1 (by decide), lv_osw c2 (by decide), lv_osw c3 (by decide), lv_osw c4 (by decide), lv_osw c5 (by decide), lv_osw c6 (by decide), lv_osw c7 (by decide), lv_osw c8 (by decide), lv_osw c9 (by decide)]; rfl) (by decide) ?_
  refine lv_iload hx hb dEx_become_102 (lv_at hl 3 rfl) ?_
  refine lv_if_eq (tgt := 111) hx hb dEx_become_104 (by decide) (fun c10 => ?_) (fun c10 => ?_)
  · have c10 := bI_z c10
    refine lv_lload_n hx hb dEx_become_111 rfl (lv_at hl 1 rfl) ?_
    exact W.lret (v := a1) hx hb hr (fun t ht hW => ⟨⟨a1, (), rfl, (by unfold f_Ex_become; rw [if_neg c1, if_neg c2, if_neg c3, if_neg c4, if_neg c5, if_neg c6, if_neg c7, if_neg c8, if_neg c9, if_neg c10]; try rfl), ht⟩, hS.F ht⟩) hS.2.2 dEx_become_112
  · have c10 := bI_n c10
    refine lv_lload_n hx hb dEx_become_107 rfl (lv_at hl 2 rfl) ?_
    refine lv_goto (tgt := 112) hx hb dEx_become_108 (by decide) ?_
    exact W.lret (v := a2) hx hb hr (fun t ht hW => ⟨⟨a2, (), rfl, (by unfold f_Ex_become; rw [if_neg c1, if_neg c2, if_neg c3, if_neg c4, if_neg c5, if_neg c6, if_neg c7, if_neg c8, if_neg c9, if_pos c10]; try rfl), ht⟩, hS.F ht⟩) hS.2.2 dEx_become_112
