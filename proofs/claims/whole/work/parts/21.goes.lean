def f_Fo_isStart (pf : Nat → Int64) (cnt : Int32) (a1 : Int64) : Bool :=
  if (f_Pr_has cnt a1) = true then
    if (f_Fi_code (f_Pr_at pf cnt ((a1).toInt32))) = 0 then
      false
    else
      true
  else
    false
set_option maxHeartbeats 4000000 in
set_option maxRecDepth 100000 in
theorem c_Fo_isStart (l : Launch) (G : va_G) (cB cL cI : ClassId) (Hp : Heap) (h0 : Nat) (h1 : Nat) (pn : Nat) (pf : Nat → Int64) (cnt : Int32) (a1 : Int64) (hP : va_P G vwCl [(h0, .inr (0, [.ref h1, .int cnt])), (h1, .inl (cL, pn, .inr (.inl pf)))] Hp) (hc : cnt.toInt ≤ pn) : Met l yFo_isStart wsFo_isStart ({ frames := 2, cells := 0, slots := 0, locals := 43 }) (va_Pc [.ref h0, .long a1] (fun U => U.heap = Hp ∧ va_K G vwCl [(cB, .byte), (cL, .long), (cI, .int)] U)) (va_Qi (fun (r : Int32) (_ : Unit) => r = bI (f_Fo_isStart pf cnt a1)) (fun _ t => t.heap = Hp) (fun _ => False)) 0 0 (fun _ => False) := by
  refine Met.ofW (cc := cFo_isStart) (maxL := 3) (ret := (some .boolean)) (by decide) rfl ?_
  intro p e s m args below meth c s₁ B hml hv
  obtain ⟨rfl, rfl, hK⟩ := hv
  have hx := B.exec
  have hb := B.bytes
  have hr := B.returns
  have hT : ∀ w ∈ tB, w.before _ s = true := fun w h => atoms_spec (ws := wsFo_isStart) B.pre w (List.mem_cons_of_mem _ h)
  have hown : s.vm.findClass "CompiledProgram$Form" = some m.cls := findClass_of_methodNamed B.named
  have hlocks := B.notSynchronized
  have hA : ∀ q : Nat, (fun _ : Nat => False) q → False := fun _ h => h
  have hS : va_S (fun _ => False) s.heap s.heap [] := va_S.rf
  have hl := lv_entry ([.ref h0, .long a1]) (n := 3) (Nat.le_of_ble_eq_true rfl)
  rw [lg_entry_eq]
  generalize (lg_sl ([.ref h0, .long a1]) ++ List.replicate (3 - (lg_sl ([.ref h0, .long a1])).length) Slot.unset).toArray = ls at hl ⊢
  have hl : lv_has ls 3 [(0, .ref h0), (1, .long a1)] := hl
  refine lv_aload_n hx hb dFo_isStart_0 rfl (lv_at hl 0 rfl) ?_
  refine lv_lload_n hx hb dFo_isStart_1 rfl (lv_at hl 1 rfl) ?_
  have hPc := hP.sub (ws' := [(h0, .inr (0, [.ref h1, .int cnt])), (h1, .inl (cL, pn, .inr (.inl pf)))]) [0, 1] rfl
  refine va_calli (va_runV (As := [.long a1]) (rest := []) ⟨hx, hb, hml, hown, hT⟩ (c_Pr_has l G cB cL cI s.heap h0 h1 pn pf cnt a1 hPc ) (cwV 1 hT (gB_V mw_210 mw_125 mw_126 mw_3 mw_127) rfl rfl rfl (by decide +kernel) ⟨Nat.le_of_ble_eq_true rfl, Nat.le_of_ble_eq_true rfl⟩) ⟨fun a U g mk q => ⟨q.1, q.2.1, va_K.moved (u := U) (U := U.calling g mk a) (Vm.Alike.refl U.vm) q.2.2⟩, va_recv hK hPc (ci := 0) (q0 := 0) rfl rfl, fun U hU hW => ⟨rfl, hU, va_K.moved hW.alike hK⟩⟩ rfl rfl hl.1 rfl (lv_room (Nat.le_of_ble_eq_true rfl)) dFo_isStart_2 ⟨Nat.zero_le _, Nat.zero_le _⟩) hS (fun _ _ h => h.elim) (fun _ h => h.elim) (fun r u t H1 locs ht hvm hw hB hz8 hk8 hS => ?_)
  obtain rfl : s.heap = H1 := hB.symm.trans ht
  subst hw
  refine lv_if_eq (tgt := 24) hx hb dFo_isStart_5 (by decide) (fun c1 => ?_) (fun c1 => ?_)
  · have c1 := bI_z c1
    refine lv_iconst (v := (0 : Int32)) hx hb dFo_isStart_24 (by decide) ?_
    exact W.zret (v := (0 : Int32)) hx hb hr rfl (fun t ht hW => ⟨⟨(0 : Int32), (), rfl, (by unfold f_Fo_isStart; rw [if_neg c1]; try rfl), ht⟩, hS.F ht⟩) hS.2.2 dFo_isStart_25
  · have c1 := bI_n c1
    refine lv_aload_n hx hb dFo_isStart_8 rfl (lv_at hl 0 rfl) ?_
    refine lv_lload_n hx hb dFo_isStart_9 rfl (lv_at hl 1 rfl) ?_
    refine lv_l2i hx hb dFo_isStart_10 rfl ?_
    have hPc := hP.sub (ws' := [(h0, .inr (0, [.ref h1, .int cnt])), (h1, .inl (cL, pn, .inr (.inl pf)))]) [0, 1] rfl
    refine va_calll (va_runV (As := [.int ((a1).toInt32)]) (rest := []) ⟨hx, hb, hml, hown, hT⟩ (c_Pr_at l G cB cL cI s.heap h0 h1 pn pf cnt ((a1).toInt32) hPc hc) (cwV 1 hT (gB_V mw_120 mw_121 mw_122 mw_3 mw_123) rfl rfl rfl (by decide +kernel) ⟨Nat.le_of_ble_eq_true rfl, Nat.le_of_ble_eq_true rfl⟩) ⟨fun a U g mk q => ⟨q.1, q.2.1, va_K.moved (u := U) (U := U.calling g mk a) (Vm.Alike.refl U.vm) q.2.2⟩, va_recv hK hPc (ci := 0) (q0 := 0) rfl rfl, fun U hU hW => ⟨rfl, hU, va_K.moved hW.alike hK⟩⟩ rfl rfl hl.1 rfl (lv_room (Nat.le_of_ble_eq_true rfl)) dFo_isStart_11 ⟨Nat.zero_le _, Nat.zero_le _⟩) hS (fun _ _ h => h.elim) (fun _ h => h.elim) (fun r u t H1 locs ht hvm hw hB hz8 hk8 hS => ?_)
    obtain rfl : s.heap = H1 := hB.symm.trans ht
    subst hw
    refine va_calli (va_runS (As := [.long (f_Pr_at pf cnt ((a1).toInt32))]) (rest := []) ⟨hx, hb, hml, hown, hT⟩ (c_Fi_code l s.heap (f_Pr_at pf cnt ((a1).toInt32))) (va_cwS 1 hT (gB_SV mw_199 mw_144 mw_16 mw_145) rfl rfl rfl (by decide +kernel) ⟨Nat.le_of_ble_eq_true rfl, Nat.le_of_ble_eq_true rfl⟩) ⟨fun _ _ _ _ q => q, fun U hU hW => ⟨rfl, hU⟩⟩ rfl rfl hl.1 rfl (lv_room (Nat.le_of_ble_eq_true rfl)) dFo_isStart_14 ⟨Nat.zero_le _, Nat.zero_le _⟩) hS (fun _ _ h => h.elim) (fun _ h => h.elim) (fun r u t H1 locs ht hvm hw hB hz8 hk8 hS => ?_)
    obtain rfl : s.heap = H1 := hB.symm.trans ht
    subst hw
    refine lv_if_eq (tgt := 24) hx hb dFo_isStart_17 (by decide) (fun c2 => ?_) (fun c2 => ?_)
    · skip
      refine lv_iconst (v := (0 : Int32)) hx hb dFo_isStart_24 (by decide) ?_
      exact W.zret (v := (0 : Int32)) hx hb hr rfl (fun t ht hW => ⟨⟨(0 : Int32), (), rfl, (by unfold f_Fo_isStart; rw [if_pos c1, if_pos c2]; try rfl), ht⟩, hS.F ht⟩) hS.2.2 dFo_isStart_25
    · skip
      refine lv_iconst (v := (1 : Int32)) hx hb dFo_isStart_20 (by decide) ?_
      refine lv_goto (tgt := 25) hx hb dFo_isStart_21 (by decide) ?_
      exact W.zret (v := (1 : Int32)) hx hb hr rfl (fun t ht hW => ⟨⟨(1 : Int32), (), rfl, (by unfold f_Fo_isStart; rw [if_pos c1, if_neg c2]; try rfl), ht⟩, hS.F ht⟩) hS.2.2 dFo_isStart_25

def f_Fo_goesOnRightly (pf : Nat → Int64) (cnt : Int32) (a1 : Int32) (a2 : Int64) : Bool :=
  if (f_Fi_isExit a2) = true then
    true
  else
    if (f_Fi_jumpsAlways a2) = true then
      (f_Fo_isStart pf cnt (f_Fi_jumpFrom a1 a2))
    else
      if (f_Fi_jumpsPerhaps a2) = true then
        if (f_Fo_isStart pf cnt (f_Fi_jumpFrom a1 a2)) = true then
          if (f_Fi_isTwoPlaces a2) = true then
            (f_Fo_isStart pf cnt ((a1 + (2 : Int32)).toInt64))
          else
            (f_Fo_isStart pf cnt ((a1 + (1 : Int32)).toInt64))
        else
          false
      else
        if (f_Fi_isTwoPlaces a2) = true then
          (f_Fo_isStart pf cnt ((a1 + (2 : Int32)).toInt64))
        else
          (f_Fo_isStart pf cnt ((a1 + (1 : Int32)).toInt64))
set_option maxHeartbeats 4000000 in
set_option maxRecDepth 100000 in
theorem c_Fo_goesOnRightly (l : Launch) (G : va_G) (cB cL cI : ClassId) (Hp : Heap) (h0 : Nat) (h1 : Nat) (pn : Nat) (pf : Nat → Int64) (cnt : Int32) (a1 : Int32) (a2 : Int64) (hP : va_P G vwCl [(h0, .inr (0, [.ref h1, .int cnt])), (h1, .inl (cL, pn, .inr (.inl pf)))] Hp) (hc : cnt.toInt ≤ pn) : Met l yFo_goesOnRightly wsFo_goesOnRightly ({ frames := 3, cells := 0, slots := 0, locals := 65 }) (va_Pc [.ref h0, .int a1, .long a2] (fun U => U.heap = Hp ∧ va_K G vwCl [(cB, .byte), (cL, .long), (cI, .int)] U)) (va_Qi (fun (r : Int32) (_ : Unit) => r = bI (f_Fo_goesOnRightly pf cnt a1 a2)) (fun _ t => t.heap = Hp) (fun _ => False)) 0 0 (fun _ => False) := by
  refine Met.ofW (cc := cFo_goesOnRightly) (maxL := 4) (ret := (some .boolean)) (by decide) rfl ?_
  intro p e s m args below meth c s₁ B hml hv
  obtain ⟨rfl, rfl, hK⟩ := hv
  have hx := B.exec
  have hb := B.bytes
  have hr := B.returns
  have hT : ∀ w ∈ tB, w.before _ s = true := fun w h => atoms_spec (ws := wsFo_goesOnRightly) B.pre w (List.mem_cons_of_mem _ h)
  have hown : s.vm.findClass "CompiledProgram$Form" = some m.cls := findClass_of_methodNamed B.named
  have hlocks := B.notSynchronized
  have hA : ∀ q : Nat, (fun _ : Nat => False) q → False := fun _ h => h
  have hS : va_S (fun _ => False) s.heap s.heap [] := va_S.rf
  have hl := lv_entry ([.ref h0, .int a1, .long a2]) (n := 4) (Nat.le_of_ble_eq_true rfl)
  rw [lg_entry_eq]
  generalize (lg_sl ([.ref h0, .int a1, .long a2]) ++ List.replicate (4 - (lg_sl ([.ref h0, .int a1, .long a2])).length) Slot.unset).toArray = ls at hl ⊢
  have hl : lv_has ls 4 [(0, .ref h0), (1, .int a1), (2, .long a2)] := hl
  refine lv_lload_n hx hb dFo_goesOnRightly_0 rfl (lv_at hl 2 rfl) ?_
  refine va_calli (va_runS (As := [.long a2]) (rest := []) ⟨hx, hb, hml, hown, hT⟩ (c_Fi_isExit l s.heap a2) (va_cwS 1 hT (gB_SV mw_220 mw_221 mw_16 mw_222) rfl rfl rfl (by decide +kernel) ⟨Nat.le_of_ble_eq_true rfl, Nat.le_of_ble_eq_true rfl⟩) ⟨fun _ _ _ _ q => q, fun U hU hW => ⟨rfl, hU⟩⟩ rfl rfl hl.1 rfl (lv_room (Nat.le_of_ble_eq_true rfl)) dFo_goesOnRightly_1 ⟨Nat.zero_le _, Nat.zero_le _⟩) hS (fun _ _ h => h.elim) (fun _ h => h.elim) (fun r u t H1 locs ht hvm hw hB hz8 hk8 hS => ?_)
  obtain rfl : s.heap = H1 := hB.symm.trans ht
  subst hw
  refine lv_if_eq (tgt := 9) hx hb dFo_goesOnRightly_4 (by decide) (fun c1 => ?_) (fun c1 => ?_)
  · have c1 := bI_z c1
    refine lv_lload_n hx hb dFo_goesOnRightly_9 rfl (lv_at hl 2 rfl) ?_
    refine va_calli (va_runS (As := [.long a2]) (rest := []) ⟨hx, hb, hml, hown, hT⟩ (c_Fi_jumpsAlways l s.heap a2) (va_cwS 1 hT (gB_SV mw_223 mw_224 mw_16 mw_225) rfl rfl rfl (by decide +kernel) ⟨Nat.le_of_ble_eq_true rfl, Nat.le_of_ble_eq_true rfl⟩) ⟨fun _ _ _ _ q => q, fun U hU hW => ⟨rfl, hU⟩⟩ rfl rfl hl.1 rfl (lv_room (Nat.le_of_ble_eq_true rfl)) dFo_goesOnRightly_10 ⟨Nat.zero_le _, Nat.zero_le _⟩) hS (fun _ _ h => h.elim) (fun _ h => h.elim) (fun r u t H1 locs ht hvm hw hB hz8 hk8 hS => ?_)
    obtain rfl : s.heap = H1 := hB.symm.trans ht
    subst hw
    refine lv_if_eq (tgt := 26) hx hb dFo_goesOnRightly_13 (by decide) (fun c2 => ?_) (fun c2 => ?_)
    · have c2 := bI_z c2
      refine lv_lload_n hx hb dFo_goesOnRightly_26 rfl (lv_at hl 2 rfl) ?_
      refine va_calli (va_runS (As := [.long a2]) (rest := []) ⟨hx, hb, hml, hown, hT⟩ (c_Fi_jumpsPerhaps l s.heap a2) (va_cwS 1 hT (gB_SV mw_179 mw_180 mw_16 mw_181) rfl rfl rfl (by decide +kernel) ⟨Nat.le_of_ble_eq_true rfl, Nat.le_of_ble_eq_true rfl⟩) ⟨fun _ _ _ _ q => q, fun U hU hW => ⟨rfl, hU⟩⟩ rfl rfl hl.1 rfl (lv_room (Nat.le_of_ble_eq_true rfl)) dFo_goesOnRightly_27 ⟨Nat.zero_le _, Nat.zero_le _⟩) hS (fun _ _ h => h.elim) (fun _ h => h.elim) (fun r u t H1 locs ht hvm hw hB hz8 hk8 hS => ?_)
      obtain rfl : s.heap = H1 := hB.symm.trans ht
      subst hw
      refine lv_if_eq (tgt := 47) hx hb dFo_goesOnRightly_30 (by decide) (fun c3 => ?_) (fun c3 => ?_)
      · have c3 := bI_z c3
        refine lv_aload_n hx hb dFo_goesOnRightly_47 rfl (lv_at hl 0 rfl) ?_
        refine lv_iload_n hx hb dFo_goesOnRightly_48 rfl (lv_at hl 1 rfl) ?_
        refine lv_lload_n hx hb dFo_goesOnRightly_49 rfl (lv_at hl 2 rfl) ?_
        refine va_calli (va_runS (As := [.long a2]) (rest := [.int a1, .ref h0]) ⟨hx, hb, hml, hown, hT⟩ (c_Fi_isTwoPlaces l s.heap a2) (va_cwS 1 hT (gB_SV mw_140 mw_141 mw_16 mw_142) rfl rfl rfl (by decide +kernel) ⟨Nat.le_of_ble_eq_true rfl, Nat.le_of_ble_eq_true rfl⟩) ⟨fun _ _ _ _ q => q, fun U hU hW => ⟨rfl, hU⟩⟩ rfl rfl hl.1 rfl (lv_room (Nat.le_of_ble_eq_true rfl)) dFo_goesOnRightly_50 ⟨Nat.zero_le _, Nat.zero_le _⟩) hS (fun _ _ h => h.elim) (fun _ h => h.elim) (fun r u t H1 locs ht hvm hw hB hz8 hk8 hS => ?_)
        obtain rfl : s.heap = H1 := hB.symm.trans ht
        subst hw
        refine lv_if_eq (tgt := 60) hx hb dFo_goesOnRightly_53 (by decide) (fun c4 => ?_) (fun c4 => ?_)
        · have c4 := bI_z c4
          refine lv_iconst (v := (1 : Int32)) hx hb dFo_goesOnRightly_60 (by decide) ?_
          refine lv_iadd hx hb dFo_goesOnRightly_61 ?_
          refine lv_i2l hx hb dFo_goesOnRightly_62 rfl ?_
          have hPc := hP.sub (ws' := [(h0, .inr (0, [.ref h1, .int cnt])), (h1, .inl (cL, pn, .inr (.inl pf)))]) [0, 1] rfl
          refine va_calli (va_runS (As := [.ref h0, .long ((a1 + (1 : Int32)).toInt64)]) (rest := []) ⟨hx, hb, hml, hown, hT⟩ (c_Fo_isStart l G cB cL cI s.heap h0 h1 pn pf cnt ((a1 + (1 : Int32)).toInt64) hPc hc) (cwS 2 hT (gB_S mw_231 mw_232 mw_15 mw_233) rfl rfl rfl (by decide +kernel) ⟨Nat.le_of_ble_eq_true rfl, Nat.le_of_ble_eq_true rfl⟩) ⟨fun a U g mk q => ⟨q.1, q.2.1, va_K.moved (u := U) (U := U.calling g mk a) (Vm.Alike.refl U.vm) q.2.2⟩, fun U hU hW => ⟨rfl, hU, va_K.moved hW.alike hK⟩⟩ rfl rfl hl.1 rfl (lv_room (Nat.le_of_ble_eq_true rfl)) dFo_goesOnRightly_63 ⟨Nat.zero_le _, Nat.zero_le _⟩) hS (fun _ _ h => h.elim) (fun _ h => h.elim) (fun r u t H1 locs ht hvm hw hB hz8 hk8 hS => ?_)
          obtain rfl : s.heap = H1 := hB.symm.trans ht
          subst hw
          exact W.zret (v := (bI (f_Fo_isStart pf cnt ((a1 + (1 : Int32)).toInt64)))) hx hb hr (bI_nar _) (fun t ht hW => ⟨⟨(bI (f_Fo_isStart pf cnt ((a1 + (1 : Int32)).toInt64))), (), rfl, (by unfold f_Fo_goesOnRightly; rw [if_neg c1, if_neg c2, if_neg c3, if_neg c4]; try rfl), ht⟩, hS.F ht⟩) hS.2.2 dFo_goesOnRightly_66
        · have c4 := bI_n c4
          refine lv_iconst (v := (2 : Int32)) hx hb dFo_goesOnRightly_56 (by decide) ?_
          refine lv_goto (tgt := 61) hx hb dFo_goesOnRightly_57 (by decide) ?_
          refine lv_iadd hx hb dFo_goesOnRightly_61 ?_
          refine lv_i2l hx hb dFo_goesOnRightly_62 rfl ?_
          have hPc := hP.sub (ws' := [(h0, .inr (0, [.ref h1, .int cnt])), (h1, .inl (cL, pn, .inr (.inl pf)))]) [0, 1] rfl
          refine va_calli (va_runS (As := [.ref h0, .long ((a1 + (2 : Int32)).toInt64)]) (rest := []) ⟨hx, hb, hml, hown, hT⟩ (c_Fo_isStart l G cB cL cI s.heap h0 h1 pn pf cnt ((a1 + (2 : Int32)).toInt64) hPc hc) (cwS 2 hT (gB_S mw_231 mw_232 mw_15 mw_233) rfl rfl rfl (by decide +kernel) ⟨Nat.le_of_ble_eq_true rfl, Nat.le_of_ble_eq_true rfl⟩) ⟨fun a U g mk q => ⟨q.1, q.2.1, va_K.moved (u := U) (U := U.calling g mk a) (Vm.Alike.refl U.vm) q.2.2⟩, fun U hU hW => ⟨rfl, hU, va_K.moved hW.alike hK⟩⟩ rfl rfl hl.1 rfl (lv_room (Nat.le_of_ble_eq_true rfl)) dFo_goesOnRightly_63 ⟨Nat.zero_le _, Nat.zero_le _⟩) hS (fun _ _ h => h.elim) (fun _ h => h.elim) (fun r u t H1 locs ht hvm hw hB hz8 hk8 hS => ?_)
          obtain rfl : s.heap = H1 := hB.symm.trans ht
          subst hw
          exact W.zret (v := (bI (f_Fo_isStart pf cnt ((a1 + (2 : Int32)).toInt64)))) hx hb hr (bI_nar _) (fun t ht hW => ⟨⟨(bI (f_Fo_isStart pf cnt ((a1 + (2 : Int32)).toInt64))), (), rfl, (by unfold f_Fo_goesOnRightly; rw [if_neg c1, if_neg c2, if_neg c3, if_pos c4]; try rfl), ht⟩, hS.F ht⟩) hS.2.2 dFo_goesOnRightly_66
      · have c3 := bI_n c3
        refine lv_aload_n hx hb dFo_goesOnRightly_33 rfl (lv_at hl 0 rfl) ?_
        refine lv_iload_n hx hb dFo_goesOnRightly_34 rfl (lv_at hl 1 rfl) ?_
        refine lv_lload_n hx hb dFo_goesOnRightly_35 rfl (lv_at hl 2 rfl) ?_
        refine va_calll (va_runS (As := [.int a1, .long a2]) (rest := [.ref h0]) ⟨hx, hb, hml, hown, hT⟩ (c_Fi_jumpFrom l s.heap a1 a2) (va_cwS 2 hT (gB_SV mw_226 mw_227 mw_16 mw_228) rfl rfl rfl (by decide +kernel) ⟨Nat.le_of_ble_eq_true rfl, Nat.le_of_ble_eq_true rfl⟩) ⟨fun _ _ _ _ q => q, fun U hU hW => ⟨rfl, hU⟩⟩ rfl rfl hl.1 rfl (lv_room (Nat.le_of_ble_eq_true rfl)) dFo_goesOnRightly_36 ⟨Nat.zero_le _, Nat.zero_le _⟩) hS (fun _ _ h => h.elim) (fun _ h => h.elim) (fun r u t H1 locs ht hvm hw hB hz8 hk8 hS => ?_)
        obtain rfl : s.heap = H1 := hB.symm.trans ht
        subst hw
        have hPc := hP.sub (ws' := [(h0, .inr (0, [.ref h1, .int cnt])), (h1, .inl (cL, pn, .inr (.inl pf)))]) [0, 1] rfl
        refine va_calli (va_runS (As := [.ref h0, .long (f_Fi_jumpFrom a1 a2)]) (rest := []) ⟨hx, hb, hml, hown, hT⟩ (c_Fo_isStart l G cB cL cI s.heap h0 h1 pn pf cnt (f_Fi_jumpFrom a1 a2) hPc hc) (cwS 2 hT (gB_S mw_231 mw_232 mw_15 mw_233) rfl rfl rfl (by decide +kernel) ⟨Nat.le_of_ble_eq_true rfl, Nat.le_of_ble_eq_true rfl⟩) ⟨fun a U g mk q => ⟨q.1, q.2.1, va_K.moved (u := U) (U := U.calling g mk a) (Vm.Alike.refl U.vm) q.2.2⟩, fun U hU hW => ⟨rfl, hU, va_K.moved hW.alike hK⟩⟩ rfl rfl hl.1 rfl (lv_room (Nat.le_of_ble_eq_true rfl)) dFo_goesOnRightly_39 ⟨Nat.zero_le _, Nat.zero_le _⟩) hS (fun _ _ h => h.elim) (fun _ h => h.elim) (fun r u t H1 locs ht hvm hw hB hz8 hk8 hS => ?_)
        obtain rfl : s.heap = H1 := hB.symm.trans ht
        subst hw
        refine lv_if_ne (tgt := 47) hx hb dFo_goesOnRightly_42 (by decide) (fun c5 => ?_) (fun c5 => ?_)
        · have c5 := bI_n c5
          refine lv_aload_n hx hb dFo_goesOnRightly_47 rfl (lv_at hl 0 rfl) ?_
          refine lv_iload_n hx hb dFo_goesOnRightly_48 rfl (lv_at hl 1 rfl) ?_
          refine lv_lload_n hx hb dFo_goesOnRightly_49 rfl (lv_at hl 2 rfl) ?_
          refine va_calli (va_runS (As := [.long a2]) (rest := [.int a1, .ref h0]) ⟨hx, hb, hml, hown, hT⟩ (c_Fi_isTwoPlaces l s.heap a2) (va_cwS 1 hT (gB_SV mw_140 mw_141 mw_16 mw_142) rfl rfl rfl (by decide +kernel) ⟨Nat.le_of_ble_eq_true rfl, Nat.le_of_ble_eq_true rfl⟩) ⟨fun _ _ _ _ q => q, fun U hU hW => ⟨rfl, hU⟩⟩ rfl rfl hl.1 rfl (lv_room (Nat.le_of_ble_eq_true rfl)) dFo_goesOnRightly_50 ⟨Nat.zero_le _, Nat.zero_le _⟩) hS (fun _ _ h => h.elim) (fun _ h => h.elim) (fun r u t H1 locs ht hvm hw hB hz8 hk8 hS => ?_)
          obtain rfl : s.heap = H1 := hB.symm.trans ht
          subst hw
          refine lv_if_eq (tgt := 60) hx hb dFo_goesOnRightly_53 (by decide) (fun c6 => ?_) (fun c6 => ?_)
          · have c6 := bI_z c6
            refine lv_iconst (v := (1 : Int32)) hx hb dFo_goesOnRightly_60 (by decide) ?_
            refine lv_iadd hx hb dFo_goesOnRightly_61 ?_
            refine lv_i2l hx hb dFo_goesOnRightly_62 rfl ?_
            have hPc := hP.sub (ws' := [(h0, .inr (0, [.ref h1, .int cnt])), (h1, .inl (cL, pn, .inr (.inl pf)))]) [0, 1] rfl
            refine va_calli (va_runS (As := [.ref h0, .long ((a1 + (1 : Int32)).toInt64)]) (rest := []) ⟨hx, hb, hml, hown, hT⟩ (c_Fo_isStart l G cB cL cI s.heap h0 h1 pn pf cnt ((a1 + (1 : Int32)).toInt64) hPc hc) (cwS 2 hT (gB_S mw_231 mw_232 mw_15 mw_233) rfl rfl rfl (by decide +kernel) ⟨Nat.le_of_ble_eq_true rfl, Nat.le_of_ble_eq_true rfl⟩) ⟨fun a U g mk q => ⟨q.1, q.2.1, va_K.moved (u := U) (U := U.calling g mk a) (Vm.Alike.refl U.vm) q.2.2⟩, fun U hU hW => ⟨rfl, hU, va_K.moved hW.alike hK⟩⟩ rfl rfl hl.1 rfl (lv_room (Nat.le_of_ble_eq_true rfl)) dFo_goesOnRightly_63 ⟨Nat.zero_le _, Nat.zero_le _⟩) hS (fun _ _ h => h.elim) (fun _ h => h.elim) (fun r u t H1 locs ht hvm hw hB hz8 hk8 hS => ?_)
            obtain rfl : s.heap = H1 := hB.symm.trans ht
            subst hw
            exact W.zret (v := (bI (f_Fo_isStart pf cnt ((a1 + (1 : Int32)).toInt64)))) hx hb hr (bI_nar _) (fun t ht hW => ⟨⟨(bI (f_Fo_isStart pf cnt ((a1 + (1 : Int32)).toInt64))), (), rfl, (by unfold f_Fo_goesOnRightly; rw [if_neg c1, if_neg c2, if_pos c3, if_pos c5, if_neg c6]; try rfl), ht⟩, hS.F ht⟩) hS.2.2 dFo_goesOnRightly_66
          · have c6 := bI_n c6
            refine lv_iconst (v := (2 : Int32)) hx hb dFo_goesOnRightly_56 (by decide) ?_
            refine lv_goto (tgt := 61) hx hb dFo_goesOnRightly_57 (by decide) ?_
            refine lv_iadd hx hb dFo_goesOnRightly_61 ?_
            refine lv_i2l hx hb dFo_goesOnRightly_62 rfl ?_
            have hPc := hP.sub (ws' := [(h0, .inr (0, [.ref h1, .int cnt])), (h1, .inl (cL, pn, .inr (.inl pf)))]) [0, 1] rfl
            refine va_calli (va_runS (As := [.ref h0, .long ((a1 + (2 : Int32)).toInt64)]) (rest := []) ⟨hx, hb, hml, hown, hT⟩ (c_Fo_isStart l G cB cL cI s.heap h0 h1 pn pf cnt ((a1 + (2 : Int32)).toInt64) hPc hc) (cwS 2 hT (gB_S mw_231 mw_232 mw_15 mw_233) rfl rfl rfl (by decide +kernel) ⟨Nat.le_of_ble_eq_true rfl, Nat.le_of_ble_eq_true rfl⟩) ⟨fun a U g mk q => ⟨q.1, q.2.1, va_K.moved (u := U) (U := U.calling g mk a) (Vm.Alike.refl U.vm) q.2.2⟩, fun U hU hW => ⟨rfl, hU, va_K.moved hW.alike hK⟩⟩ rfl rfl hl.1 rfl (lv_room (Nat.le_of_ble_eq_true rfl)) dFo_goesOnRightly_63 ⟨Nat.zero_le _, Nat.zero_le _⟩) hS (fun _ _ h => h.elim) (fun _ h => h.elim) (fun r u t H1 locs ht hvm hw hB hz8 hk8 hS => ?_)
            obtain rfl : s.heap = H1 := hB.symm.trans ht
            subst hw
            exact W.zret (v := (bI (f_Fo_isStart pf cnt ((a1 + (2 : Int32)).toInt64)))) hx hb hr (bI_nar _) (fun t ht hW => ⟨⟨(bI (f_Fo_isStart pf cnt ((a1 + (2 : Int32)).toInt64))), (), rfl, (by unfold f_Fo_goesOnRightly; rw [if_neg c1, if_neg c2, if_pos c3, if_pos c5, if_pos c6]; try rfl), ht⟩, hS.F ht⟩) hS.2.2 dFo_goesOnRightly_66
        · have c5 := bI_z c5
          refine lv_iconst (v := (0 : Int32)) hx hb dFo_goesOnRightly_45 (by decide) ?_
          exact W.zret (v := (0 : Int32)) hx hb hr rfl (fun t ht hW => ⟨⟨(0 : Int32), (), rfl, (by unfold f_Fo_goesOnRightly; rw [if_neg c1, if_neg c2, if_pos c3, if_neg c5]; try rfl), ht⟩, hS.F ht⟩) hS.2.2 dFo_goesOnRightly_46
    · have c2 := bI_n c2
      refine lv_aload_n hx hb dFo_goesOnRightly_16 rfl (lv_at hl 0 rfl) ?_
      refine lv_iload_n hx hb dFo_goesOnRightly_17 rfl (lv_at hl 1 rfl) ?_
      refine lv_lload_n hx hb dFo_goesOnRightly_18 rfl (lv_at hl 2 rfl) ?_
      refine va_calll (va_runS (As := [.int a1, .long a2]) (rest := [.ref h0]) ⟨hx, hb, hml, hown, hT⟩ (c_Fi_jumpFrom l s.heap a1 a2) (va_cwS 2 hT (gB_SV mw_226 mw_227 mw_16 mw_228) rfl rfl rfl (by decide +kernel) ⟨Nat.le_of_ble_eq_true rfl, Nat.le_of_ble_eq_true rfl⟩) ⟨fun _ _ _ _ q => q, fun U hU hW => ⟨rfl, hU⟩⟩ rfl rfl hl.1 rfl (lv_room (Nat.le_of_ble_eq_true rfl)) dFo_goesOnRightly_19 ⟨Nat.zero_le _, Nat.zero_le _⟩) hS (fun _ _ h => h.elim) (fun _ h => h.elim) (fun r u t H1 locs ht hvm hw hB hz8 hk8 hS => ?_)
      obtain rfl : s.heap = H1 := hB.symm.trans ht
      subst hw
      have hPc := hP.sub (ws' := [(h0, .inr (0, [.ref h1, .int cnt])), (h1, .inl (cL, pn, .inr (.inl pf)))]) [0, 1] rfl
      refine va_calli (va_runS (As := [.ref h0, .long (f_Fi_jumpFrom a1 a2)]) (rest := []) ⟨hx, hb, hml, hown, hT⟩ (c_Fo_isStart l G cB cL cI s.heap h0 h1 pn pf cnt (f_Fi_jumpFrom a1 a2) hPc hc) (cwS 2 hT (gB_S mw_231 mw_232 mw_15 mw_233) rfl rfl rfl (by decide +kernel) ⟨Nat.le_of_ble_eq_true rfl, Nat.le_of_ble_eq_true rfl⟩) ⟨fun a U g mk q => ⟨q.1, q.2.1, va_K.moved (u := U) (U := U.calling g mk a) (Vm.Alike.refl U.vm) q.2.2⟩, fun U hU hW => ⟨rfl, hU, va_K.moved hW.alike hK⟩⟩ rfl rfl hl.1 rfl (lv_room (Nat.le_of_ble_eq_true rfl)) dFo_goesOnRightly_22 ⟨Nat.zero_le _, Nat.zero_le _⟩) hS (fun _ _ h => h.elim) (fun _ h => h.elim) (fun r u t H1 locs ht hvm hw hB hz8 hk8 hS => ?_)
      obtain rfl : s.heap = H1 := hB.symm.trans ht
      subst hw
      exact W.zret (v := (bI (f_Fo_isStart pf cnt (f_Fi_jumpFrom a1 a2)))) hx hb hr (bI_nar _) (fun t ht hW => ⟨⟨(bI (f_Fo_isStart pf cnt (f_Fi_jumpFrom a1 a2))), (), rfl, (by unfold f_Fo_goesOnRightly; rw [if_neg c1, if_pos c2]; try rfl), ht⟩, hS.F ht⟩) hS.2.2 dFo_goesOnRightly_25
  · have c1 := bI_n c1
    refine lv_iconst (v := (1 : Int32)) hx hb dFo_goesOnRightly_7 (by decide) ?_
    exact W.zret (v := (1 : Int32)) hx hb hr rfl (fun t ht hW => ⟨⟨(1 : Int32), (), rfl, (by unfold f_Fo_goesOnRightly; rw [if_pos c1]; try rfl), ht⟩, hS.F ht⟩) hS.2.2 dFo_goesOnRightly_8
