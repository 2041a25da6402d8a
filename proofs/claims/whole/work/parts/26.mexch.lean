def f_Ma_exchange (rf : Nat → Int64) (mf : Nat → Int32) (a0 : Int64) : Bool × (Nat → Int64) × (Nat → Int32) :=
  if (f_Me_holds ((f_Ma_x rf a0) + ((f_Fi_offset a0).toInt64)) (f_Fi_size a0)) = true then
    if (((f_Ma_x rf a0) + ((f_Fi_offset a0).toInt64)) &&& (((f_Fi_size a0) - (1 : Int32)).toInt64)) = (0 : Int64) then
      if (f_Me_read mf ((f_Ma_x rf a0) + ((f_Fi_offset a0).toInt64)) (f_Fi_size a0)) = (f_Ar_lowest (rf (0 : Int32).toNatClampNeg) ((8 : Int32) * (f_Fi_size a0))) then
        if (f_Fi_immediate a0) = (241 : Int32) then
          (true, (vp_updL rf (0 : Int32).toNatClampNeg (f_Me_read mf ((f_Ma_x rf a0) + ((f_Fi_offset a0).toInt64)) (f_Fi_size a0))), ((f_Me_write mf ((f_Ma_x rf a0) + ((f_Fi_offset a0).toInt64)) (f_Fi_size a0) (f_Ex_become (f_Fi_immediate a0) (f_Me_read mf ((f_Ma_x rf a0) + ((f_Fi_offset a0).toInt64)) (f_Fi_size a0)) (f_Ma_y rf a0) true))))
        else
          if (f_Ex_changesSource (f_Fi_immediate a0)) = true then
            (true, (vp_updL rf (f_Fi_source a0).toNatClampNeg (f_Me_read mf ((f_Ma_x rf a0) + ((f_Fi_offset a0).toInt64)) (f_Fi_size a0))), ((f_Me_write mf ((f_Ma_x rf a0) + ((f_Fi_offset a0).toInt64)) (f_Fi_size a0) (f_Ex_become (f_Fi_immediate a0) (f_Me_read mf ((f_Ma_x rf a0) + ((f_Fi_offset a0).toInt64)) (f_Fi_size a0)) (f_Ma_y rf a0) true))))
          else
            (true, rf, ((f_Me_write mf ((f_Ma_x rf a0) + ((f_Fi_offset a0).toInt64)) (f_Fi_size a0) (f_Ex_become (f_Fi_immediate a0) (f_Me_read mf ((f_Ma_x rf a0) + ((f_Fi_offset a0).toInt64)) (f_Fi_size a0)) (f_Ma_y rf a0) true))))
      else
        if (f_Fi_immediate a0) = (241 : Int32) then
          (true, (vp_updL rf (0 : Int32).toNatClampNeg (f_Me_read mf ((f_Ma_x rf a0) + ((f_Fi_offset a0).toInt64)) (f_Fi_size a0))), ((f_Me_write mf ((f_Ma_x rf a0) + ((f_Fi_offset a0).toInt64)) (f_Fi_size a0) (f_Ex_become (f_Fi_immediate a0) (f_Me_read mf ((f_Ma_x rf a0) + ((f_Fi_offset a0).toInt64)) (f_Fi_size a0)) (f_Ma_y rf a0) false))))
        else
          if (f_Ex_changesSource (f_Fi_immediate a0)) = true then
            (true, (vp_updL rf (f_Fi_source a0).toNatClampNeg (f_Me_read mf ((f_Ma_x rf a0) + ((f_Fi_offset a0).toInt64)) (f_Fi_size a0))), ((f_Me_write mf ((f_Ma_x rf a0) + ((f_Fi_offset a0).toInt64)) (f_Fi_size a0) (f_Ex_become (f_Fi_immediate a0) (f_Me_read mf ((f_Ma_x rf a0) + ((f_Fi_offset a0).toInt64)) (f_Fi_size a0)) (f_Ma_y rf a0) false))))
          else
            (true, rf, ((f_Me_write mf ((f_Ma_x rf a0) + ((f_Fi_offset a0).toInt64)) (f_Fi_size a0) (f_Ex_become (f_Fi_immediate a0) (f_Me_read mf ((f_Ma_x rf a0) + ((f_Fi_offset a0).toInt64)) (f_Fi_size a0)) (f_Ma_y rf a0) false))))
    else
      (false, rf, mf)
  else
    (false, rf, mf)
set_option maxHeartbeats 4000000 in
set_option maxRecDepth 100000 in
theorem c_Ma_exchange (l : Launch) (G : va_G) (cB cL cI : ClassId) (Hp : Heap) (h4 : Nat) (h5 : Nat) (rf : Nat → Int64) (h2 : Nat) (h3 : Nat) (mf : Nat → Int32) (a0 : Int64) (hP : va_P G vwCl [(h4, .inr (2, [.ref h5, .ref h2])), (h5, .inl (cL, 16, .inr (.inl rf))), (h2, .inr (1, [.ref h3])), (h3, .inl (cB, 4096, .inl mf))] Hp) (hD : va_D (fun _ => True) [(h4, .inr (2, [.ref h5, .ref h2])), (h5, .inl (cL, 16, .inr (.inl rf))), (h2, .inr (1, [.ref h3])), (h3, .inl (cB, 4096, .inl mf))]) : Met l yMa_exchange wsMa_exchange ({ frames := 2, cells := 0, slots := 0, locals := 52 }) (va_Pc [.ref h4, .long a0] (fun U => U.heap = Hp ∧ va_K G vwCl [(cB, .byte), (cL, .long), (cI, .int)] U)) (va_Qi (fun (r : Int32) (u : (Nat → Int64) × (Nat → Int32)) => r = bI ((f_Ma_exchange rf mf a0)).1 ∧ u = ((f_Ma_exchange rf mf a0)).2) (fun (u : (Nat → Int64) × (Nat → Int32)) t => va_P G vwCl [(h4, .inr (2, [.ref h5, .ref h2])), (h5, .inl (cL, 16, .inr (.inl (u.1)))), (h2, .inr (1, [.ref h3])), (h3, .inl (cB, 4096, .inl (u.2)))] t.heap ∧ va_D (va_A [(h4, .inr (2, [.ref h5, .ref h2])), (h5, .inl (cL, 16, .inr (.inl rf))), (h2, .inr (1, [.ref h3])), (h3, .inl (cB, 4096, .inl mf))] Hp.size) [(h4, .inr (2, [.ref h5, .ref h2])), (h5, .inl (cL, 16, .inr (.inl (u.1)))), (h2, .inr (1, [.ref h3])), (h3, .inl (cB, 4096, .inl (u.2)))]) (va_A [(h4, .inr (2, [.ref h5, .ref h2])), (h5, .inl (cL, 16, .inr (.inl rf))), (h2, .inr (1, [.ref h3])), (h3, .inl (cB, 4096, .inl mf))] Hp.size)) 0 0 (va_A [(h4, .inr (2, [.ref h5, .ref h2])), (h5, .inl (cL, 16, .inr (.inl rf))), (h2, .inr (1, [.ref h3])), (h3, .inl (cB, 4096, .inl mf))] Hp.size) := by
  refine Met.ofW (cc := cMa_exchange) (maxL := 10) (ret := (some .boolean)) (by decide) rfl ?_
  intro p e s m args below meth c s₁ B hml hv
  obtain ⟨rfl, rfl, hK⟩ := hv
  have hx := B.exec
  have hb := B.bytes
  have hr := B.returns
  have hT : ∀ w ∈ tB, w.before _ s = true := fun w h => atoms_spec (ws := wsMa_exchange) B.pre w (List.mem_cons_of_mem _ h)
  have hown : s.vm.findClass "CompiledProgram$Machine" = some m.cls := findClass_of_methodNamed B.named
  have hlocks := B.notSynchronized
  have hD := hD.self (sz := s.heap.size)
  generalize hAe : va_A [(h4, .inr (2, [.ref h5, .ref h2])), (h5, .inl (cL, 16, .inr (.inl rf))), (h2, .inr (1, [.ref h3])), (h3, .inl (cB, 4096, .inl mf))] s.heap.size = A at hD ⊢
  have hA : ∀ q : Nat, s.heap.size ≤ q → A q := fun q h => by rw [← hAe]; exact Or.inr h
  have hS : va_S A s.heap s.heap [] := va_S.rf
  have hl := lv_entry ([.ref h4, .long a0]) (n := 10) (Nat.le_of_ble_eq_true rfl)
  rw [lg_entry_eq]
  generalize (lg_sl ([.ref h4, .long a0]) ++ List.replicate (10 - (lg_sl ([.ref h4, .long a0])).length) Slot.unset).toArray = ls at hl ⊢
  have hl : lv_has ls 10 [(0, .ref h4), (1, .long a0)] := hl
  refine lv_lload_n hx hb dMa_exchange_0 rfl (lv_at hl 1 rfl) ?_
  refine va_calli (va_runS (As := [.long a0]) (rest := []) ⟨hx, hb, hml, hown, hT⟩ (c_Fi_size l s.heap a0) (va_cwS 1 hT (gB_SV mw_464 mw_162 mw_16 mw_163) rfl rfl rfl (by decide +kernel) ⟨Nat.le_of_ble_eq_true rfl, Nat.le_of_ble_eq_true rfl⟩) ⟨fun _ _ _ _ q => q, fun U hU hW => ⟨rfl, hU⟩⟩ rfl rfl hl.1 rfl (lv_room (Nat.le_of_ble_eq_true rfl)) dMa_exchange_1 ⟨Nat.zero_le _, Nat.zero_le _⟩) hS (fun _ _ h => h.elim) (fun _ h => h.elim) (fun r u t H1 locs ht hvm hw hB hz8 hk8 hS => ?_)
  obtain rfl : s.heap = H1 := hB.symm.trans ht
  subst hw
  refine lv_istore_n (lv' := [(3, .int (f_Fi_size a0)), (0, .ref h4), (1, .long a0)]) hx hb dMa_exchange_4 rfl hl (by decide) rfl (fun ls hl => ?_)
  refine lv_lload_n hx hb dMa_exchange_5 rfl (lv_at hl 2 rfl) ?_
  refine va_calli (va_runS (As := [.long a0]) (rest := []) ⟨hx, hb, hml, hown, hT⟩ (c_Fi_immediate l s.heap a0) (va_cwS 1 hT (gB_SV mw_455 mw_153 mw_16 mw_154) rfl rfl rfl (by decide +kernel) ⟨Nat.le_of_ble_eq_true rfl, Nat.le_of_ble_eq_true rfl⟩) ⟨fun _ _ _ _ q => q, fun U hU hW => ⟨rfl, hU⟩⟩ rfl rfl hl.1 rfl (lv_room (Nat.le_of_ble_eq_true rfl)) dMa_exchange_6 ⟨Nat.zero_le _, Nat.zero_le _⟩) hS (fun _ _ h => h.elim) (fun _ h => h.elim) (fun r u t H1 locs ht hvm hw hB hz8 hk8 hS => ?_)
  obtain rfl : s.heap = H1 := hB.symm.trans ht
  subst hw
  refine lv_istore (lv' := [(4, .int (f_Fi_immediate a0)), (3, .int (f_Fi_size a0)), (0, .ref h4), (1, .long a0)]) hx hb dMa_exchange_9 hl (by decide) rfl (fun ls hl => ?_)
  refine lv_aload_n hx hb dMa_exchange_11 rfl (lv_at hl 2 rfl) ?_
  refine lv_lload_n hx hb dMa_exchange_12 rfl (lv_at hl 3 rfl) ?_
  have hPc := hP.sub (ws' := [(h4, .inr (2, [.ref h5, .ref h2])), (h5, .inl (cL, 16, .inr (.inl rf)))]) [0, 1] rfl
  refine va_calll (va_runV (As := [.long a0]) (rest := []) ⟨hx, hb, hml, hown, hT⟩ (c_Ma_x l G cB cL cI s.heap h4 h5 h2 rf a0 hPc ) (cwV 1 hT (gB_V mw_481 mw_482 mw_483 mw_4 mw_484) rfl rfl rfl (by decide +kernel) ⟨Nat.le_of_ble_eq_true rfl, Nat.le_of_ble_eq_true rfl⟩) ⟨fun a U g mk q => ⟨q.1, q.2.1, va_K.moved (u := U) (U := U.calling g mk a) (Vm.Alike.refl U.vm) q.2.2⟩, va_recv hK hPc (ci := 2) (q0 := 0) rfl rfl, fun U hU hW => ⟨rfl, hU, va_K.moved hW.alike hK⟩⟩ rfl rfl hl.1 rfl (lv_room (Nat.le_of_ble_eq_true rfl)) dMa_exchange_13 ⟨Nat.zero_le _, Nat.zero_le _⟩) hS (fun _ _ h => h.elim) (fun _ h => h.elim) (fun r u t H1 locs ht hvm hw hB hz8 hk8 hS => ?_)
  obtain rfl : s.heap = H1 := hB.symm.trans ht
  subst hw
  refine lv_lload_n hx hb dMa_exchange_16 rfl (lv_at hl 3 rfl) ?_
  refine va_calli (va_runS (As := [.long a0]) (rest := [.long (f_Ma_x rf a0)]) ⟨hx, hb, hml, hown, hT⟩ (c_Fi_offset l s.heap a0) (va_cwS 1 hT (gB_SV mw_470 mw_150 mw_16 mw_151) rfl rfl rfl (by decide +kernel) ⟨Nat.le_of_ble_eq_true rfl, Nat.le_of_ble_eq_true rfl⟩) ⟨fun _ _ _ _ q => q, fun U hU hW => ⟨rfl, hU⟩⟩ rfl rfl hl.1 rfl (lv_room (Nat.le_of_ble_eq_true rfl)) dMa_exchange_17 ⟨Nat.zero_le _, Nat.zero_le _⟩) hS (fun _ _ h => h.elim) (fun _ h => h.elim) (fun r u t H1 locs ht hvm hw hB hz8 hk8 hS => ?_)
  obtain rfl : s.heap = H1 := hB.symm.trans ht
  subst hw
  refine lv_i2l hx hb dMa_exchange_20 rfl ?_
  refine lv_ladd hx hb dMa_exchange_21 ?_
  refine lv_lstore (lv' := [(5, .long ((f_Ma_x rf a0) + ((f_Fi_offset a0).toInt64))), (4, .int (f_Fi_immediate a0)), (3, .int (f_Fi_size a0)), (0, .ref h4), (1, .long a0)]) hx hb dMa_exchange_22 hl (by decide) rfl (fun ls hl => ?_)
  refine lv_aload_n hx hb dMa_exchange_24 rfl (lv_at hl 3 rfl) ?_
  refine va_get (D := G) (ci := 2) (v := .ref h2) (C := RMa) (T := TMa) (N := 2) hx hb hT inMa hown hK hP 0 rfl rfl 1 (by decide) (hT _ mw_79) (fun _ h9 => h9) rfl dMa_exchange_25 ?_
  refine lv_lload hx hb dMa_exchange_28 (lv_at hl 0 rfl) ?_
  refine lv_iload_n hx hb dMa_exchange_30 rfl (lv_at hl 2 rfl) ?_
  have hPc := hP.sub (ws' := [(h2, .inr (1, [.ref h3])), (h3, .inl (cB, 4096, .inl mf))]) [2, 3] rfl
  refine va_calli (va_runV (As := [.long ((f_Ma_x rf a0) + ((f_Fi_offset a0).toInt64)), .int (f_Fi_size a0)]) (rest := []) ⟨hx, hb, hml, hown, hT⟩ (c_Me_holds l G cB cL cI s.heap h2 h3 mf ((f_Ma_x rf a0) + ((f_Fi_offset a0).toInt64)) (f_Fi_size a0) hPc ) (cwV 2 hT (gB_V mw_471 mw_414 mw_415 mw_5 mw_416) rfl rfl rfl (by decide +kernel) ⟨Nat.le_of_ble_eq_true rfl, Nat.le_of_ble_eq_true rfl⟩) ⟨fun a U g mk q => ⟨q.1, q.2.1, va_K.moved (u := U) (U := U.calling g mk a) (Vm.Alike.refl U.vm) q.2.2⟩, va_recv hK hPc (ci := 1) (q0 := 0) rfl rfl, fun U hU hW => ⟨rfl, hU, va_K.moved hW.alike hK⟩⟩ rfl rfl hl.1 rfl (lv_room (Nat.le_of_ble_eq_true rfl)) dMa_exchange_31 ⟨Nat.zero_le _, Nat.zero_le _⟩) hS (fun _ _ h => h.elim) (fun _ h => h.elim) (fun r u t H1 locs ht hvm hw hB hz8 hk8 hS => ?_)
  obtain rfl : s.heap = H1 := hB.symm.trans ht
  subst hw
  refine lv_if_eq (tgt := 49) hx hb dMa_exchange_34 (by decide) (fun c1 => ?_) (fun c1 => ?_)
  · have c1 := bI_z c1
    refine lv_iconst (v := (0 : Int32)) hx hb dMa_exchange_49 (by decide) ?_
    have hP9 := hP.sub (ws' := [(h4, .inr (2, [.ref h5, .ref h2])), (h5, .inl (cL, 16, .inr (.inl rf))), (h2, .inr (1, [.ref h3])), (h3, .inl (cB, 4096, .inl mf))]) [0, 1, 2, 3] rfl
    have hD9 := hD.sub (ws' := [(h4, .inr (2, [.ref h5, .ref h2])), (h5, .inl (cL, 16, .inr (.inl rf))), (h2, .inr (1, [.ref h3])), (h3, .inl (cB, 4096, .inl mf))]) [0, 1, 2, 3] (by decide) rfl
    exact W.zret (v := (0 : Int32)) hx hb hr rfl (fun t ht hW => ⟨⟨(0 : Int32), (rf, mf), rfl, ⟨(by unfold f_Ma_exchange; rw [if_neg c1]; try rfl), (by unfold f_Ma_exchange; rw [if_neg c1]; try rfl)⟩, by rw [ht]; exact hP9, hD9⟩, hS.F ht⟩) hS.2.2 dMa_exchange_50
  · have c1 := bI_n c1
    refine lv_lload hx hb dMa_exchange_37 (lv_at hl 0 rfl) ?_
    refine lv_iload_n hx hb dMa_exchange_39 rfl (lv_at hl 2 rfl) ?_
    refine lv_iconst (v := (1 : Int32)) hx hb dMa_exchange_40 (by decide) ?_
    refine lv_isub hx hb dMa_exchange_41 ?_
    refine lv_i2l hx hb dMa_exchange_42 rfl ?_
    refine lv_land hx hb dMa_exchange_43 ?_
    refine lv_lconst (v := (0 : Int64)) hx hb dMa_exchange_44 (by decide) ?_
    refine W.lcmp hx hb dMa_exchange_45 ?_
    refine lv_if_eq (tgt := 51) hx hb dMa_exchange_46 (by decide) (fun c2 => ?_) (fun c2 => ?_)
    · have c2 := (lg_cmp_eq _ _).mp c2
      refine lv_aload_n hx hb dMa_exchange_51 rfl (lv_at hl 3 rfl) ?_
      refine va_get (D := G) (ci := 2) (v := .ref h2) (C := RMa) (T := TMa) (N := 2) hx hb hT inMa hown hK hP 0 rfl rfl 1 (by decide) (hT _ mw_79) (fun _ h9 => h9) rfl dMa_exchange_52 ?_
      refine lv_lload hx hb dMa_exchange_55 (lv_at hl 0 rfl) ?_
      refine lv_iload_n hx hb dMa_exchange_57 rfl (lv_at hl 2 rfl) ?_
      have hPc := hP.sub (ws' := [(h2, .inr (1, [.ref h3])), (h3, .inl (cB, 4096, .inl mf))]) [2, 3] rfl
      refine va_calll (va_runV (As := [.long ((f_Ma_x rf a0) + ((f_Fi_offset a0).toInt64)), .int (f_Fi_size a0)]) (rest := []) ⟨hx, hb, hml, hown, hT⟩ (c_Me_read l G cB cL cI s.heap h2 h3 mf ((f_Ma_x rf a0) + ((f_Fi_offset a0).toInt64)) (f_Fi_size a0) hPc (size_ok a0)) (cwV 2 hT (gB_V mw_472 mw_432 mw_433 mw_5 mw_434) rfl rfl rfl (by decide +kernel) ⟨Nat.le_of_ble_eq_true rfl, Nat.le_of_ble_eq_true rfl⟩) ⟨fun a U g mk q => ⟨q.1, q.2.1, va_K.moved (u := U) (U := U.calling g mk a) (Vm.Alike.refl U.vm) q.2.2⟩, va_recv hK hPc (ci := 1) (q0 := 0) rfl rfl, fun U hU hW => ⟨rfl, hU, va_K.moved hW.alike hK⟩⟩ rfl rfl hl.1 rfl (lv_room (Nat.le_of_ble_eq_true rfl)) dMa_exchange_58 ⟨Nat.zero_le _, Nat.zero_le _⟩) hS (fun _ _ h => h.elim) (fun _ h => h.elim) (fun r u t H1 locs ht hvm hw hB hz8 hk8 hS => ?_)
      obtain rfl : s.heap = H1 := hB.symm.trans ht
      subst hw
      refine lv_lstore (lv' := [(7, .long (f_Me_read mf ((f_Ma_x rf a0) + ((f_Fi_offset a0).toInt64)) (f_Fi_size a0))), (5, .long ((f_Ma_x rf a0) + ((f_Fi_offset a0).toInt64))), (4, .int (f_Fi_immediate a0)), (3, .int (f_Fi_size a0)), (0, .ref h4), (1, .long a0)]) hx hb dMa_exchange_61 hl (by decide) rfl (fun ls hl => ?_)
      refine lv_lload hx hb dMa_exchange_63 (lv_at hl 0 rfl) ?_
      refine lv_aload_n hx hb dMa_exchange_65 rfl (lv_at hl 4 rfl) ?_
      refine va_get (D := G) (ci := 2) (v := .ref h5) (C := RMa) (T := TMa) (N := 2) hx hb hT inMa hown hK hP 0 rfl rfl 0 (by decide) (hT _ mw_77) (fun _ h9 => h9) rfl dMa_exchange_66 ?_
      refine lv_iconst (v := (0 : Int32)) hx hb dMa_exchange_69 (by decide) ?_
      refine va_lald hx hb hK hP 1 1 rfl rfl (by unfold vp_in; decide) dMa_exchange_70 ?_
      refine lv_bipush (v := (8 : Int32)) hx hb dMa_exchange_71 (by decide) ?_
      refine lv_iload_n hx hb dMa_exchange_73 rfl (lv_at hl 3 rfl) ?_
      refine lv_imul hx hb dMa_exchange_74 ?_
      refine va_calll (va_runS (As := [.long (rf (0 : Int32).toNatClampNeg), .int ((8 : Int32) * (f_Fi_size a0))]) (rest := [.long (f_Me_read mf ((f_Ma_x rf a0) + ((f_Fi_offset a0).toInt64)) (f_Fi_size a0))]) ⟨hx, hb, hml, hown, hT⟩ (c_Ar_lowest l s.heap (rf (0 : Int32).toNatClampNeg) ((8 : Int32) * (f_Fi_size a0))) (va_cwS 2 hT (gB_SV mw_457 mw_458 mw_19 mw_459) rfl rfl rfl (by decide +kernel) ⟨Nat.le_of_ble_eq_true rfl, Nat.le_of_ble_eq_true rfl⟩) ⟨fun _ _ _ _ q => q, fun U hU hW => ⟨rfl, hU⟩⟩ rfl rfl hl.1 rfl (lv_room (Nat.le_of_ble_eq_true rfl)) dMa_exchange_75 ⟨Nat.zero_le _, Nat.zero_le _⟩) hS (fun _ _ h => h.elim) (fun _ h => h.elim) (fun r u t H1 locs ht hvm hw hB hz8 hk8 hS => ?_)
      obtain rfl : s.heap = H1 := hB.symm.trans ht
      subst hw
      refine W.lcmp hx hb dMa_exchange_78 ?_
      refine lv_if_ne (tgt := 86) hx hb dMa_exchange_79 (by decide) (fun c3 => ?_) (fun c3 => ?_)
      · have c3 := mt (lg_cmp_eq _ _).mpr c3
        refine lv_iconst (v := (0 : Int32)) hx hb dMa_exchange_86 (by decide) ?_
        refine lv_istore (lv' := [(9, .int (0 : Int32)), (7, .long (f_Me_read mf ((f_Ma_x rf a0) + ((f_Fi_offset a0).toInt64)) (f_Fi_size a0))), (5, .long ((f_Ma_x rf a0) + ((f_Fi_offset a0).toInt64))), (4, .int (f_Fi_immediate a0)), (3, .int (f_Fi_size a0)), (0, .ref h4), (1, .long a0)]) hx hb dMa_exchange_87 hl (by decide) rfl (fun ls hl => ?_)
        refine lv_aload_n hx hb dMa_exchange_89 rfl (lv_at hl 5 rfl) ?_
        refine va_get (D := G) (ci := 2) (v := .ref h2) (C := RMa) (T := TMa) (N := 2) hx hb hT inMa hown hK hP 0 rfl rfl 1 (by decide) (hT _ mw_79) (fun _ h9 => h9) rfl dMa_exchange_90 ?_
        refine lv_lload hx hb dMa_exchange_93 (lv_at hl 2 rfl) ?_
        refine lv_iload_n hx hb dMa_exchange_95 rfl (lv_at hl 4 rfl) ?_
        refine lv_iload hx hb dMa_exchange_96 (lv_at hl 3 rfl) ?_
        refine lv_lload hx hb dMa_exchange_98 (lv_at hl 1 rfl) ?_
        refine lv_aload_n hx hb dMa_exchange_100 rfl (lv_at hl 5 rfl) ?_
        refine lv_lload_n hx hb dMa_exchange_101 rfl (lv_at hl 6 rfl) ?_
        have hPc := hP.sub (ws' := [(h4, .inr (2, [.ref h5, .ref h2])), (h5, .inl (cL, 16, .inr (.inl rf)))]) [0, 1] rfl
        refine va_calll (va_runV (As := [.long a0]) (rest := [.long (f_Me_read mf ((f_Ma_x rf a0) + ((f_Fi_offset a0).toInt64)) (f_Fi_size a0)), .int (f_Fi_immediate a0), .int (f_Fi_size a0), .long ((f_Ma_x rf a0) + ((f_Fi_offset a0).toInt64)), .ref h2]) ⟨hx, hb, hml, hown, hT⟩ (c_Ma_y l G cB cL cI s.heap h4 h5 h2 rf a0 hPc ) (cwV 1 hT (gB_V mw_465 mw_466 mw_467 mw_4 mw_468) rfl rfl rfl (by decide +kernel) ⟨Nat.le_of_ble_eq_true rfl, Nat.le_of_ble_eq_true rfl⟩) ⟨fun a U g mk q => ⟨q.1, q.2.1, va_K.moved (u := U) (U := U.calling g mk a) (Vm.Alike.refl U.vm) q.2.2⟩, va_recv hK hPc (ci := 2) (q0 := 0) rfl rfl, fun U hU hW => ⟨rfl, hU, va_K.moved hW.alike hK⟩⟩ rfl rfl hl.1 rfl (lv_room (Nat.le_of_ble_eq_true rfl)) dMa_exchange_102 ⟨Nat.zero_le _, Nat.zero_le _⟩) hS (fun _ _ h => h.elim) (fun _ h => h.elim) (fun r u t H1 locs ht hvm hw hB hz8 hk8 hS => ?_)
        obtain rfl : s.heap = H1 := hB.symm.trans ht
        subst hw
        refine lv_iload hx hb dMa_exchange_105 (lv_at hl 0 rfl) ?_
        refine va_calll (va_runS (As := [.int (f_Fi_immediate a0), .long (f_Me_read mf ((f_Ma_x rf a0) + ((f_Fi_offset a0).toInt64)) (f_Fi_size a0)), .long (f_Ma_y rf a0), .int (0 : Int32)]) (rest := [.int (f_Fi_size a0), .long ((f_Ma_x rf a0) + ((f_Fi_offset a0).toInt64)), .ref h2]) ⟨hx, hb, hml, hown, hT⟩ (c_Ex_become l s.heap (f_Fi_immediate a0) (f_Me_read mf ((f_Ma_x rf a0) + ((f_Fi_offset a0).toInt64)) (f_Fi_size a0)) (f_Ma_y rf a0) false) (va_cwS 4 hT (gB_SV mw_490 mw_491 mw_17 mw_492) rfl rfl rfl (by decide +kernel) ⟨Nat.le_of_ble_eq_true rfl, Nat.le_of_ble_eq_true rfl⟩) ⟨fun _ _ _ _ q => q, fun U hU hW => ⟨rfl, hU⟩⟩ rfl rfl hl.1 rfl (lv_room (Nat.le_of_ble_eq_true rfl)) dMa_exchange_107 ⟨Nat.zero_le _, Nat.zero_le _⟩) hS (fun _ _ h => h.elim) (fun _ h => h.elim) (fun r u t H1 locs ht hvm hw hB hz8 hk8 hS => ?_)
        obtain rfl : s.heap = H1 := hB.symm.trans ht
        subst hw
        have hPc := hP.sub (ws' := [(h2, .inr (1, [.ref h3])), (h3, .inl (cB, 4096, .inl mf))]) [2, 3] rfl
        have hDc := hD.sub (ws' := [(h2, .inr (1, [.ref h3])), (h3, .inl (cB, 4096, .inl mf))]) [2, 3] (by decide) rfl
        have hFc := va_free (wc := [(h2, .inr (1, [.ref h3])), (h3, .inl (cB, 4096, .inl mf))]) hD hS hA [2, 3] rfl
        refine va_callv (va_runV (As := [.long ((f_Ma_x rf a0) + ((f_Fi_offset a0).toInt64)), .int (f_Fi_size a0), .long (f_Ex_become (f_Fi_immediate a0) (f_Me_read mf ((f_Ma_x rf a0) + ((f_Fi_offset a0).toInt64)) (f_Fi_size a0)) (f_Ma_y rf a0) false)]) (rest := []) ⟨hx, hb, hml, hown, hT⟩ (c_Me_write l G cB cL cI s.heap h2 h3 mf ((f_Ma_x rf a0) + ((f_Fi_offset a0).toInt64)) (f_Fi_size a0) (f_Ex_become (f_Fi_immediate a0) (f_Me_read mf ((f_Ma_x rf a0) + ((f_Fi_offset a0).toInt64)) (f_Fi_size a0)) (f_Ma_y rf a0) false) hPc (hDc.weaken (fun _ _ _ _ => trivial)) (size_ok a0)) (cwV 3 hT (gB_V mw_485 mw_420 mw_421 mw_5 mw_422) rfl rfl rfl (by decide +kernel) ⟨Nat.le_of_ble_eq_true rfl, Nat.le_of_ble_eq_true rfl⟩) ⟨fun a U g mk q => ⟨q.1, q.2.1, va_K.moved (u := U) (U := U.calling g mk a) (Vm.Alike.refl U.vm) q.2.2⟩, va_recv hK hPc (ci := 1) (q0 := 0) rfl rfl, fun U hU hW => ⟨rfl, hU, va_K.moved hW.alike hK⟩⟩ rfl rfl hl.1 rfl (lv_room (Nat.le_of_ble_eq_true rfl)) dMa_exchange_110 ⟨Nat.zero_le _, Nat.zero_le _⟩) hS (fun q _ h => hFc q h) hFc (fun u t H locs ht hvm hw hB hz8 hk8 hS => ?_)
        subst hw
        obtain ⟨hP1, hD1⟩ := hB
        rw [ht] at hP1
        obtain ⟨hP, hD⟩ := va_join (wr := [(h4, .inr (2, [.ref h5, .ref h2])), (h5, .inl (cL, 16, .inr (.inl rf)))]) (w1 := [(h2, .inr (1, [.ref h3])), (h3, .inl (cB, 4096, .inl ((f_Me_write mf ((f_Ma_x rf a0) + ((f_Fi_offset a0).toInt64)) (f_Fi_size a0) (f_Ex_become (f_Fi_immediate a0) (f_Me_read mf ((f_Ma_x rf a0) + ((f_Fi_offset a0).toInt64)) (f_Fi_size a0)) (f_Ma_y rf a0) false)))))]) hP hD [2, 3] [0, 1] rfl rfl (by decide) (by decide) hk8 hFc hP1 hD1
        have hP : va_P G vwCl [(h4, .inr (2, [.ref h5, .ref h2])), (h5, .inl (cL, 16, .inr (.inl rf))), (h2, .inr (1, [.ref h3])), (h3, .inl (cB, 4096, .inl ((f_Me_write mf ((f_Ma_x rf a0) + ((f_Fi_offset a0).toInt64)) (f_Fi_size a0) (f_Ex_become (f_Fi_immediate a0) (f_Me_read mf ((f_Ma_x rf a0) + ((f_Fi_offset a0).toInt64)) (f_Fi_size a0)) (f_Ma_y rf a0) false)))))] H := hP
        have hD : va_D A [(h4, .inr (2, [.ref h5, .ref h2])), (h5, .inl (cL, 16, .inr (.inl rf))), (h2, .inr (1, [.ref h3])), (h3, .inl (cB, 4096, .inl ((f_Me_write mf ((f_Ma_x rf a0) + ((f_Fi_offset a0).toInt64)) (f_Fi_size a0) (f_Ex_become (f_Fi_immediate a0) (f_Me_read mf ((f_Ma_x rf a0) + ((f_Fi_offset a0).toInt64)) (f_Fi_size a0)) (f_Ma_y rf a0) false)))))] := hD
        refine lv_iload hx hb dMa_exchange_113 (lv_at hl 3 rfl) ?_
        refine lv_sipush (v := (241 : Int32)) hx hb dMa_exchange_115 (by decide) ?_
        refine lv_icmp_ne (tgt := 132) hx hb dMa_exchange_118 (by decide) (fun c4 => ?_) (fun c4 => ?_)
        · skip
          refine lv_iload hx hb dMa_exchange_132 (lv_at hl 3 rfl) ?_
          refine va_calli (va_runS (As := [.int (f_Fi_immediate a0)]) (rest := []) ⟨hx, hb, hml, hown, hT⟩ (c_Ex_changesSource l H (f_Fi_immediate a0)) (va_cwS 1 hT (gB_SV mw_493 mw_174 mw_17 mw_175) rfl rfl rfl (by decide +kernel) ⟨Nat.le_of_ble_eq_true rfl, Nat.le_of_ble_eq_true rfl⟩) ⟨fun _ _ _ _ q => q, fun U hU hW => ⟨rfl, hU⟩⟩ rfl rfl hl.1 rfl (lv_room (Nat.le_of_ble_eq_true rfl)) dMa_exchange_134 ⟨Nat.zero_le _, Nat.zero_le _⟩) hS (fun _ _ h => h.elim) (fun _ h => h.elim) (fun r u t H1 locs ht hvm hw hB hz8 hk8 hS => ?_)
          obtain rfl : H = H1 := hB.symm.trans ht
          subst hw
          refine lv_if_eq (tgt := 151) hx hb dMa_exchange_137 (by decide) (fun c5 => ?_) (fun c5 => ?_)
          · have c5 := bI_z c5
            refine lv_iconst (v := (1 : Int32)) hx hb dMa_exchange_151 (by decide) ?_
            have hP9 := hP.sub (ws' := [(h4, .inr (2, [.ref h5, .ref h2])), (h5, .inl (cL, 16, .inr (.inl rf))), (h2, .inr (1, [.ref h3])), (h3, .inl (cB, 4096, .inl ((f_Me_write mf ((f_Ma_x rf a0) + ((f_Fi_offset a0).toInt64)) (f_Fi_size a0) (f_Ex_become (f_Fi_immediate a0) (f_Me_read mf ((f_Ma_x rf a0) + ((f_Fi_offset a0).toInt64)) (f_Fi_size a0)) (f_Ma_y rf a0) false)))))]) [0, 1, 2, 3] rfl
            have hD9 := hD.sub (ws' := [(h4, .inr (2, [.ref h5, .ref h2])), (h5, .inl (cL, 16, .inr (.inl rf))), (h2, .inr (1, [.ref h3])), (h3, .inl (cB, 4096, .inl ((f_Me_write mf ((f_Ma_x rf a0) + ((f_Fi_offset a0).toInt64)) (f_Fi_size a0) (f_Ex_become (f_Fi_immediate a0) (f_Me_read mf ((f_Ma_x rf a0) + ((f_Fi_offset a0).toInt64)) (f_Fi_size a0)) (f_Ma_y rf a0) false)))))]) [0, 1, 2, 3] (by decide) rfl
            exact W.zret (v := (1 : Int32)) hx hb hr rfl (fun t ht hW => ⟨⟨(1 : Int32), (rf, ((f_Me_write mf ((f_Ma_x rf a0) + ((f_Fi_offset a0).toInt64)) (f_Fi_size a0) (f_Ex_become (f_Fi_immediate a0) (f_Me_read mf ((f_Ma_x rf a0) + ((f_Fi_offset a0).toInt64)) (f_Fi_size a0)) (f_Ma_y rf a0) false)))), rfl, ⟨(by unfold f_Ma_exchange; rw [if_pos c1, if_pos c2, if_neg c3, if_neg c4, if_neg c5]; try rfl), (by unfold f_Ma_exchange; rw [if_pos c1, if_pos c2, if_neg c3, if_neg c4, if_neg c5]; try rfl)⟩, by rw [ht]; exact hP9, hD9⟩, hS.F ht⟩) hS.2.2 dMa_exchange_152
          · have c5 := bI_n c5
            refine lv_aload_n hx hb dMa_exchange_140 rfl (lv_at hl 5 rfl) ?_
            refine va_get (D := G) (ci := 2) (v := .ref h5) (C := RMa) (T := TMa) (N := 2) hx hb hT inMa hown hK hP 0 rfl rfl 0 (by decide) (hT _ mw_77) (fun _ h9 => h9) rfl dMa_exchange_141 ?_
            refine lv_lload_n hx hb dMa_exchange_144 rfl (lv_at hl 6 rfl) ?_
            refine va_calli (va_runS (As := [.long a0]) (rest := [.ref h5]) ⟨hx, hb, hml, hown, hT⟩ (c_Fi_source l H a0) (va_cwS 1 hT (gB_SV mw_469 mw_138 mw_16 mw_139) rfl rfl rfl (by decide +kernel) ⟨Nat.le_of_ble_eq_true rfl, Nat.le_of_ble_eq_true rfl⟩) ⟨fun _ _ _ _ q => q, fun U hU hW => ⟨rfl, hU⟩⟩ rfl rfl hl.1 rfl (lv_room (Nat.le_of_ble_eq_true rfl)) dMa_exchange_145 ⟨Nat.zero_le _, Nat.zero_le _⟩) hS (fun _ _ h => h.elim) (fun _ h => h.elim) (fun r u t H1 locs ht hvm hw hB hz8 hk8 hS => ?_)
            obtain rfl : H = H1 := hB.symm.trans ht
            subst hw
            refine lv_lload hx hb dMa_exchange_148 (lv_at hl 1 rfl) ?_
            refine va_last hx hb hK hP hD hS 1 1 rfl rfl (in_Fi_source a0) dMa_exchange_150 (fun H locs hP hD hS => ?_)
            have hP : va_P G vwCl [(h4, .inr (2, [.ref h5, .ref h2])), (h5, .inl (cL, 16, .inr (.inl (vp_updL rf (f_Fi_source a0).toNatClampNeg (f_Me_read mf ((f_Ma_x rf a0) + ((f_Fi_offset a0).toInt64)) (f_Fi_size a0)))))), (h2, .inr (1, [.ref h3])), (h3, .inl (cB, 4096, .inl ((f_Me_write mf ((f_Ma_x rf a0) + ((f_Fi_offset a0).toInt64)) (f_Fi_size a0) (f_Ex_become (f_Fi_immediate a0) (f_Me_read mf ((f_Ma_x rf a0) + ((f_Fi_offset a0).toInt64)) (f_Fi_size a0)) (f_Ma_y rf a0) false)))))] H := hP
            have hD : va_D A [(h4, .inr (2, [.ref h5, .ref h2])), (h5, .inl (cL, 16, .inr (.inl (vp_updL rf (f_Fi_source a0).toNatClampNeg (f_Me_read mf ((f_Ma_x rf a0) + ((f_Fi_offset a0).toInt64)) (f_Fi_size a0)))))), (h2, .inr (1, [.ref h3])), (h3, .inl (cB, 4096, .inl ((f_Me_write mf ((f_Ma_x rf a0) + ((f_Fi_offset a0).toInt64)) (f_Fi_size a0) (f_Ex_become (f_Fi_immediate a0) (f_Me_read mf ((f_Ma_x rf a0) + ((f_Fi_offset a0).toInt64)) (f_Fi_size a0)) (f_Ma_y rf a0) false)))))] := hD
            refine lv_iconst (v := (1 : Int32)) hx hb dMa_exchange_151 (by decide) ?_
            have hP9 := hP.sub (ws' := [(h4, .inr (2, [.ref h5, .ref h2])), (h5, .inl (cL, 16, .inr (.inl (vp_updL rf (f_Fi_source a0).toNatClampNeg (f_Me_read mf ((f_Ma_x rf a0) + ((f_Fi_offset a0).toInt64)) (f_Fi_size a0)))))), (h2, .inr (1, [.ref h3])), (h3, .inl (cB, 4096, .inl ((f_Me_write mf ((f_Ma_x rf a0) + ((f_Fi_offset a0).toInt64)) (f_Fi_size a0) (f_Ex_become (f_Fi_immediate a0) (f_Me_read mf ((f_Ma_x rf a0) + ((f_Fi_offset a0).toInt64)) (f_Fi_size a0)) (f_Ma_y rf a0) false)))))]) [0, 1, 2, 3] rfl
            have hD9 := hD.sub (ws' := [(h4, .inr (2, [.ref h5, .ref h2])), (h5, .inl (cL, 16, .inr (.inl (vp_updL rf (f_Fi_source a0).toNatClampNeg (f_Me_read mf ((f_Ma_x rf a0) + ((f_Fi_offset a0).toInt64)) (f_Fi_size a0)))))), (h2, .inr (1, [.ref h3])), (h3, .inl (cB, 4096, .inl ((f_Me_write mf ((f_Ma_x rf a0) + ((f_Fi_offset a0).toInt64)) (f_Fi_size a0) (f_Ex_become (f_Fi_immediate a0) (f_Me_read mf ((f_Ma_x rf a0) + ((f_Fi_offset a0).toInt64)) (f_Fi_size a0)) (f_Ma_y rf a0) false)))))]) [0, 1, 2, 3] (by decide) rfl
            exact W.zret (v := (1 : Int32)) hx hb hr rfl (fun t ht hW => ⟨⟨(1 : Int32), ((vp_updL rf (f_Fi_source a0).toNatClampNeg (f_Me_read mf ((f_Ma_x rf a0) + ((f_Fi_offset a0).toInt64)) (f_Fi_size a0))), ((f_Me_write mf ((f_Ma_x rf a0) + ((f_Fi_offset a0).toInt64)) (f_Fi_size a0) (f_Ex_become (f_Fi_immediate a0) (f_Me_read mf ((f_Ma_x rf a0) + ((f_Fi_offset a0).toInt64)) (f_Fi_size a0)) (f_Ma_y rf a0) false)))), rfl, ⟨(by unfold f_Ma_exchange; rw [if_pos c1, if_pos c2, if_neg c3, if_neg c4, if_pos c5]; try rfl), (by unfold f_Ma_exchange; rw [if_pos c1, if_pos c2, if_neg c3, if_neg c4, if_pos c5]; try rfl)⟩, by rw [ht]; exact hP9, hD9⟩, hS.F ht⟩) hS.2.2 dMa_exchange_152
        · skip
          refine lv_aload_n hx hb dMa_exchange_121 rfl (lv_at hl 5 rfl) ?_
          refine va_get (D := G) (ci := 2) (v := .ref h5) (C := RMa) (T := TMa) (N := 2) hx hb hT inMa hown hK hP 0 rfl rfl 0 (by decide) (hT _ mw_77) (fun _ h9 => h9) rfl dMa_exchange_122 ?_
          refine lv_iconst (v := (0 : Int32)) hx hb dMa_exchange_125 (by decide) ?_
          refine lv_lload hx hb dMa_exchange_126 (lv_at hl 1 rfl) ?_
          refine va_last hx hb hK hP hD hS 1 1 rfl rfl (by unfold vp_in; decide) dMa_exchange_128 (fun H locs hP hD hS => ?_)
          have hP : va_P G vwCl [(h4, .inr (2, [.ref h5, .ref h2])), (h5, .inl (cL, 16, .inr (.inl (vp_updL rf (0 : Int32).toNatClampNeg (f_Me_read mf ((f_Ma_x rf a0) + ((f_Fi_offset a0).toInt64)) (f_Fi_size a0)))))), (h2, .inr (1, [.ref h3])), (h3, .inl (cB, 4096, .inl ((f_Me_write mf ((f_Ma_x rf a0) + ((f_Fi_offset a0).toInt64)) (f_Fi_size a0) (f_Ex_become (f_Fi_immediate a0) (f_Me_read mf ((f_Ma_x rf a0) + ((f_Fi_offset a0).toInt64)) (f_Fi_size a0)) (f_Ma_y rf a0) false)))))] H := hP
          have hD : va_D A [(h4, .inr (2, [.ref h5, .ref h2])), (h5, .inl (cL, 16, .inr (.inl (vp_updL rf (0 : Int32).toNatClampNeg (f_Me_read mf ((f_Ma_x rf a0) + ((f_Fi_offset a0).toInt64)) (f_Fi_size a0)))))), (h2, .inr (1, [.ref h3])), (h3, .inl (cB, 4096, .inl ((f_Me_write mf ((f_Ma_x rf a0) + ((f_Fi_offset a0).toInt64)) (f_Fi_size a0) (f_Ex_become (f_Fi_immediate a0) (f_Me_read mf ((f_Ma_x rf a0) + ((f_Fi_offset a0).toInt64)) (f_Fi_size a0)) (f_Ma_y rf a0) false)))))] := hD
          refine lv_goto (tgt := 151) hx hb dMa_exchange_129 (by decide) ?_
          refine lv_iconst (v := (1 : Int32)) hx hb dMa_exchange_151 (by decide) ?_
          have hP9 := hP.sub (ws' := [(h4, .inr (2, [.ref h5, .ref h2])), (h5, .inl (cL, 16, .inr (.inl (vp_updL rf (0 : Int32).toNatClampNeg (f_Me_read mf ((f_Ma_x rf a0) + ((f_Fi_offset a0).toInt64)) (f_Fi_size a0)))))), (h2, .inr (1, [.ref h3])), (h3, .inl (cB, 4096, .inl ((f_Me_write mf ((f_Ma_x rf a0) + ((f_Fi_offset a0).toInt64)) (f_Fi_size a0) (f_Ex_become (f_Fi_immediate a0) (f_Me_read mf ((f_Ma_x rf a0) + ((f_Fi_offset a0).toInt64)) (f_Fi_size a0)) (f_Ma_y rf a0) false)))))]) [0, 1, 2, 3] rfl
          have hD9 := hD.sub (ws' := [(h4, .inr (2, [.ref h5, .ref h2])), (h5, .inl (cL, 16, .inr (.inl (vp_updL rf (0 : Int32).toNatClampNeg (f_Me_read mf ((f_Ma_x rf a0) + ((f_Fi_offset a0).toInt64)) (f_Fi_size a0)))))), (h2, .inr (1, [.ref h3])), (h3, .inl (cB, 4096, .inl ((f_Me_write mf ((f_Ma_x rf a0) + ((f_Fi_offset a0).toInt64)) (f_Fi_size a0) (f_Ex_become (f_Fi_immediate a0) (f_Me_read mf ((f_Ma_x rf a0) + ((f_Fi_offset a0).toInt64)) (f_Fi_size a0)) (f_Ma_y rf a0) false)))))]) [0, 1, 2, 3] (by decide) rfl
          exact W.zret (v := (1 : Int32)) hx hb hr rfl (fun t ht hW => ⟨⟨(1 : Int32), ((vp_updL rf (0 : Int32).toNatClampNeg (f_Me_read mf ((f_Ma_x rf a0) + ((f_Fi_offset a0).toInt64)) (f_Fi_size a0))), ((f_Me_write mf ((f_Ma_x rf a0) + ((f_Fi_offset a0).toInt64)) (f_Fi_size a0) (f_Ex_become (f_Fi_immediate a0) (f_Me_read mf ((f_Ma_x rf a0) + ((f_Fi_offset a0).toInt64)) (f_Fi_size a0)) (f_Ma_y rf a0) false)))), rfl, ⟨(by unfold f_Ma_exchange; rw [if_pos c1, if_pos c2, if_neg c3, if_pos c4]; try rfl), (by unfold f_Ma_exchange; rw [if_pos c1, if_pos c2, if_neg c3, if_pos c4]; try rfl)⟩, by rw [ht]; exact hP9, hD9⟩, hS.F ht⟩) hS.2.2 dMa_exchange_152
      · have c3 := (lg_cmp_eq _ _).mp c3
        refine lv_iconst (v := (1 : Int32)) hx hb dMa_exchange_82 (by decide) ?_
        refine lv_goto (tgt := 87) hx hb dMa_exchange_83 (by decide) ?_
        refine lv_istore (lv' := [(9, .int (1 : Int32)), (7, .long (f_Me_read mf ((f_Ma_x rf a0) + ((f_Fi_offset a0).toInt64)) (f_Fi_size a0))), (5, .long ((f_Ma_x rf a0) + ((f_Fi_offset a0).toInt64))), (4, .int (f_Fi_immediate a0)), (3, .int (f_Fi_size a0)), (0, .ref h4), (1, .long a0)]) hx hb dMa_exchange_87 hl (by decide) rfl (fun ls hl => ?_)
        refine lv_aload_n hx hb dMa_exchange_89 rfl (lv_at hl 5 rfl) ?_
        refine va_get (D := G) (ci := 2) (v := .ref h2) (C := RMa) (T := TMa) (N := 2) hx hb hT inMa hown hK hP 0 rfl rfl 1 (by decide) (hT _ mw_79) (fun _ h9 => h9) rfl dMa_exchange_90 ?_
        refine lv_lload hx hb dMa_exchange_93 (lv_at hl 2 rfl) ?_
        refine lv_iload_n hx hb dMa_exchange_95 rfl (lv_at hl 4 rfl) ?_
        refine lv_iload hx hb dMa_exchange_96 (lv_at hl 3 rfl) ?_
        refine lv_lload hx hb dMa_exchange_98 (lv_at hl 1 rfl) ?_
        refine lv_aload_n hx hb dMa_exchange_100 rfl (lv_at hl 5 rfl) ?_
        refine lv_lload_n hx hb dMa_exchange_101 rfl (lv_at hl 6 rfl) ?_
        have hPc := hP.sub (ws' := [(h4, .inr (2, [.ref h5, .ref h2])), (h5, .inl (cL, 16, .inr (.inl rf)))]) [0, 1] rfl
        refine va_calll (va_runV (As := [.long a0]) (rest := [.long (f_Me_read mf ((f_Ma_x rf a0) + ((f_Fi_offset a0).toInt64)) (f_Fi_size a0)), .int (f_Fi_immediate a0), .int (f_Fi_size a0), .long ((f_Ma_x rf a0) + ((f_Fi_offset a0).toInt64)), .ref h2]) ⟨hx, hb, hml, hown, hT⟩ (c_Ma_y l G cB cL cI s.heap h4 h5 h2 rf a0 hPc ) (cwV 1 hT (gB_V mw_465 mw_466 mw_467 mw_4 mw_468) rfl rfl rfl (by decide +kernel) ⟨Nat.le_of_ble_eq_true rfl, Nat.le_of_ble_eq_true rfl⟩) ⟨fun a U g mk q => ⟨q.1, q.2.1, va_K.moved (u := U) (U := U.calling g mk a) (Vm.Alike.refl U.vm) q.2.2⟩, va_recv hK hPc (ci := 2) (q0 := 0) rfl rfl, fun U hU hW => ⟨rfl, hU, va_K.moved hW.alike hK⟩⟩ rfl rfl hl.1 rfl (lv_room (Nat.le_of_ble_eq_true rfl)) dMa_exchange_102 ⟨Nat.zero_le _, Nat.zero_le _⟩) hS (fun _ _ h => h.elim) (fun _ h => h.elim) (fun r u t H1 locs ht hvm hw hB hz8 hk8 hS => ?_)
        obtain rfl : s.heap = H1 := hB.symm.trans ht
        subst hw
        refine lv_iload hx hb dMa_exchange_105 (lv_at hl 0 rfl) ?_
        refine va_calll (va_runS (As := [.int (f_Fi_immediate a0), .long (f_Me_read mf ((f_Ma_x rf a0) + ((f_Fi_offset a0).toInt64)) (f_Fi_size a0)), .long (f_Ma_y rf a0), .int (1 : Int32)]) (rest := [.int (f_Fi_size a0), .long ((f_Ma_x rf a0) + ((f_Fi_offset a0).toInt64)), .ref h2]) ⟨hx, hb, hml, hown, hT⟩ (c_Ex_become l s.heap (f_Fi_immediate a0) (f_Me_read mf ((f_Ma_x rf a0) + ((f_Fi_offset a0).toInt64)) (f_Fi_size a0)) (f_Ma_y rf a0) true) (va_cwS 4 hT (gB_SV mw_490 mw_491 mw_17 mw_492) rfl rfl rfl (by decide +kernel) ⟨Nat.le_of_ble_eq_true rfl, Nat.le_of_ble_eq_true rfl⟩) ⟨fun _ _ _ _ q => q, fun U hU hW => ⟨rfl, hU⟩⟩ rfl rfl hl.1 rfl (lv_room (Nat.le_of_ble_eq_true rfl)) dMa_exchange_107 ⟨Nat.zero_le _, Nat.zero_le _⟩) hS (fun _ _ h => h.elim) (fun _ h => h.elim) (fun r u t H1 locs ht hvm hw hB hz8 hk8 hS => ?_)
        obtain rfl : s.heap = H1 := hB.symm.trans ht
        subst hw
        have hPc := hP.sub (ws' := [(h2, .inr (1, [.ref h3])), (h3, .inl (cB, 4096, .inl mf))]) [2, 3] rfl
        have hDc := hD.sub (ws' := [(h2, .inr (1, [.ref h3])), (h3, .inl (cB, 4096, .inl mf))]) [2, 3] (by decide) rfl
        have hFc := va_free (wc := [(h2, .inr (1, [.ref h3])), (h3, .inl (cB, 4096, .inl mf))]) hD hS hA [2, 3] rfl
        refine va_callv (va_runV (As := [.long ((f_Ma_x rf a0) + ((f_Fi_offset a0).toInt64)), .int (f_Fi_size a0), .long (f_Ex_become (f_Fi_immediate a0) (f_Me_read mf ((f_Ma_x rf a0) + ((f_Fi_offset a0).toInt64)) (f_Fi_size a0)) (f_Ma_y rf a0) true)]) (rest := []) ⟨hx, hb, hml, hown, hT⟩ (c_Me_write l G cB cL cI s.heap h2 h3 mf ((f_Ma_x rf a0) + ((f_Fi_offset a0).toInt64)) (f_Fi_size a0) (f_Ex_become (f_Fi_immediate a0) (f_Me_read mf ((f_Ma_x rf a0) + ((f_Fi_offset a0).toInt64)) (f_Fi_size a0)) (f_Ma_y rf a0) true) hPc (hDc.weaken (fun _ _ _ _ => trivial)) (size_ok a0)) (cwV 3 hT (gB_V mw_485 mw_420 mw_421 mw_5 mw_422) rfl rfl rfl (by decide +kernel) ⟨Nat.le_of_ble_eq_true rfl, Nat.le_of_ble_eq_true rfl⟩) ⟨fun a U g mk q => ⟨q.1, q.2.1, va_K.moved (u := U) (U := U.calling g mk a) (Vm.Alike.refl U.vm) q.2.2⟩, va_recv hK hPc (ci := 1) (q0 := 0) rfl rfl, fun U hU hW => ⟨rfl, hU, va_K.moved hW.alike hK⟩⟩ rfl rfl hl.1 rfl (lv_room (Nat.le_of_ble_eq_true rfl)) dMa_exchange_110 ⟨Nat.zero_le _, Nat.zero_le _⟩) hS (fun q _ h => hFc q h) hFc (fun u t H locs ht hvm hw hB hz8 hk8 hS => ?_)
        subst hw
        obtain ⟨hP1, hD1⟩ := hB
        rw [ht] at hP1
        obtain ⟨hP, hD⟩ := va_join (wr := [(h4, .inr (2, [.ref h5, .ref h2])), (h5, .inl (cL, 16, .inr (.inl rf)))]) (w1 := [(h2, .inr (1, [.ref h3])), (h3, .inl (cB, 4096, .inl ((f_Me_write mf ((f_Ma_x rf a0) + ((f_Fi_offset a0).toInt64)) (f_Fi_size a0) (f_Ex_become (f_Fi_immediate a0) (f_Me_read mf ((f_Ma_x rf a0) + ((f_Fi_offset a0).toInt64)) (f_Fi_size a0)) (f_Ma_y rf a0) true)))))]) hP hD [2, 3] [0, 1] rfl rfl (by decide) (by decide) hk8 hFc hP1 hD1
        have hP : va_P G vwCl [(h4, .inr (2, [.ref h5, .ref h2])), (h5, .inl (cL, 16, .inr (.inl rf))), (h2, .inr (1, [.ref h3])), (h3, .inl (cB, 4096, .inl ((f_Me_write mf ((f_Ma_x rf a0) + ((f_Fi_offset a0).toInt64)) (f_Fi_size a0) (f_Ex_become (f_Fi_immediate a0) (f_Me_read mf ((f_Ma_x rf a0) + ((f_Fi_offset a0).toInt64)) (f_Fi_size a0)) (f_Ma_y rf a0) true)))))] H := hP
        have hD : va_D A [(h4, .inr (2, [.ref h5, .ref h2])), (h5, .inl (cL, 16, .inr (.inl rf))), (h2, .inr (1, [.ref h3])), (h3, .inl (cB, 4096, .inl ((f_Me_write mf ((f_Ma_x rf a0) + ((f_Fi_offset a0).toInt64)) (f_Fi_size a0) (f_Ex_become (f_Fi_immediate a0) (f_Me_read mf ((f_Ma_x rf a0) + ((f_Fi_offset a0).toInt64)) (f_Fi_size a0)) (f_Ma_y rf a0) true)))))] := hD
        refine lv_iload hx hb dMa_exchange_113 (lv_at hl 3 rfl) ?_
        refine lv_sipush (v := (241 : Int32)) hx hb dMa_exchange_115 (by decide) ?_
        refine lv_icmp_ne (tgt := 132) hx hb dMa_exchange_118 (by decide) (fun c6 => ?_) (fun c6 => ?_)
        · skip
          refine lv_iload hx hb dMa_exchange_132 (lv_at hl 3 rfl) ?_
          refine va_calli (va_runS (As := [.int (f_Fi_immediate a0)]) (rest := []) ⟨hx, hb, hml, hown, hT⟩ (c_Ex_changesSource l H (f_Fi_immediate a0)) (va_cwS 1 hT (gB_SV mw_493 mw_174 mw_17 mw_175) rfl rfl rfl (by decide +kernel) ⟨Nat.le_of_ble_eq_true rfl, Nat.le_of_ble_eq_true rfl⟩) ⟨fun _ _ _ _ q => q, fun U hU hW => ⟨rfl, hU⟩⟩ rfl rfl hl.1 rfl (lv_room (Nat.le_of_ble_eq_true rfl)) dMa_exchange_134 ⟨Nat.zero_le _, Nat.zero_le _⟩) hS (fun _ _ h => h.elim) (fun _ h => h.elim) (fun r u t H1 locs ht hvm hw hB hz8 hk8 hS => ?_)
          obtain rfl : H = H1 := hB.symm.trans ht
          subst hw
          refine lv_if_eq (tgt := 151) hx hb dMa_exchange_137 (by decide) (fun c7 => ?_) (fun c7 => ?_)
          · have c7 := bI_z c7
            refine lv_iconst (v := (1 : Int32)) hx hb dMa_exchange_151 (by decide) ?_
            have hP9 := hP.sub (ws' := [(h4, .inr (2, [.ref h5, .ref h2])), (h5, .inl (cL, 16, .inr (.inl rf))), (h2, .inr (1, [.ref h3])), (h3, .inl (cB, 4096, .inl ((f_Me_write mf ((f_Ma_x rf a0) + ((f_Fi_offset a0).toInt64)) (f_Fi_size a0) (f_Ex_become (f_Fi_immediate a0) (f_Me_read mf ((f_Ma_x rf a0) + ((f_Fi_offset a0).toInt64)) (f_Fi_size a0)) (f_Ma_y rf a0) true)))))]) [0, 1, 2, 3] rfl
            have hD9 := hD.sub (ws' := [(h4, .inr (2, [.ref h5, .ref h2])), (h5, .inl (cL, 16, .inr (.inl rf))), (h2, .inr (1, [.ref h3])), (h3, .inl (cB, 4096, .inl ((f_Me_write mf ((f_Ma_x rf a0) + ((f_Fi_offset a0).toInt64)) (f_Fi_size a0) (f_Ex_become (f_Fi_immediate a0) (f_Me_read mf ((f_Ma_x rf a0) + ((f_Fi_offset a0).toInt64)) (f_Fi_size a0)) (f_Ma_y rf a0) true)))))]) [0, 1, 2, 3] (by decide) rfl
            exact W.zret (v := (1 : Int32)) hx hb hr rfl (fun t ht hW => ⟨⟨(1 : Int32), (rf, ((f_Me_write mf ((f_Ma_x rf a0) + ((f_Fi_offset a0).toInt64)) (f_Fi_size a0) (f_Ex_become (f_Fi_immediate a0) (f_Me_read mf ((f_Ma_x rf a0) + ((f_Fi_offset a0).toInt64)) (f_Fi_size a0)) (f_Ma_y rf a0) true)))), rfl, ⟨(by unfold f_Ma_exchange; rw [if_pos c1, if_pos c2, if_pos c3, if_neg c6, if_neg c7]; try rfl), (by unfold f_Ma_exchange; rw [if_pos c1, if_pos c2, if_pos c3, if_neg c6, if_neg c7]; try rfl)⟩, by rw [ht]; exact hP9, hD9⟩, hS.F ht⟩) hS.2.2 dMa_exchange_152
          · have c7 := bI_n c7
            refine lv_aload_n hx hb dMa_exchange_140 rfl (lv_at hl 5 rfl) ?_
            refine va_get (D := G) (ci := 2) (v := .ref h5) (C := RMa) (T := TMa) (N := 2) hx hb hT inMa hown hK hP 0 rfl rfl 0 (by decide) (hT _ mw_77) (fun _ h9 => h9) rfl dMa_exchange_141 ?_
            refine lv_lload_n hx hb dMa_exchange_144 rfl (lv_at hl 6 rfl) ?_
            refine va_calli (va_runS (As := [.long a0]) (rest := [.ref h5]) ⟨hx, hb, hml, hown, hT⟩ (c_Fi_source l H a0) (va_cwS 1 hT (gB_SV mw_469 mw_138 mw_16 mw_139) rfl rfl rfl (by decide +kernel) ⟨Nat.le_of_ble_eq_true rfl, Nat.le_of_ble_eq_true rfl⟩) ⟨fun _ _ _ _ q => q, fun U hU hW => ⟨rfl, hU⟩⟩ rfl rfl hl.1 rfl (lv_room (Nat.le_of_ble_eq_true rfl)) dMa_exchange_145 ⟨Nat.zero_le _, Nat.zero_le _⟩) hS (fun _ _ h => h.elim) (fun _ h => h.elim) (fun r u t H1 locs ht hvm hw hB hz8 hk8 hS => ?_)
            obtain rfl : H = H1 := hB.symm.trans ht
            subst hw
            refine lv_lload hx hb dMa_exchange_148 (lv_at hl 1 rfl) ?_
            refine va_last hx hb hK hP hD hS 1 1 rfl rfl (in_Fi_source a0) dMa_exchange_150 (fun H locs hP hD hS => ?_)
            have hP : va_P G vwCl [(h4, .inr (2, [.ref h5, .ref h2])), (h5, .inl (cL, 16, .inr (.inl (vp_updL rf (f_Fi_source a0).toNatClampNeg (f_Me_read mf ((f_Ma_x rf a0) + ((f_Fi_offset a0).toInt64)) (f_Fi_size a0)))))), (h2, .inr (1, [.ref h3])), (h3, .inl (cB, 4096, .inl ((f_Me_write mf ((f_Ma_x rf a0) + ((f_Fi_offset a0).toInt64)) (f_Fi_size a0) (f_Ex_become (f_Fi_immediate a0) (f_Me_read mf ((f_Ma_x rf a0) + ((f_Fi_offset a0).toInt64)) (f_Fi_size a0)) (f_Ma_y rf a0) true)))))] H := hP
            have hD : va_D A [(h4, .inr (2, [.ref h5, .ref h2])), (h5, .inl (cL, 16, .inr (.inl (vp_updL rf (f_Fi_source a0).toNatClampNeg (f_Me_read mf ((f_Ma_x rf a0) + ((f_Fi_offset a0).toInt64)) (f_Fi_size a0)))))), (h2, .inr (1, [.ref h3])), (h3, .inl (cB, 4096, .inl ((f_Me_write mf ((f_Ma_x rf a0) + ((f_Fi_offset a0).toInt64)) (f_Fi_size a0) (f_Ex_become (f_Fi_immediate a0) (f_Me_read mf ((f_Ma_x rf a0) + ((f_Fi_offset a0).toInt64)) (f_Fi_size a0)) (f_Ma_y rf a0) true)))))] := hD
            refine lv_iconst (v := (1 : Int32)) hx hb dMa_exchange_151 (by decide) ?_
            have hP9 := hP.sub (ws' := [(h4, .inr (2, [.ref h5, .ref h2])), (h5, .inl (cL, 16, .inr (.inl (vp_updL rf (f_Fi_source a0).toNatClampNeg (f_Me_read mf ((f_Ma_x rf a0) + ((f_Fi_offset a0).toInt64)) (f_Fi_size a0)))))), (h2, .inr (1, [.ref h3])), (h3, .inl (cB, 4096, .inl ((f_Me_write mf ((f_Ma_x rf a0) + ((f_Fi_offset a0).toInt64)) (f_Fi_size a0) (f_Ex_become (f_Fi_immediate a0) (f_Me_read mf ((f_Ma_x rf a0) + ((f_Fi_offset a0).toInt64)) (f_Fi_size a0)) (f_Ma_y rf a0) true)))))]) [0, 1, 2, 3] rfl
            have hD9 := hD.sub (ws' := [(h4, .inr (2, [.ref h5, .ref h2])), (h5, .inl (cL, 16, .inr (.inl (vp_updL rf (f_Fi_source a0).toNatClampNeg (f_Me_read mf ((f_Ma_x rf a0) + ((f_Fi_offset a0).toInt64)) (f_Fi_size a0)))))), (h2, .inr (1, [.ref h3])), (h3, .inl (cB, 4096, .inl ((f_Me_write mf ((f_Ma_x rf a0) + ((f_Fi_offset a0).toInt64)) (f_Fi_size a0) (f_Ex_become (f_Fi_immediate a0) (f_Me_read mf ((f_Ma_x rf a0) + ((f_Fi_offset a0).toInt64)) (f_Fi_size a0)) (f_Ma_y rf a0) true)))))]) [0, 1, 2, 3] (by decide) rfl
            exact W.zret (v := (1 : Int32)) hx hb hr rfl (fun t ht hW => ⟨⟨(1 : Int32), ((vp_updL rf (f_Fi_source a0).toNatClampNeg (f_Me_read mf ((f_Ma_x rf a0) + ((f_Fi_offset a0).toInt64)) (f_Fi_size a0))), ((f_Me_write mf ((f_Ma_x rf a0) + ((f_Fi_offset a0).toInt64)) (f_Fi_size a0) (f_Ex_become (f_Fi_immediate a0) (f_Me_read mf ((f_Ma_x rf a0) + ((f_Fi_offset a0).toInt64)) (f_Fi_size a0)) (f_Ma_y rf a0) true)))), rfl, ⟨(by unfold f_Ma_exchange; rw [if_pos c1, if_pos c2, if_pos c3, if_neg c6, if_pos c7]; try rfl), (by unfold f_Ma_exchange; rw [if_pos c1, if_pos c2, if_pos c3, if_neg c6, if_pos c7]; try rfl)⟩, by rw [ht]; exact hP9, hD9⟩, hS.F ht⟩) hS.2.2 dMa_exchange_152
        · skip
          refine lv_aload_n hx hb dMa_exchange_121 rfl (lv_at hl 5 rfl) ?_
          refine va_get (D := G) (ci := 2) (v := .ref h5) (C := RMa) (T := TMa) (N := 2) hx hb hT inMa hown hK hP 0 rfl rfl 0 (by decide) (hT _ mw_77) (fun _ h9 => h9) rfl dMa_exchange_122 ?_
          refine lv_iconst (v := (0 : Int32)) hx hb dMa_exchange_125 (by decide) ?_
          refine lv_lload hx hb dMa_exchange_126 (lv_at hl 1 rfl) ?_
          refine va_last hx hb hK hP hD hS 1 1 rfl rfl (by unfold vp_in; decide) dMa_exchange_128 (fun H locs hP hD hS => ?_)
          have hP : va_P G vwCl [(h4, .inr (2, [.ref h5, .ref h2])), (h5, .inl (cL, 16, .inr (.inl (vp_updL rf (0 : Int32).toNatClampNeg (f_Me_read mf ((f_Ma_x rf a0) + ((f_Fi_offset a0).toInt64)) (f_Fi_size a0)))))), (h2, .inr (1, [.ref h3])), (h3, .inl (cB, 4096, .inl ((f_Me_write mf ((f_Ma_x rf a0) + ((f_Fi_offset a0).toInt64)) (f_Fi_size a0) (f_Ex_become (f_Fi_immediate a0) (f_Me_read mf ((f_Ma_x rf a0) + ((f_Fi_offset a0).toInt64)) (f_Fi_size a0)) (f_Ma_y rf a0) true)))))] H := hP
          have hD : va_D A [(h4, .inr (2, [.ref h5, .ref h2])), (h5, .inl (cL, 16, .inr (.inl (vp_updL rf (0 : Int32).toNatClampNeg (f_Me_read mf ((f_Ma_x rf a0) + ((f_Fi_offset a0).toInt64)) (f_Fi_size a0)))))), (h2, .inr (1, [.ref h3])), (h3, .inl (cB, 4096, .inl ((f_Me_write mf ((f_Ma_x rf a0) + ((f_Fi_offset a0).toInt64)) (f_Fi_size a0) (f_Ex_become (f_Fi_immediate a0) (f_Me_read mf ((f_Ma_x rf a0) + ((f_Fi_offset a0).toInt64)) (f_Fi_size a0)) (f_Ma_y rf a0) true)))))] := hD
          refine lv_goto (tgt := 151) hx hb dMa_exchange_129 (by decide) ?_
          refine lv_iconst (v := (1 : Int32)) hx hb dMa_exchange_151 (by decide) ?_
          have hP9 := hP.sub (ws' := [(h4, .inr (2, [.ref h5, .ref h2])), (h5, .inl (cL, 16, .inr (.inl (vp_updL rf (0 : Int32).toNatClampNeg (f_Me_read mf ((f_Ma_x rf a0) + ((f_Fi_offset a0).toInt64)) (f_Fi_size a0)))))), (h2, .inr (1, [.ref h3])), (h3, .inl (cB, 4096, .inl ((f_Me_write mf ((f_Ma_x rf a0) + ((f_Fi_offset a0).toInt64)) (f_Fi_size a0) (f_Ex_become (f_Fi_immediate a0) (f_Me_read mf ((f_Ma_x rf a0) + ((f_Fi_offset a0).toInt64)) (f_Fi_size a0)) (f_Ma_y rf a0) true)))))]) [0, 1, 2, 3] rfl
          have hD9 := hD.sub (ws' := [(h4, .inr (2, [.ref h5, .ref h2])), (h5, .inl (cL, 16, .inr (.inl (vp_updL rf (0 : Int32).toNatClampNeg (f_Me_read mf ((f_Ma_x rf a0) + ((f_Fi_offset a0).toInt64)) (f_Fi_size a0)))))), (h2, .inr (1, [.ref h3])), (h3, .inl (cB, 4096, .inl ((f_Me_write mf ((f_Ma_x rf a0) + ((f_Fi_offset a0).toInt64)) (f_Fi_size a0) (f_Ex_become (f_Fi_immediate a0) (f_Me_read mf ((f_Ma_x rf a0) + ((f_Fi_offset a0).toInt64)) (f_Fi_size a0)) (f_Ma_y rf a0) true)))))]) [0, 1, 2, 3] (by decide) rfl
          exact W.zret (v := (1 : Int32)) hx hb hr rfl (fun t ht hW => ⟨⟨(1 : Int32), ((vp_updL rf (0 : Int32).toNatClampNeg (f_Me_read mf ((f_Ma_x rf a0) + ((f_Fi_offset a0).toInt64)) (f_Fi_size a0))), ((f_Me_write mf ((f_Ma_x rf a0) + ((f_Fi_offset a0).toInt64)) (f_Fi_size a0) (f_Ex_become (f_Fi_immediate a0) (f_Me_read mf ((f_Ma_x rf a0) + ((f_Fi_offset a0).toInt64)) (f_Fi_size a0)) (f_Ma_y rf a0) true)))), rfl, ⟨(by unfold f_Ma_exchange; rw [if_pos c1, if_pos c2, if_pos c3, if_pos c6]; try rfl), (by unfold f_Ma_exchange; rw [if_pos c1, if_pos c2, if_pos c3, if_pos c6]; try rfl)⟩, by rw [ht]; exact hP9, hD9⟩, hS.F ht⟩) hS.2.2 dMa_exchange_152
    · have c2 := mt (lg_cmp_eq _ _).mpr c2
      refine lv_iconst (v := (0 : Int32)) hx hb dMa_exchange_49 (by decide) ?_
      have hP9 := hP.sub (ws' := [(h4, .inr (2, [.ref h5, .ref h2])), (h5, .inl (cL, 16, .inr (.inl rf))), (h2, .inr (1, [.ref h3])), (h3, .inl (cB, 4096, .inl mf))]) [0, 1, 2, 3] rfl
      have hD9 := hD.sub (ws' := [(h4, .inr (2, [.ref h5, .ref h2])), (h5, .inl (cL, 16, .inr (.inl rf))), (h2, .inr (1, [.ref h3])), (h3, .inl (cB, 4096, .inl mf))]) [0, 1, 2, 3] (by decide) rfl
      exact W.zret (v := (0 : Int32)) hx hb hr rfl (fun t ht hW => ⟨⟨(0 : Int32), (rf, mf), rfl, ⟨(by unfold f_Ma_exchange; rw [if_pos c1, if_neg c2]; try rfl), (by unfold f_Ma_exchange; rw [if_pos c1, if_neg c2]; try rfl)⟩, by rw [ht]; exact hP9, hD9⟩, hS.F ht⟩) hS.2.2 dMa_exchange_50
