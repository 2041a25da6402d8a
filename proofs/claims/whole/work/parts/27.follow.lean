def f_Ma_jump (rf : Nat → Int64) (a0 : Int32) (a1 : Int64) : Int32 × (Nat → Int64) :=
  if (f_Fi_isExit a1) = true then
    ((-1 : Int32), rf)
  else
    if (f_Fi_isCall a1) = true then
      ((a0 + (1 : Int32)), ((f_Ma_answerCall rf (f_Fi_immediate a1))))
    else
      if (f_Fi_jumpsAlways a1) = true then
        (((f_Fi_jumpFrom a0 a1).toInt32), rf)
      else
        if (f_Ma_takesJump rf a1) = true then
          (((f_Fi_jumpFrom a0 a1).toInt32), rf)
        else
          ((a0 + (1 : Int32)), rf)
set_option maxHeartbeats 4000000 in
set_option maxRecDepth 100000 in
theorem c_Ma_jump (l : Launch) (G : va_G) (cB cL cI : ClassId) (Hp : Heap) (h4 : Nat) (h5 : Nat) (h2 : Nat) (rf : Nat → Int64) (a0 : Int32) (a1 : Int64) (hP : va_P G vwCl [(h4, .inr (2, [.ref h5, .ref h2])), (h5, .inl (cL, 16, .inr (.inl rf)))] Hp) (hD : va_D (fun _ => True) [(h4, .inr (2, [.ref h5, .ref h2])), (h5, .inl (cL, 16, .inr (.inl rf)))]) : Met l yMa_jump wsMa_jump ({ frames := 4, cells := 0, slots := 0, locals := 91 }) (va_Pc [.ref h4, .int a0, .long a1] (fun U => U.heap = Hp ∧ va_K G vwCl [(cB, .byte), (cL, .long), (cI, .int)] U)) (va_Qi (fun (r : Int32) (u : (Nat → Int64)) => (r, u) = (f_Ma_jump rf a0 a1)) (fun (u : (Nat → Int64)) t => va_P G vwCl [(h4, .inr (2, [.ref h5, .ref h2])), (h5, .inl (cL, 16, .inr (.inl (u))))] t.heap ∧ va_D (va_A [(h4, .inr (2, [.ref h5, .ref h2])), (h5, .inl (cL, 16, .inr (.inl rf)))] Hp.size) [(h4, .inr (2, [.ref h5, .ref h2])), (h5, .inl (cL, 16, .inr (.inl (u))))]) (va_A [(h4, .inr (2, [.ref h5, .ref h2])), (h5, .inl (cL, 16, .inr (.inl rf)))] Hp.size)) 0 0 (va_A [(h4, .inr (2, [.ref h5, .ref h2])), (h5, .inl (cL, 16, .inr (.inl rf)))] Hp.size) := by
  refine Met.ofW (cc := cMa_jump) (maxL := 4) (ret := (some .int)) (by decide) rfl ?_
  intro p e s m args below meth c s₁ B hml hv
  obtain ⟨rfl, rfl, hK⟩ := hv
  have hx := B.exec
  have hb := B.bytes
  have hr := B.returns
  have hT : ∀ w ∈ tB, w.before _ s = true := fun w h => atoms_spec (ws := wsMa_jump) B.pre w (List.mem_cons_of_mem _ h)
  have hown : s.vm.findClass "CompiledProgram$Machine" = some m.cls := findClass_of_methodNamed B.named
  have hlocks := B.notSynchronized
  have hD := hD.self (sz := s.heap.size)
  generalize hAe : va_A [(h4, .inr (2, [.ref h5, .ref h2])), (h5, .inl (cL, 16, .inr (.inl rf)))] s.heap.size = A at hD ⊢
  have hA : ∀ q : Nat, s.heap.size ≤ q → A q := fun q h => by rw [← hAe]; exact Or.inr h
  have hS : va_S A s.heap s.heap [] := va_S.rf
  have hl := lv_entry ([.ref h4, .int a0, .long a1]) (n := 4) (Nat.le_of_ble_eq_true rfl)
  rw [lg_entry_eq]
  generalize (lg_sl ([.ref h4, .int a0, .long a1]) ++ List.replicate (4 - (lg_sl ([.ref h4, .int a0, .long a1])).length) Slot.unset).toArray = ls at hl ⊢
  have hl : lv_has ls 4 [(0, .ref h4), (1, .int a0), (2, .long a1)] := hl
  refine lv_lload_n hx hb dMa_jump_0 rfl (lv_at hl 2 rfl) ?_
  refine va_calli (va_runS (As := [.long a1]) (rest := []) ⟨hx, hb, hml, hown, hT⟩ (c_Fi_isExit l s.heap a1) (va_cwS 1 hT (gB_SV mw_498 mw_221 mw_16 mw_222) rfl rfl rfl (by decide +kernel) ⟨Nat.le_of_ble_eq_true rfl, Nat.le_of_ble_eq_true rfl⟩) ⟨fun _ _ _ _ q => q, fun U hU hW => ⟨rfl, hU⟩⟩ rfl rfl hl.1 rfl (lv_room (Nat.le_of_ble_eq_true rfl)) dMa_jump_1 ⟨Nat.zero_le _, Nat.zero_le _⟩) hS (fun _ _ h => h.elim) (fun _ h => h.elim) (fun r u t H1 locs ht hvm hw hB hz8 hk8 hS => ?_)
  obtain rfl : s.heap = H1 := hB.symm.trans ht
  subst hw
  refine lv_if_eq (tgt := 9) hx hb dMa_jump_4 (by decide) (fun c1 => ?_) (fun c1 => ?_)
  · have c1 := bI_z c1
    refine lv_lload_n hx hb dMa_jump_9 rfl (lv_at hl 2 rfl) ?_
    refine va_calli (va_runS (As := [.long a1]) (rest := []) ⟨hx, hb, hml, hown, hT⟩ (c_Fi_isCall l s.heap a1) (va_cwS 1 hT (gB_SV mw_499 mw_500 mw_16 mw_501) rfl rfl rfl (by decide +kernel) ⟨Nat.le_of_ble_eq_true rfl, Nat.le_of_ble_eq_true rfl⟩) ⟨fun _ _ _ _ q => q, fun U hU hW => ⟨rfl, hU⟩⟩ rfl rfl hl.1 rfl (lv_room (Nat.le_of_ble_eq_true rfl)) dMa_jump_10 ⟨Nat.zero_le _, Nat.zero_le _⟩) hS (fun _ _ h => h.elim) (fun _ h => h.elim) (fun r u t H1 locs ht hvm hw hB hz8 hk8 hS => ?_)
    obtain rfl : s.heap = H1 := hB.symm.trans ht
    subst hw
    refine lv_if_eq (tgt := 28) hx hb dMa_jump_13 (by decide) (fun c2 => ?_) (fun c2 => ?_)
    · have c2 := bI_z c2
      refine lv_lload_n hx hb dMa_jump_28 rfl (lv_at hl 2 rfl) ?_
      refine va_calli (va_runS (As := [.long a1]) (rest := []) ⟨hx, hb, hml, hown, hT⟩ (c_Fi_jumpsAlways l s.heap a1) (va_cwS 1 hT (gB_SV mw_507 mw_224 mw_16 mw_225) rfl rfl rfl (by decide +kernel) ⟨Nat.le_of_ble_eq_true rfl, Nat.le_of_ble_eq_true rfl⟩) ⟨fun _ _ _ _ q => q, fun U hU hW => ⟨rfl, hU⟩⟩ rfl rfl hl.1 rfl (lv_room (Nat.le_of_ble_eq_true rfl)) dMa_jump_29 ⟨Nat.zero_le _, Nat.zero_le _⟩) hS (fun _ _ h => h.elim) (fun _ h => h.elim) (fun r u t H1 locs ht hvm hw hB hz8 hk8 hS => ?_)
      obtain rfl : s.heap = H1 := hB.symm.trans ht
      subst hw
      refine lv_if_ne (tgt := 43) hx hb dMa_jump_32 (by decide) (fun c3 => ?_) (fun c3 => ?_)
      · have c3 := bI_n c3
        refine lv_iload_n hx hb dMa_jump_43 rfl (lv_at hl 1 rfl) ?_
        refine lv_lload_n hx hb dMa_jump_44 rfl (lv_at hl 2 rfl) ?_
        refine va_calll (va_runS (As := [.int a0, .long a1]) (rest := []) ⟨hx, hb, hml, hown, hT⟩ (c_Fi_jumpFrom l s.heap a0 a1) (va_cwS 2 hT (gB_SV mw_522 mw_227 mw_16 mw_228) rfl rfl rfl (by decide +kernel) ⟨Nat.le_of_ble_eq_true rfl, Nat.le_of_ble_eq_true rfl⟩) ⟨fun _ _ _ _ q => q, fun U hU hW => ⟨rfl, hU⟩⟩ rfl rfl hl.1 rfl (lv_room (Nat.le_of_ble_eq_true rfl)) dMa_jump_45 ⟨Nat.zero_le _, Nat.zero_le _⟩) hS (fun _ _ h => h.elim) (fun _ h => h.elim) (fun r u t H1 locs ht hvm hw hB hz8 hk8 hS => ?_)
        obtain rfl : s.heap = H1 := hB.symm.trans ht
        subst hw
        refine lv_l2i hx hb dMa_jump_48 rfl ?_
        refine lv_goto (tgt := 55) hx hb dMa_jump_49 (by decide) ?_
        have hP9 := hP.sub (ws' := [(h4, .inr (2, [.ref h5, .ref h2])), (h5, .inl (cL, 16, .inr (.inl rf)))]) [0, 1] rfl
        have hD9 := hD.sub (ws' := [(h4, .inr (2, [.ref h5, .ref h2])), (h5, .inl (cL, 16, .inr (.inl rf)))]) [0, 1] (by decide) rfl
        exact W.iret (v := ((f_Fi_jumpFrom a0 a1).toInt32)) hx hb hr (fun t ht hW => ⟨⟨((f_Fi_jumpFrom a0 a1).toInt32), (rf), rfl, (by unfold f_Ma_jump; rw [if_neg c1, if_neg c2, if_pos c3]; try rfl), by rw [ht]; exact hP9, hD9⟩, hS.F ht⟩) hS.2.2 dMa_jump_55
      · have c3 := bI_z c3
        refine lv_aload_n hx hb dMa_jump_35 rfl (lv_at hl 0 rfl) ?_
        refine lv_lload_n hx hb dMa_jump_36 rfl (lv_at hl 2 rfl) ?_
        have hPc := hP.sub (ws' := [(h4, .inr (2, [.ref h5, .ref h2])), (h5, .inl (cL, 16, .inr (.inl rf)))]) [0, 1] rfl
        refine va_calli (va_runV (As := [.long a1]) (rest := []) ⟨hx, hb, hml, hown, hT⟩ (c_Ma_takesJump l G cB cL cI s.heap h4 h5 h2 rf a1 hPc ) (cwV 1 hT (gB_V mw_508 mw_509 mw_510 mw_4 mw_511) rfl rfl rfl (by decide +kernel) ⟨Nat.le_of_ble_eq_true rfl, Nat.le_of_ble_eq_true rfl⟩) ⟨fun a U g mk q => ⟨q.1, q.2.1, va_K.moved (u := U) (U := U.calling g mk a) (Vm.Alike.refl U.vm) q.2.2⟩, va_recv hK hPc (ci := 2) (q0 := 0) rfl rfl, fun U hU hW => ⟨rfl, hU, va_K.moved hW.alike hK⟩⟩ rfl rfl hl.1 rfl (lv_room (Nat.le_of_ble_eq_true rfl)) dMa_jump_37 ⟨Nat.zero_le _, Nat.zero_le _⟩) hS (fun _ _ h => h.elim) (fun _ h => h.elim) (fun r u t H1 locs ht hvm hw hB hz8 hk8 hS => ?_)
        obtain rfl : s.heap = H1 := hB.symm.trans ht
        subst hw
        refine lv_if_eq (tgt := 52) hx hb dMa_jump_40 (by decide) (fun c4 => ?_) (fun c4 => ?_)
        · have c4 := bI_z c4
          refine lv_iload_n hx hb dMa_jump_52 rfl (lv_at hl 1 rfl) ?_
          refine lv_iconst (v := (1 : Int32)) hx hb dMa_jump_53 (by decide) ?_
          refine lv_iadd hx hb dMa_jump_54 ?_
          have hP9 := hP.sub (ws' := [(h4, .inr (2, [.ref h5, .ref h2])), (h5, .inl (cL, 16, .inr (.inl rf)))]) [0, 1] rfl
          have hD9 := hD.sub (ws' := [(h4, .inr (2, [.ref h5, .ref h2])), (h5, .inl (cL, 16, .inr (.inl rf)))]) [0, 1] (by decide) rfl
          exact W.iret (v := (a0 + (1 : Int32))) hx hb hr (fun t ht hW => ⟨⟨(a0 + (1 : Int32)), (rf), rfl, (by unfold f_Ma_jump; rw [if_neg c1, if_neg c2, if_neg c3, if_neg c4]; try rfl), by rw [ht]; exact hP9, hD9⟩, hS.F ht⟩) hS.2.2 dMa_jump_55
        · have c4 := bI_n c4
          refine lv_iload_n hx hb dMa_jump_43 rfl (lv_at hl 1 rfl) ?_
          refine lv_lload_n hx hb dMa_jump_44 rfl (lv_at hl 2 rfl) ?_
          refine va_calll (va_runS (As := [.int a0, .long a1]) (rest := []) ⟨hx, hb, hml, hown, hT⟩ (c_Fi_jumpFrom l s.heap a0 a1) (va_cwS 2 hT (gB_SV mw_522 mw_227 mw_16 mw_228) rfl rfl rfl (by decide +kernel) ⟨Nat.le_of_ble_eq_true rfl, Nat.le_of_ble_eq_true rfl⟩) ⟨fun _ _ _ _ q => q, fun U hU hW => ⟨rfl, hU⟩⟩ rfl rfl hl.1 rfl (lv_room (Nat.le_of_ble_eq_true rfl)) dMa_jump_45 ⟨Nat.zero_le _, Nat.zero_le _⟩) hS (fun _ _ h => h.elim) (fun _ h => h.elim) (fun r u t H1 locs ht hvm hw hB hz8 hk8 hS => ?_)
          obtain rfl : s.heap = H1 := hB.symm.trans ht
          subst hw
          refine lv_l2i hx hb dMa_jump_48 rfl ?_
          refine lv_goto (tgt := 55) hx hb dMa_jump_49 (by decide) ?_
          have hP9 := hP.sub (ws' := [(h4, .inr (2, [.ref h5, .ref h2])), (h5, .inl (cL, 16, .inr (.inl rf)))]) [0, 1] rfl
          have hD9 := hD.sub (ws' := [(h4, .inr (2, [.ref h5, .ref h2])), (h5, .inl (cL, 16, .inr (.inl rf)))]) [0, 1] (by decide) rfl
          exact W.iret (v := ((f_Fi_jumpFrom a0 a1).toInt32)) hx hb hr (fun t ht hW => ⟨⟨((f_Fi_jumpFrom a0 a1).toInt32), (rf), rfl, (by unfold f_Ma_jump; rw [if_neg c1, if_neg c2, if_neg c3, if_pos c4]; try rfl), by rw [ht]; exact hP9, hD9⟩, hS.F ht⟩) hS.2.2 dMa_jump_55
    · have c2 := bI_n c2
      refine lv_aload_n hx hb dMa_jump_16 rfl (lv_at hl 0 rfl) ?_
      refine lv_lload_n hx hb dMa_jump_17 rfl (lv_at hl 2 rfl) ?_
      refine va_calli (va_runS (As := [.long a1]) (rest := [.ref h4]) ⟨hx, hb, hml, hown, hT⟩ (c_Fi_immediate l s.heap a1) (va_cwS 1 hT (gB_SV mw_455 mw_153 mw_16 mw_154) rfl rfl rfl (by decide +kernel) ⟨Nat.le_of_ble_eq_true rfl, Nat.le_of_ble_eq_true rfl⟩) ⟨fun _ _ _ _ q => q, fun U hU hW => ⟨rfl, hU⟩⟩ rfl rfl hl.1 rfl (lv_room (Nat.le_of_ble_eq_true rfl)) dMa_jump_18 ⟨Nat.zero_le _, Nat.zero_le _⟩) hS (fun _ _ h => h.elim) (fun _ h => h.elim) (fun r u t H1 locs ht hvm hw hB hz8 hk8 hS => ?_)
      obtain rfl : s.heap = H1 := hB.symm.trans ht
      subst hw
      have hPc := hP.sub (ws' := [(h4, .inr (2, [.ref h5, .ref h2])), (h5, .inl (cL, 16, .inr (.inl rf)))]) [0, 1] rfl
      have hDc := hD.sub (ws' := [(h4, .inr (2, [.ref h5, .ref h2])), (h5, .inl (cL, 16, .inr (.inl rf)))]) [0, 1] (by decide) rfl
      have hFc := va_free (wc := [(h4, .inr (2, [.ref h5, .ref h2])), (h5, .inl (cL, 16, .inr (.inl rf)))]) hD hS hA [0, 1] rfl
      refine va_callv (va_runV (As := [.int (f_Fi_immediate a1)]) (rest := []) ⟨hx, hb, hml, hown, hT⟩ (c_Ma_answerCall l G cB cL cI s.heap h4 h5 h2 rf (f_Fi_immediate a1) hPc (hDc.weaken (fun _ _ _ _ => trivial))) (cwV 1 hT (gB_V mw_502 mw_503 mw_504 mw_4 mw_505) rfl rfl rfl (by decide +kernel) ⟨Nat.le_of_ble_eq_true rfl, Nat.le_of_ble_eq_true rfl⟩) ⟨fun a U g mk q => ⟨q.1, q.2.1, va_K.moved (u := U) (U := U.calling g mk a) (Vm.Alike.refl U.vm) q.2.2⟩, va_recv hK hPc (ci := 2) (q0 := 0) rfl rfl, fun U hU hW => ⟨rfl, hU, va_K.moved hW.alike hK⟩⟩ rfl rfl hl.1 rfl (lv_room (Nat.le_of_ble_eq_true rfl)) dMa_jump_21 ⟨Nat.zero_le _, Nat.zero_le _⟩) hS (fun q _ h => hFc q h) hFc (fun u t H locs ht hvm hw hB hz8 hk8 hS => ?_)
      subst hw
      obtain ⟨hP1, hD1⟩ := hB
      rw [ht] at hP1
      obtain ⟨hP, hD⟩ := va_join (wr := []) (w1 := [(h4, .inr (2, [.ref h5, .ref h2])), (h5, .inl (cL, 16, .inr (.inl ((f_Ma_answerCall rf (f_Fi_immediate a1))))))]) hP hD [0, 1] [] rfl rfl (by decide) (by decide) hk8 hFc hP1 hD1
      have hP : va_P G vwCl [(h4, .inr (2, [.ref h5, .ref h2])), (h5, .inl (cL, 16, .inr (.inl ((f_Ma_answerCall rf (f_Fi_immediate a1))))))] H := hP
      have hD : va_D A [(h4, .inr (2, [.ref h5, .ref h2])), (h5, .inl (cL, 16, .inr (.inl ((f_Ma_answerCall rf (f_Fi_immediate a1))))))] := hD
      refine lv_iload_n hx hb dMa_jump_24 rfl (lv_at hl 1 rfl) ?_
      refine lv_iconst (v := (1 : Int32)) hx hb dMa_jump_25 (by decide) ?_
      refine lv_iadd hx hb dMa_jump_26 ?_
      have hP9 := hP.sub (ws' := [(h4, .inr (2, [.ref h5, .ref h2])), (h5, .inl (cL, 16, .inr (.inl ((f_Ma_answerCall rf (f_Fi_immediate a1))))))]) [0, 1] rfl
      have hD9 := hD.sub (ws' := [(h4, .inr (2, [.ref h5, .ref h2])), (h5, .inl (cL, 16, .inr (.inl ((f_Ma_answerCall rf (f_Fi_immediate a1))))))]) [0, 1] (by decide) rfl
      exact W.iret (v := (a0 + (1 : Int32))) hx hb hr (fun t ht hW => ⟨⟨(a0 + (1 : Int32)), (((f_Ma_answerCall rf (f_Fi_immediate a1)))), rfl, (by unfold f_Ma_jump; rw [if_neg c1, if_pos c2]; try rfl), by rw [ht]; exact hP9, hD9⟩, hS.F ht⟩) hS.2.2 dMa_jump_27
  · have c1 := bI_n c1
    refine lv_iconst (v := (-1 : Int32)) hx hb dMa_jump_7 (by decide) ?_
    have hP9 := hP.sub (ws' := [(h4, .inr (2, [.ref h5, .ref h2])), (h5, .inl (cL, 16, .inr (.inl rf)))]) [0, 1] rfl
    have hD9 := hD.sub (ws' := [(h4, .inr (2, [.ref h5, .ref h2])), (h5, .inl (cL, 16, .inr (.inl rf)))]) [0, 1] (by decide) rfl
    exact W.iret (v := (-1 : Int32)) hx hb hr (fun t ht hW => ⟨⟨(-1 : Int32), (rf), rfl, (by unfold f_Ma_jump; rw [if_pos c1]; try rfl), by rw [ht]; exact hP9, hD9⟩, hS.F ht⟩) hS.2.2 dMa_jump_8

def f_Ma_follow (rf : Nat → Int64) (mf : Nat → Int32) (pf : Nat → Int64) (cnt : Int32) (a1 : Int32) : Int32 × (Nat → Int64) × (Nat → Int32) :=
  if (f_Fi_kind (f_Pr_at pf cnt a1)) = (0 : Int32) then
    ((a1 + (2 : Int32)), ((f_Ma_takeTwoPlaces rf (f_Pr_at pf cnt a1) (f_Pr_at pf cnt (a1 + (1 : Int32))))), mf)
  else
    if (f_Fi_kind (f_Pr_at pf cnt a1)) = (1 : Int32) then
      if (f_Ma_read rf mf (f_Pr_at pf cnt a1)).1 = true then
        ((a1 + (1 : Int32)), ((f_Ma_read rf mf (f_Pr_at pf cnt a1)).2), mf)
      else
        ((-2 : Int32), ((f_Ma_read rf mf (f_Pr_at pf cnt a1)).2), mf)
    else
      if (f_Fi_kind (f_Pr_at pf cnt a1)) = (2 : Int32) then
        if (f_Ma_write rf mf (f_Pr_at pf cnt a1) ((f_Fi_immediate (f_Pr_at pf cnt a1)).toInt64)).1 = true then
          ((a1 + (1 : Int32)), rf, ((f_Ma_write rf mf (f_Pr_at pf cnt a1) ((f_Fi_immediate (f_Pr_at pf cnt a1)).toInt64)).2))
        else
          ((-2 : Int32), rf, ((f_Ma_write rf mf (f_Pr_at pf cnt a1) ((f_Fi_immediate (f_Pr_at pf cnt a1)).toInt64)).2))
      else
        if (f_Fi_kind (f_Pr_at pf cnt a1)) = (3 : Int32) then
          if (f_Fi_mode (f_Pr_at pf cnt a1)) = (6 : Int32) then
            if (f_Ma_exchange rf mf (f_Pr_at pf cnt a1)).1 = true then
              ((a1 + (1 : Int32)), ((f_Ma_exchange rf mf (f_Pr_at pf cnt a1)).2.1), ((f_Ma_exchange rf mf (f_Pr_at pf cnt a1)).2.2))
            else
              ((-2 : Int32), ((f_Ma_exchange rf mf (f_Pr_at pf cnt a1)).2.1), ((f_Ma_exchange rf mf (f_Pr_at pf cnt a1)).2.2))
          else
            if (f_Ma_write rf mf (f_Pr_at pf cnt a1) (f_Ma_y rf (f_Pr_at pf cnt a1))).1 = true then
              ((a1 + (1 : Int32)), rf, ((f_Ma_write rf mf (f_Pr_at pf cnt a1) (f_Ma_y rf (f_Pr_at pf cnt a1))).2))
            else
              ((-2 : Int32), rf, ((f_Ma_write rf mf (f_Pr_at pf cnt a1) (f_Ma_y rf (f_Pr_at pf cnt a1))).2))
        else
          if (f_Fi_kind (f_Pr_at pf cnt a1)) = (4 : Int32) then
            ((a1 + (1 : Int32)), (vp_updL rf (f_Fi_target (f_Pr_at pf cnt a1)).toNatClampNeg (f_Ma_computed rf (f_Pr_at pf cnt a1))), mf)
          else
            if (f_Fi_kind (f_Pr_at pf cnt a1)) = (5 : Int32) then
              ((f_Ma_jump rf a1 (f_Pr_at pf cnt a1)).1, ((f_Ma_jump rf a1 (f_Pr_at pf cnt a1)).2), mf)
            else
              if (f_Fi_kind (f_Pr_at pf cnt a1)) = (6 : Int32) then
                ((f_Ma_jump rf a1 (f_Pr_at pf cnt a1)).1, ((f_Ma_jump rf a1 (f_Pr_at pf cnt a1)).2), mf)
              else
                ((a1 + (1 : Int32)), (vp_updL rf (f_Fi_target (f_Pr_at pf cnt a1)).toNatClampNeg (f_Ma_computed rf (f_Pr_at pf cnt a1))), mf)
set_option maxHeartbeats 4000000 in
set_option maxRecDepth 100000 in
theorem c_Ma_follow (l : Launch) (G : va_G) (cB cL cI : ClassId) (Hp : Heap) (h4 : Nat) (h5 : Nat) (rf : Nat → Int64) (h2 : Nat) (h3 : Nat) (mf : Nat → Int32) (h0 : Nat) (h1 : Nat) (pn : Nat) (pf : Nat → Int64) (cnt : Int32) (a1 : Int32) (hP : va_P G vwCl [(h4, .inr (2, [.ref h5, .ref h2])), (h5, .inl (cL, 16, .inr (.inl rf))), (h2, .inr (1, [.ref h3])), (h3, .inl (cB, 4096, .inl mf)), (h0, .inr (0, [.ref h1, .int cnt])), (h1, .inl (cL, pn, .inr (.inl pf)))] Hp) (hD : va_D (fun _ => True) [(h4, .inr (2, [.ref h5, .ref h2])), (h5, .inl (cL, 16, .inr (.inl rf))), (h2, .inr (1, [.ref h3])), (h3, .inl (cB, 4096, .inl mf)), (h0, .inr (0, [.ref h1, .int cnt])), (h1, .inl (cL, pn, .inr (.inl pf)))]) (hc : cnt.toInt ≤ pn) : Met l yMa_follow wsMa_follow ({ frames := 6, cells := 0, slots := 0, locals := 146 }) (va_Pc [.ref h4, .ref h0, .int a1] (fun U => U.heap = Hp ∧ va_K G vwCl [(cB, .byte), (cL, .long), (cI, .int)] U)) (va_Qi (fun (r : Int32) (u : (Nat → Int64) × (Nat → Int32)) => (r, u) = (f_Ma_follow rf mf pf cnt a1)) (fun (u : (Nat → Int64) × (Nat → Int32)) t => va_P G vwCl [(h4, .inr (2, [.ref h5, .ref h2])), (h5, .inl (cL, 16, .inr (.inl (u.1)))), (h2, .inr (1, [.ref h3])), (h3, .inl (cB, 4096, .inl (u.2))), (h0, .inr (0, [.ref h1, .int cnt])), (h1, .inl (cL, pn, .inr (.inl pf)))] t.heap ∧ va_D (va_A [(h4, .inr (2, [.ref h5, .ref h2])), (h5, .inl (cL, 16, .inr (.inl rf))), (h2, .inr (1, [.ref h3])), (h3, .inl (cB, 4096, .inl mf)), (h0, .inr (0, [.ref h1, .int cnt])), (h1, .inl (cL, pn, .inr (.inl pf)))] Hp.size) [(h4, .inr (2, [.ref h5, .ref h2])), (h5, .inl (cL, 16, .inr (.inl (u.1)))), (h2, .inr (1, [.ref h3])), (h3, .inl (cB, 4096, .inl (u.2))), (h0, .inr (0, [.ref h1, .int cnt])), (h1, .inl (cL, pn, .inr (.inl pf)))]) (va_A [(h4, .inr (2, [.ref h5, .ref h2])), (h5, .inl (cL, 16, .inr (.inl rf))), (h2, .inr (1, [.ref h3])), (h3, .inl (cB, 4096, .inl mf)), (h0, .inr (0, [.ref h1, .int cnt])), (h1, .inl (cL, pn, .inr (.inl pf)))] Hp.size)) 0 0 (va_A [(h4, .inr (2, [.ref h5, .ref h2])), (h5, .inl (cL, 16, .inr (.inl rf))), (h2, .inr (1, [.ref h3])), (h3, .inl (cB, 4096, .inl mf)), (h0, .inr (0, [.ref h1, .int cnt])), (h1, .inl (cL, pn, .inr (.inl pf)))] Hp.size) := by
  refine Met.ofW (cc := cMa_follow) (maxL := 5) (ret := (some .int)) (by decide) rfl ?_
  intro p e s m args below meth c s₁ B hml hv
  obtain ⟨rfl, rfl, hK⟩ := hv
  have hx := B.exec
  have hb := B.bytes
  have hr := B.returns
  have hT : ∀ w ∈ tB, w.before _ s = true := fun w h => atoms_spec (ws := wsMa_follow) B.pre w (List.mem_cons_of_mem _ h)
  have hown : s.vm.findClass "CompiledProgram$Machine" = some m.cls := findClass_of_methodNamed B.named
  have hlocks := B.notSynchronized
  have hD := hD.self (sz := s.heap.size)
  generalize hAe : va_A [(h4, .inr (2, [.ref h5, .ref h2])), (h5, .inl (cL, 16, .inr (.inl rf))), (h2, .inr (1, [.ref h3])), (h3, .inl (cB, 4096, .inl mf)), (h0, .inr (0, [.ref h1, .int cnt])), (h1, .inl (cL, pn, .inr (.inl pf)))] s.heap.size = A at hD ⊢
  have hA : ∀ q : Nat, s.heap.size ≤ q → A q := fun q h => by rw [← hAe]; exact Or.inr h
  have hS : va_S A s.heap s.heap [] := va_S.rf
  have hl := lv_entry ([.ref h4, .ref h0, .int a1]) (n := 5) (Nat.le_of_ble_eq_true rfl)
  rw [lg_entry_eq]
  generalize (lg_sl ([.ref h4, .ref h0, .int a1]) ++ List.replicate (5 - (lg_sl ([.ref h4, .ref h0, .int a1])).length) Slot.unset).toArray = ls at hl ⊢
  have hl : lv_has ls 5 [(0, .ref h4), (1, .ref h0), (2, .int a1)] := hl
  refine lv_aload_n hx hb dMa_follow_0 rfl (lv_at hl 1 rfl) ?_
  refine lv_iload_n hx hb dMa_follow_1 rfl (lv_at hl 2 rfl) ?_
  have hPc := hP.sub (ws' := [(h0, .inr (0, [.ref h1, .int cnt])), (h1, .inl (cL, pn, .inr (.inl pf)))]) [4, 5] rfl
  refine va_calll (va_runV (As := [.int a1]) (rest := []) ⟨hx, hb, hml, hown, hT⟩ (c_Pr_at l G cB cL cI s.heap h0 h1 pn pf cnt a1 hPc hc) (cwV 1 hT (gB_V mw_449 mw_121 mw_122 mw_3 mw_123) rfl rfl rfl (by decide +kernel) ⟨Nat.le_of_ble_eq_true rfl, Nat.le_of_ble_eq_true rfl⟩) ⟨fun a U g mk q => ⟨q.1, q.2.1, va_K.moved (u := U) (U := U.calling g mk a) (Vm.Alike.refl U.vm) q.2.2⟩, va_recv hK hPc (ci := 0) (q0 := 0) rfl rfl, fun U hU hW => ⟨rfl, hU, va_K.moved hW.alike hK⟩⟩ rfl rfl hl.1 rfl (lv_room (Nat.le_of_ble_eq_true rfl)) dMa_follow_2 ⟨Nat.zero_le _, Nat.zero_le _⟩) hS (fun _ _ h => h.elim) (fun _ h => h.elim) (fun r u t H1 locs ht hvm hw hB hz8 hk8 hS => ?_)
  obtain rfl : s.heap = H1 := hB.symm.trans ht
  subst hw
  refine lv_lstore_n (lv' := [(3, .long (f_Pr_at pf cnt a1)), (0, .ref h4), (1, .ref h0), (2, .int a1)]) hx hb dMa_follow_5 rfl hl (by decide) rfl (fun ls hl => ?_)
  refine lv_lload_n hx hb dMa_follow_6 rfl (lv_at hl 0 rfl) ?_
  refine va_calli (va_runS (As := [.long (f_Pr_at pf cnt a1)]) (rest := []) ⟨hx, hb, hml, hown, hT⟩ (c_Fi_kind l s.heap (f_Pr_at pf cnt a1)) (va_cwS 1 hT (gB_SV mw_450 mw_132 mw_16 mw_133) rfl rfl rfl (by decide +kernel) ⟨Nat.le_of_ble_eq_true rfl, Nat.le_of_ble_eq_true rfl⟩) ⟨fun _ _ _ _ q => q, fun U hU hW => ⟨rfl, hU⟩⟩ rfl rfl hl.1 rfl (lv_room (Nat.le_of_ble_eq_true rfl)) dMa_follow_7 ⟨Nat.zero_le _, Nat.zero_le _⟩) hS (fun _ _ h => h.elim) (fun _ h => h.elim) (fun r u t H1 locs ht hvm hw hB hz8 hk8 hS => ?_)
  obtain rfl : s.heap = H1 := hB.symm.trans ht
  subst hw
  by_cases c1 : (f_Fi_kind (f_Pr_at pf cnt a1)) = (0 : Int32)
  · skip
    refine lv_tableIn (tgt := 52) (off := 42) hx hb dMa_follow_10 (by rw [c1]; decide) (by rw [c1]; decide) (by rw [c1]; rfl) (by decide) ?_
    refine lv_aload_n hx hb dMa_follow_52 rfl (lv_at hl 1 rfl) ?_
    refine lv_lload_n hx hb dMa_follow_53 rfl (lv_at hl 0 rfl) ?_
    refine lv_aload_n hx hb dMa_follow_54 rfl (lv_at hl 2 rfl) ?_
    refine lv_iload_n hx hb dMa_follow_55 rfl (lv_at hl 3 rfl) ?_
    refine lv_iconst (v := (1 : Int32)) hx hb dMa_follow_56 (by decide) ?_
    refine lv_iadd hx hb dMa_follow_57 ?_
    have hPc := hP.sub (ws' := [(h0, .inr (0, [.ref h1, .int cnt])), (h1, .inl (cL, pn, .inr (.inl pf)))]) [4, 5] rfl
    refine va_calll (va_runV (As := [.int (a1 + (1 : Int32))]) (rest := [.long (f_Pr_at pf cnt a1), .ref h4]) ⟨hx, hb, hml, hown, hT⟩ (c_Pr_at l G cB cL cI s.heap h0 h1 pn pf cnt (a1 + (1 : Int32)) hPc hc) (cwV 1 hT (gB_V mw_449 mw_121 mw_122 mw_3 mw_123) rfl rfl rfl (by decide +kernel) ⟨Nat.le_of_ble_eq_true rfl, Nat.le_of_ble_eq_true rfl⟩) ⟨fun a U g mk q => ⟨q.1, q.2.1, va_K.moved (u := U) (U := U.calling g mk a) (Vm.Alike.refl U.vm) q.2.2⟩, va_recv hK hPc (ci := 0) (q0 := 0) rfl rfl, fun U hU hW => ⟨rfl, hU, va_K.moved hW.alike hK⟩⟩ rfl rfl hl.1 rfl (lv_room (Nat.le_of_ble_eq_true rfl)) dMa_follow_58 ⟨Nat.zero_le _, Nat.zero_le _⟩) hS (fun _ _ h => h.elim) (fun _ h => h.elim) (fun r u t H1 locs ht hvm hw hB hz8 hk8 hS => ?_)
    obtain rfl : s.heap = H1 := hB.symm.trans ht
    subst hw
    have hPc := hP.sub (ws' := [(h4, .inr (2, [.ref h5, .ref h2])), (h5, .inl (cL, 16, .inr (.inl rf)))]) [0, 1] rfl
    have hDc := hD.sub (ws' := [(h4, .inr (2, [.ref h5, .ref h2])), (h5, .inl (cL, 16, .inr (.inl rf)))]) [0, 1] (by decide) rfl
    have hFc := va_free (wc := [(h4, .inr (2, [.ref h5, .ref h2])), (h5, .inl (cL, 16, .inr (.inl rf)))]) hD hS hA [0, 1] rfl
    refine va_callv (va_runV (As := [.long (f_Pr_at pf cnt a1), .long (f_Pr_at pf cnt (a1 + (1 : Int32)))]) (rest := []) ⟨hx, hb, hml, hown, hT⟩ (c_Ma_takeTwoPlaces l G cB cL cI s.heap h4 h5 h2 rf (f_Pr_at pf cnt a1) (f_Pr_at pf cnt (a1 + (1 : Int32))) hPc (hDc.weaken (fun _ _ _ _ => trivial))) (cwV 2 hT (gB_V mw_451 mw_452 mw_453 mw_4 mw_454) rfl rfl rfl (by decide +kernel) ⟨Nat.le_of_ble_eq_true rfl, Nat.le_of_ble_eq_true rfl⟩) ⟨fun a U g mk q => ⟨q.1, q.2.1, va_K.moved (u := U) (U := U.calling g mk a) (Vm.Alike.refl U.vm) q.2.2⟩, va_recv hK hPc (ci := 2) (q0 := 0) rfl rfl, fun U hU hW => ⟨rfl, hU, va_K.moved hW.alike hK⟩⟩ rfl rfl hl.1 rfl (lv_room (Nat.le_of_ble_eq_true rfl)) dMa_follow_61 ⟨Nat.zero_le _, Nat.zero_le _⟩) hS (fun q _ h => hFc q h) hFc (fun u t H locs ht hvm hw hB hz8 hk8 hS => ?_)
    subst hw
    obtain ⟨hP1, hD1⟩ := hB
    rw [ht] at hP1
    obtain ⟨hP, hD⟩ := va_join (wr := [(h2, .inr (1, [.ref h3])), (h3, .inl (cB, 4096, .inl mf)), (h0, .inr (0, [.ref h1, .int cnt])), (h1, .inl (cL, pn, .inr (.inl pf)))]) (w1 := [(h4, .inr (2, [.ref h5, .ref h2])), (h5, .inl (cL, 16, .inr (.inl ((f_Ma_takeTwoPlaces rf (f_Pr_at pf cnt a1) (f_Pr_at pf cnt (a1 + (1 : Int32))))))))]) hP hD [0, 1] [2, 3, 4, 5] rfl rfl (by decide) (by decide) hk8 hFc hP1 hD1
    have hP : va_P G vwCl [(h2, .inr (1, [.ref h3])), (h3, .inl (cB, 4096, .inl mf)), (h0, .inr (0, [.ref h1, .int cnt])), (h1, .inl (cL, pn, .inr (.inl pf))), (h4, .inr (2, [.ref h5, .ref h2])), (h5, .inl (cL, 16, .inr (.inl ((f_Ma_takeTwoPlaces rf (f_Pr_at pf cnt a1) (f_Pr_at pf cnt (a1 + (1 : Int32))))))))] H := hP
    have hD : va_D A [(h2, .inr (1, [.ref h3])), (h3, .inl (cB, 4096, .inl mf)), (h0, .inr (0, [.ref h1, .int cnt])), (h1, .inl (cL, pn, .inr (.inl pf))), (h4, .inr (2, [.ref h5, .ref h2])), (h5, .inl (cL, 16, .inr (.inl ((f_Ma_takeTwoPlaces rf (f_Pr_at pf cnt a1) (f_Pr_at pf cnt (a1 + (1 : Int32))))))))] := hD
    refine lv_iload_n hx hb dMa_follow_64 rfl (lv_at hl 3 rfl) ?_
    refine lv_iconst (v := (2 : Int32)) hx hb dMa_follow_65 (by decide) ?_
    refine lv_iadd hx hb dMa_follow_66 ?_
    have hP9 := hP.sub (ws' := [(h4, .inr (2, [.ref h5, .ref h2])), (h5, .inl (cL, 16, .inr (.inl ((f_Ma_takeTwoPlaces rf (f_Pr_at pf cnt a1) (f_Pr_at pf cnt (a1 + (1 : Int32)))))))), (h2, .inr (1, [.ref h3])), (h3, .inl (cB, 4096, .inl mf)), (h0, .inr (0, [.ref h1, .int cnt])), (h1, .inl (cL, pn, .inr (.inl pf)))]) [4, 5, 0, 1, 2, 3] rfl
    have hD9 := hD.sub (ws' := [(h4, .inr (2, [.ref h5, .ref h2])), (h5, .inl (cL, 16, .inr (.inl ((f_Ma_takeTwoPlaces rf (f_Pr_at pf cnt a1) (f_Pr_at pf cnt (a1 + (1 : Int32)))))))), (h2, .inr (1, [.ref h3])), (h3, .inl (cB, 4096, .inl mf)), (h0, .inr (0, [.ref h1, .int cnt])), (h1, .inl (cL, pn, .inr (.inl pf)))]) [4, 5, 0, 1, 2, 3] (by decide) rfl
    exact W.iret (v := (a1 + (2 : Int32))) hx hb hr (fun t ht hW => ⟨⟨(a1 + (2 : Int32)), (((f_Ma_takeTwoPlaces rf (f_Pr_at pf cnt a1) (f_Pr_at pf cnt (a1 + (1 : Int32))))), mf), rfl, (by unfold f_Ma_follow; rw [if_pos c1]; try rfl), by rw [ht]; exact hP9, hD9⟩, hS.F ht⟩) hS.2.2 dMa_follow_67
  by_cases c2 : (f_Fi_kind (f_Pr_at pf cnt a1)) = (1 : Int32)
  · skip
    refine lv_tableIn (tgt := 68) (off := 58) hx hb dMa_follow_10 (by rw [c2]; decide) (by rw [c2]; decide) (by rw [c2]; rfl) (by decide) ?_
    refine lv_aload_n hx hb dMa_follow_68 rfl (lv_at hl 1 rfl) ?_
    refine lv_lload_n hx hb dMa_follow_69 rfl (lv_at hl 0 rfl) ?_
    have hPc := hP.sub (ws' := [(h4, .inr (2, [.ref h5, .ref h2])), (h5, .inl (cL, 16, .inr (.inl rf))), (h2, .inr (1, [.ref h3])), (h3, .inl (cB, 4096, .inl mf))]) [0, 1, 2, 3] rfl
    have hDc := hD.sub (ws' := [(h4, .inr (2, [.ref h5, .ref h2])), (h5, .inl (cL, 16, .inr (.inl rf))), (h2, .inr (1, [.ref h3])), (h3, .inl (cB, 4096, .inl mf))]) [0, 1, 2, 3] (by decide) rfl
    have hFc := va_free (wc := [(h4, .inr (2, [.ref h5, .ref h2])), (h5, .inl (cL, 16, .inr (.inl rf))), (h2, .inr (1, [.ref h3])), (h3, .inl (cB, 4096, .inl mf))]) hD hS hA [0, 1, 2, 3] rfl
    refine va_calli (va_runV (As := [.long (f_Pr_at pf cnt a1)]) (rest := []) ⟨hx, hb, hml, hown, hT⟩ (c_Ma_read l G cB cL cI s.heap h4 h5 rf h2 h3 mf (f_Pr_at pf cnt a1) hPc (hDc.weaken (fun _ _ _ _ => trivial))) (cwV 1 hT (gB_V mw_460 mw_461 mw_462 mw_4 mw_463) rfl rfl rfl (by decide +kernel) ⟨Nat.le_of_ble_eq_true rfl, Nat.le_of_ble_eq_true rfl⟩) ⟨fun a U g mk q => ⟨q.1, q.2.1, va_K.moved (u := U) (U := U.calling g mk a) (Vm.Alike.refl U.vm) q.2.2⟩, va_recv hK hPc (ci := 2) (q0 := 0) rfl rfl, fun U hU hW => ⟨rfl, hU, va_K.moved hW.alike hK⟩⟩ rfl rfl hl.1 rfl (lv_room (Nat.le_of_ble_eq_true rfl)) dMa_follow_70 ⟨Nat.zero_le _, Nat.zero_le _⟩) hS (fun q _ h => hFc q h) hFc (fun r u t H locs ht hvm hw hB hz8 hk8 hS => ?_)
    obtain ⟨rfl, rfl⟩ := hw
    obtain ⟨hP1, hD1⟩ := hB
    rw [ht] at hP1
    obtain ⟨hP, hD⟩ := va_join (wr := [(h0, .inr (0, [.ref h1, .int cnt])), (h1, .inl (cL, pn, .inr (.inl pf)))]) (w1 := [(h4, .inr (2, [.ref h5, .ref h2])), (h5, .inl (cL, 16, .inr (.inl ((f_Ma_read rf mf (f_Pr_at pf cnt a1)).2)))), (h2, .inr (1, [.ref h3])), (h3, .inl (cB, 4096, .inl mf))]) hP hD [0, 1, 2, 3] [4, 5] rfl rfl (by decide) (by decide) hk8 hFc hP1 hD1
    have hP : va_P G vwCl [(h0, .inr (0, [.ref h1, .int cnt])), (h1, .inl (cL, pn, .inr (.inl pf))), (h4, .inr (2, [.ref h5, .ref h2])), (h5, .inl (cL, 16, .inr (.inl ((f_Ma_read rf mf (f_Pr_at pf cnt a1)).2)))), (h2, .inr (1, [.ref h3])), (h3, .inl (cB, 4096, .inl mf))] H := hP
    have hD : va_D A [(h0, .inr (0, [.ref h1, .int cnt])), (h1, .inl (cL, pn, .inr (.inl pf))), (h4, .inr (2, [.ref h5, .ref h2])), (h5, .inl (cL, 16, .inr (.inl ((f_Ma_read rf mf (f_Pr_at pf cnt a1)).2)))), (h2, .inr (1, [.ref h3])), (h3, .inl (cB, 4096, .inl mf))] := hD
    refine lv_if_eq (tgt := 82) hx hb dMa_follow_73 (by decide) (fun c3 => ?_) (fun c3 => ?_)
    · have c3 := bI_z c3
      refine lv_bipush (v := (-2 : Int32)) hx hb dMa_follow_82 (by decide) ?_
      have hP9 := hP.sub (ws' := [(h4, .inr (2, [.ref h5, .ref h2])), (h5, .inl (cL, 16, .inr (.inl ((f_Ma_read rf mf (f_Pr_at pf cnt a1)).2)))), (h2, .inr (1, [.ref h3])), (h3, .inl (cB, 4096, .inl mf)), (h0, .inr (0, [.ref h1, .int cnt])), (h1, .inl (cL, pn, .inr (.inl pf)))]) [2, 3, 4, 5, 0, 1] rfl
      have hD9 := hD.sub (ws' := [(h4, .inr (2, [.ref h5, .ref h2])), (h5, .inl (cL, 16, .inr (.inl ((f_Ma_read rf mf (f_Pr_at pf cnt a1)).2)))), (h2, .inr (1, [.ref h3])), (h3, .inl (cB, 4096, .inl mf)), (h0, .inr (0, [.ref h1, .int cnt])), (h1, .inl (cL, pn, .inr (.inl pf)))]) [2, 3, 4, 5, 0, 1] (by decide) rfl
      exact W.iret (v := (-2 : Int32)) hx hb hr (fun t ht hW => ⟨⟨(-2 : Int32), (((f_Ma_read rf mf (f_Pr_at pf cnt a1)).2), mf), rfl, (by unfold f_Ma_follow; rw [if_neg c1, if_pos c2, if_neg c3]; try rfl), by rw [ht]; exact hP9, hD9⟩, hS.F ht⟩) hS.2.2 dMa_follow_84
    · have c3 := bI_n c3
      refine lv_iload_n hx hb dMa_follow_76 rfl (lv_at hl 3 rfl) ?_
      refine lv_iconst (v := (1 : Int32)) hx hb dMa_follow_77 (by decide) ?_
      refine lv_iadd hx hb dMa_follow_78 ?_
      refine lv_goto (tgt := 84) hx hb dMa_follow_79 (by decide) ?_
      have hP9 := hP.sub (ws' := [(h4, .inr (2, [.ref h5, .ref h2])), (h5, .inl (cL, 16, .inr (.inl ((f_Ma_read rf mf (f_Pr_at pf cnt a1)).2)))), (h2, .inr (1, [.ref h3])), (h3, .inl (cB, 4096, .inl mf)), (h0, .inr (0, [.ref h1, .int cnt])), (h1, .inl (cL, pn, .inr (.inl pf)))]) [2, 3, 4, 5, 0, 1] rfl
      have hD9 := hD.sub (ws' := [(h4, .inr (2, [.ref h5, .ref h2])), (h5, .inl (cL, 16, .inr (.inl ((f_Ma_read rf mf (f_Pr_at pf cnt a1)).2)))), (h2, .inr (1, [.ref h3])), (h3, .inl (cB, 4096, .inl mf)), (h0, .inr (0, [.ref h1, .int cnt])), (h1, .inl (cL, pn, .inr (.inl pf)))]) [2, 3, 4, 5, 0, 1] (by decide) rfl
      exact W.iret (v := (a1 + (1 : Int32))) hx hb hr (fun t ht hW => ⟨⟨(a1 + (1 : Int32)), (((f_Ma_read rf mf (f_Pr_at pf cnt a1)).2), mf), rfl, (by unfold f_Ma_follow; rw [if_neg c1, if_pos c2, if_pos c3]; try rfl), by rw [ht]; exact hP9, hD9⟩, hS.F ht⟩) hS.2.2 dMa_follow_84
  by_cases c4 : (f_Fi_kind (f_Pr_at pf cnt a1)) = (2 : Int32)
  · skip
    refine lv_tableIn (tgt := 85) (off := 75) hx hb dMa_follow_10 (by rw [c4]; decide) (by rw [c4]; decide) (by rw [c4]; rfl) (by decide) ?_
    refine lv_aload_n hx hb dMa_follow_85 rfl (lv_at hl 1 rfl) ?_
    refine lv_lload_n hx hb dMa_follow_86 rfl (lv_at hl 0 rfl) ?_
    refine lv_lload_n hx hb dMa_follow_87 rfl (lv_at hl 0 rfl) ?_
    refine va_calli (va_runS (As := [.long (f_Pr_at pf cnt a1)]) (rest := [.long (f_Pr_at pf cnt a1), .ref h4]) ⟨hx, hb, hml, hown, hT⟩ (c_Fi_immediate l s.heap (f_Pr_at pf cnt a1)) (va_cwS 1 hT (gB_SV mw_455 mw_153 mw_16 mw_154) rfl rfl rfl (by decide +kernel) ⟨Nat.le_of_ble_eq_true rfl, Nat.le_of_ble_eq_true rfl⟩) ⟨fun _ _ _ _ q => q, fun U hU hW => ⟨rfl, hU⟩⟩ rfl rfl hl.1 rfl (lv_room (Nat.le_of_ble_eq_true rfl)) dMa_follow_88 ⟨Nat.zero_le _, Nat.zero_le _⟩) hS (fun _ _ h => h.elim) (fun _ h => h.elim) (fun r u t H1 locs ht hvm hw hB hz8 hk8 hS => ?_)
    obtain rfl : s.heap = H1 := hB.symm.trans ht
    subst hw
    refine lv_i2l hx hb dMa_follow_91 rfl ?_
    have hPc := hP.sub (ws' := [(h4, .inr (2, [.ref h5, .ref h2])), (h5, .inl (cL, 16, .inr (.inl rf))), (h2, .inr (1, [.ref h3])), (h3, .inl (cB, 4096, .inl mf))]) [0, 1, 2, 3] rfl
    have hDc := hD.sub (ws' := [(h4, .inr (2, [.ref h5, .ref h2])), (h5, .inl (cL, 16, .inr (.inl rf))), (h2, .inr (1, [.ref h3])), (h3, .inl (cB, 4096, .inl mf))]) [0, 1, 2, 3] (by decide) rfl
    have hFc := va_free (wc := [(h4, .inr (2, [.ref h5, .ref h2])), (h5, .inl (cL, 16, .inr (.inl rf))), (h2, .inr (1, [.ref h3])), (h3, .inl (cB, 4096, .inl mf))]) hD hS hA [0, 1, 2, 3] rfl
    refine va_calli (va_runV (As := [.long (f_Pr_at pf cnt a1), .long ((f_Fi_immediate (f_Pr_at pf cnt a1)).toInt64)]) (rest := []) ⟨hx, hb, hml, hown, hT⟩ (c_Ma_write l G cB cL cI s.heap h4 h5 rf h2 h3 mf (f_Pr_at pf cnt a1) ((f_Fi_immediate (f_Pr_at pf cnt a1)).toInt64) hPc (hDc.weaken (fun _ _ _ _ => trivial))) (cwV 2 hT (gB_V mw_477 mw_478 mw_479 mw_4 mw_480) rfl rfl rfl (by decide +kernel) ⟨Nat.le_of_ble_eq_true rfl, Nat.le_of_ble_eq_true rfl⟩) ⟨fun a U g mk q => ⟨q.1, q.2.1, va_K.moved (u := U) (U := U.calling g mk a) (Vm.Alike.refl U.vm) q.2.2⟩, va_recv hK hPc (ci := 2) (q0 := 0) rfl rfl, fun U hU hW => ⟨rfl, hU, va_K.moved hW.alike hK⟩⟩ rfl rfl hl.1 rfl (lv_room (Nat.le_of_ble_eq_true rfl)) dMa_follow_92 ⟨Nat.zero_le _, Nat.zero_le _⟩) hS (fun q _ h => hFc q h) hFc (fun r u t H locs ht hvm hw hB hz8 hk8 hS => ?_)
    obtain ⟨rfl, rfl⟩ := hw
    obtain ⟨hP1, hD1⟩ := hB
    rw [ht] at hP1
    obtain ⟨hP, hD⟩ := va_join (wr := [(h0, .inr (0, [.ref h1, .int cnt])), (h1, .inl (cL, pn, .inr (.inl pf)))]) (w1 := [(h4, .inr (2, [.ref h5, .ref h2])), (h5, .inl (cL, 16, .inr (.inl rf))), (h2, .inr (1, [.ref h3])), (h3, .inl (cB, 4096, .inl ((f_Ma_write rf mf (f_Pr_at pf cnt a1) ((f_Fi_immediate (f_Pr_at pf cnt a1)).toInt64)).2)))]) hP hD [0, 1, 2, 3] [4, 5] rfl rfl (by decide) (by decide) hk8 hFc hP1 hD1
    have hP : va_P G vwCl [(h0, .inr (0, [.ref h1, .int cnt])), (h1, .inl (cL, pn, .inr (.inl pf))), (h4, .inr (2, [.ref h5, .ref h2])), (h5, .inl (cL, 16, .inr (.inl rf))), (h2, .inr (1, [.ref h3])), (h3, .inl (cB, 4096, .inl ((f_Ma_write rf mf (f_Pr_at pf cnt a1) ((f_Fi_immediate (f_Pr_at pf cnt a1)).toInt64)).2)))] H := hP
    have hD : va_D A [(h0, .inr (0, [.ref h1, .int cnt])), (h1, .inl (cL, pn, .inr (.inl pf))), (h4, .inr (2, [.ref h5, .ref h2])), (h5, .inl (cL, 16, .inr (.inl rf))), (h2, .inr (1, [.ref h3])), (h3, .inl (cB, 4096, .inl ((f_Ma_write rf mf (f_Pr_at pf cnt a1) ((f_Fi_immediate (f_Pr_at pf cnt a1)).toInt64)).2)))] := hD
    refine lv_if_eq (tgt := 104) hx hb dMa_follow_95 (by decide) (fun c5 => ?_) (fun c5 => ?_)
    · have c5 := bI_z c5
      refine lv_bipush (v := (-2 : Int32)) hx hb dMa_follow_104 (by decide) ?_
      have hP9 := hP.sub (ws' := [(h4, .inr (2, [.ref h5, .ref h2])), (h5, .inl (cL, 16, .inr (.inl rf))), (h2, .inr (1, [.ref h3])), (h3, .inl (cB, 4096, .inl ((f_Ma_write rf mf (f_Pr_at pf cnt a1) ((f_Fi_immediate (f_Pr_at pf cnt a1)).toInt64)).2))), (h0, .inr (0, [.ref h1, .int cnt])), (h1, .inl (cL, pn, .inr (.inl pf)))]) [2, 3, 4, 5, 0, 1] rfl
      have hD9 := hD.sub (ws' := [(h4, .inr (2, [.ref h5, .ref h2])), (h5, .inl (cL, 16, .inr (.inl rf))), (h2, .inr (1, [.ref h3])), (h3, .inl (cB, 4096, .inl ((f_Ma_write rf mf (f_Pr_at pf cnt a1) ((f_Fi_immediate (f_Pr_at pf cnt a1)).toInt64)).2))), (h0, .inr (0, [.ref h1, .int cnt])), (h1, .inl (cL, pn, .inr (.inl pf)))]) [2, 3, 4, 5, 0, 1] (by decide) rfl
      exact W.iret (v := (-2 : Int32)) hx hb hr (fun t ht hW => ⟨⟨(-2 : Int32), (rf, ((f_Ma_write rf mf (f_Pr_at pf cnt a1) ((f_Fi_immediate (f_Pr_at pf cnt a1)).toInt64)).2)), rfl, (by unfold f_Ma_follow; rw [if_neg c1, if_neg c2, if_pos c4, if_neg c5]; try rfl), by rw [ht]; exact hP9, hD9⟩, hS.F ht⟩) hS.2.2 dMa_follow_106
    · have c5 := bI_n c5
      refine lv_iload_n hx hb dMa_follow_98 rfl (lv_at hl 3 rfl) ?_
      refine lv_iconst (v := (1 : Int32)) hx hb dMa_follow_99 (by decide) ?_
      refine lv_iadd hx hb dMa_follow_100 ?_
      refine lv_goto (tgt := 106) hx hb dMa_follow_101 (by decide) ?_
      have hP9 := hP.sub (ws' := [(h4, .inr (2, [.ref h5, .ref h2])), (h5, .inl (cL, 16, .inr (.inl rf))), (h2, .inr (1, [.ref h3])), (h3, .inl (cB, 4096, .inl ((f_Ma_write rf mf (f_Pr_at pf cnt a1) ((f_Fi_immediate (f_Pr_at pf cnt a1)).toInt64)).2))), (h0, .inr (0, [.ref h1, .int cnt])), (h1, .inl (cL, pn, .inr (.inl pf)))]) [2, 3, 4, 5, 0, 1] rfl
      have hD9 := hD.sub (ws' := [(h4, .inr (2, [.ref h5, .ref h2])), (h5, .inl (cL, 16, .inr (.inl rf))), (h2, .inr (1, [.ref h3])), (h3, .inl (cB, 4096, .inl ((f_Ma_write rf mf (f_Pr_at pf cnt a1) ((f_Fi_immediate (f_Pr_at pf cnt a1)).toInt64)).2))), (h0, .inr (0, [.ref h1, .int cnt])), (h1, .inl (cL, pn, .inr (.inl pf)))]) [2, 3, 4, 5, 0, 1] (by decide) rfl
      exact W.iret (v := (a1 + (1 : Int32))) hx hb hr (fun t ht hW => ⟨⟨(a1 + (1 : Int32)), (rf, ((f_Ma_write rf mf (f_Pr_at pf cnt a1) ((f_Fi_immediate (f_Pr_at pf cnt a1)).toInt64)).2)), rfl, (by unfold f_Ma_follow; rw [if_neg c1, if_neg c2, if_pos c4, if_pos c5]; try rfl), by rw [ht]; exact hP9, hD9⟩, hS.F ht⟩) hS.2.2 dMa_follow_106
  by_cases c6 : (f_Fi_kind (f_Pr_at pf cnt a1)) = (3 : Int32)
  · skip
    refine lv_tableIn (tgt := 107) (off := 97) hx hb dMa_follow_10 (by rw [c6]; decide) (by rw [c6]; decide) (by rw [c6]; rfl) (by decide) ?_
    refine lv_lload_n hx hb dMa_follow_107 rfl (lv_at hl 0 rfl) ?_
    refine va_calli (va_runS (As := [.long (f_Pr_at pf cnt a1)]) (rest := []) ⟨hx, hb, hml, hown, hT⟩ (c_Fi_mode l s.heap (f_Pr_at pf cnt a1)) (va_cwS 1 hT (gB_SV mw_473 mw_159 mw_16 mw_160) rfl rfl rfl (by decide +kernel) ⟨Nat.le_of_ble_eq_true rfl, Nat.le_of_ble_eq_true rfl⟩) ⟨fun _ _ _ _ q => q, fun U hU hW => ⟨rfl, hU⟩⟩ rfl rfl hl.1 rfl (lv_room (Nat.le_of_ble_eq_true rfl)) dMa_follow_108 ⟨Nat.zero_le _, Nat.zero_le _⟩) hS (fun _ _ h => h.elim) (fun _ h => h.elim) (fun r u t H1 locs ht hvm hw hB hz8 hk8 hS => ?_)
    obtain rfl : s.heap = H1 := hB.symm.trans ht
    subst hw
    refine lv_bipush (v := (6 : Int32)) hx hb dMa_follow_111 (by decide) ?_
    refine lv_icmp_ne (tgt := 127) hx hb dMa_follow_113 (by decide) (fun c7 => ?_) (fun c7 => ?_)
    · skip
      refine lv_aload_n hx hb dMa_follow_127 rfl (lv_at hl 1 rfl) ?_
      refine lv_lload_n hx hb dMa_follow_128 rfl (lv_at hl 0 rfl) ?_
      refine lv_aload_n hx hb dMa_follow_129 rfl (lv_at hl 1 rfl) ?_
      refine lv_lload_n hx hb dMa_follow_130 rfl (lv_at hl 0 rfl) ?_
      have hPc := hP.sub (ws' := [(h4, .inr (2, [.ref h5, .ref h2])), (h5, .inl (cL, 16, .inr (.inl rf)))]) [0, 1] rfl
      refine va_calll (va_runV (As := [.long (f_Pr_at pf cnt a1)]) (rest := [.long (f_Pr_at pf cnt a1), .ref h4]) ⟨hx, hb, hml, hown, hT⟩ (c_Ma_y l G cB cL cI s.heap h4 h5 h2 rf (f_Pr_at pf cnt a1) hPc ) (cwV 1 hT (gB_V mw_465 mw_466 mw_467 mw_4 mw_468) rfl rfl rfl (by decide +kernel) ⟨Nat.le_of_ble_eq_true rfl, Nat.le_of_ble_eq_true rfl⟩) ⟨fun a U g mk q => ⟨q.1, q.2.1, va_K.moved (u := U) (U := U.calling g mk a) (Vm.Alike.refl U.vm) q.2.2⟩, va_recv hK hPc (ci := 2) (q0 := 0) rfl rfl, fun U hU hW => ⟨rfl, hU, va_K.moved hW.alike hK⟩⟩ rfl rfl hl.1 rfl (lv_room (Nat.le_of_ble_eq_true rfl)) dMa_follow_131 ⟨Nat.zero_le _, Nat.zero_le _⟩) hS (fun _ _ h => h.elim) (fun _ h => h.elim) (fun r u t H1 locs ht hvm hw hB hz8 hk8 hS => ?_)
      obtain rfl : s.heap = H1 := hB.symm.trans ht
      subst hw
      have hPc := hP.sub (ws' := [(h4, .inr (2, [.ref h5, .ref h2])), (h5, .inl (cL, 16, .inr (.inl rf))), (h2, .inr (1, [.ref h3])), (h3, .inl (cB, 4096, .inl mf))]) [0, 1, 2, 3] rfl
      have hDc := hD.sub (ws' := [(h4, .inr (2, [.ref h5, .ref h2])), (h5, .inl (cL, 16, .inr (.inl rf))), (h2, .inr (1, [.ref h3])), (h3, .inl (cB, 4096, .inl mf))]) [0, 1, 2, 3] (by decide) rfl
      have hFc := va_free (wc := [(h4, .inr (2, [.ref h5, .ref h2])), (h5, .inl (cL, 16, .inr (.inl rf))), (h2, .inr (1, [.ref h3])), (h3, .inl (cB, 4096, .inl mf))]) hD hS hA [0, 1, 2, 3] rfl
      refine va_calli (va_runV (As := [.long (f_Pr_at pf cnt a1), .long (f_Ma_y rf (f_Pr_at pf cnt a1))]) (rest := []) ⟨hx, hb, hml, hown, hT⟩ (c_Ma_write l G cB cL cI s.heap h4 h5 rf h2 h3 mf (f_Pr_at pf cnt a1) (f_Ma_y rf (f_Pr_at pf cnt a1)) hPc (hDc.weaken (fun _ _ _ _ => trivial))) (cwV 2 hT (gB_V mw_477 mw_478 mw_479 mw_4 mw_480) rfl rfl rfl (by decide +kernel) ⟨Nat.le_of_ble_eq_true rfl, Nat.le_of_ble_eq_true rfl⟩) ⟨fun a U g mk q => ⟨q.1, q.2.1, va_K.moved (u := U) (U := U.calling g mk a) (Vm.Alike.refl U.vm) q.2.2⟩, va_recv hK hPc (ci := 2) (q0 := 0) rfl rfl, fun U hU hW => ⟨rfl, hU, va_K.moved hW.alike hK⟩⟩ rfl rfl hl.1 rfl (lv_room (Nat.le_of_ble_eq_true rfl)) dMa_follow_134 ⟨Nat.zero_le _, Nat.zero_le _⟩) hS (fun q _ h => hFc q h) hFc (fun r u t H locs ht hvm hw hB hz8 hk8 hS => ?_)
      obtain ⟨rfl, rfl⟩ := hw
      obtain ⟨hP1, hD1⟩ := hB
      rw [ht] at hP1
      obtain ⟨hP, hD⟩ := va_join (wr := [(h0, .inr (0, [.ref h1, .int cnt])), (h1, .inl (cL, pn, .inr (.inl pf)))]) (w1 := [(h4, .inr (2, [.ref h5, .ref h2])), (h5, .inl (cL, 16, .inr (.inl rf))), (h2, .inr (1, [.ref h3])), (h3, .inl (cB, 4096, .inl ((f_Ma_write rf mf (f_Pr_at pf cnt a1) (f_Ma_y rf (f_Pr_at pf cnt a1))).2)))]) hP hD [0, 1, 2, 3] [4, 5] rfl rfl (by decide) (by decide) hk8 hFc hP1 hD1
      have hP : va_P G vwCl [(h0, .inr (0, [.ref h1, .int cnt])), (h1, .inl (cL, pn, .inr (.inl pf))), (h4, .inr (2, [.ref h5, .ref h2])), (h5, .inl (cL, 16, .inr (.inl rf))), (h2, .inr (1, [.ref h3])), (h3, .inl (cB, 4096, .inl ((f_Ma_write rf mf (f_Pr_at pf cnt a1) (f_Ma_y rf (f_Pr_at pf cnt a1))).2)))] H := hP
      have hD : va_D A [(h0, .inr (0, [.ref h1, .int cnt])), (h1, .inl (cL, pn, .inr (.inl pf))), (h4, .inr (2, [.ref h5, .ref h2])), (h5, .inl (cL, 16, .inr (.inl rf))), (h2, .inr (1, [.ref h3])), (h3, .inl (cB, 4096, .inl ((f_Ma_write rf mf (f_Pr_at pf cnt a1) (f_Ma_y rf (f_Pr_at pf cnt a1))).2)))] := hD
      refine lv_if_eq (tgt := 146) hx hb dMa_follow_137 (by decide) (fun c8 => ?_) (fun c8 => ?_)
      · have c8 := bI_z c8
        refine lv_bipush (v := (-2 : Int32)) hx hb dMa_follow_146 (by decide) ?_
        have hP9 := hP.sub (ws' := [(h4, .inr (2, [.ref h5, .ref h2])), (h5, .inl (cL, 16, .inr (.inl rf))), (h2, .inr (1, [.ref h3])), (h3, .inl (cB, 4096, .inl ((f_Ma_write rf mf (f_Pr_at pf cnt a1) (f_Ma_y rf (f_Pr_at pf cnt a1))).2))), (h0, .inr (0, [.ref h1, .int cnt])), (h1, .inl (cL, pn, .inr (.inl pf)))]) [2, 3, 4, 5, 0, 1] rfl
        have hD9 := hD.sub (ws' := [(h4, .inr (2, [.ref h5, .ref h2])), (h5, .inl (cL, 16, .inr (.inl rf))), (h2, .inr (1, [.ref h3])), (h3, .inl (cB, 4096, .inl ((f_Ma_write rf mf (f_Pr_at pf cnt a1) (f_Ma_y rf (f_Pr_at pf cnt a1))).2))), (h0, .inr (0, [.ref h1, .int cnt])), (h1, .inl (cL, pn, .inr (.inl pf)))]) [2, 3, 4, 5, 0, 1] (by decide) rfl
        exact W.iret (v := (-2 : Int32)) hx hb hr (fun t ht hW => ⟨⟨(-2 : Int32), (rf, ((f_Ma_write rf mf (f_Pr_at pf cnt a1) (f_Ma_y rf (f_Pr_at pf cnt a1))).2)), rfl, (by unfold f_Ma_follow; rw [if_neg c1, if_neg c2, if_neg c4, if_pos c6, if_neg c7, if_neg c8]; try rfl), by rw [ht]; exact hP9, hD9⟩, hS.F ht⟩) hS.2.2 dMa_follow_148
      · have c8 := bI_n c8
        refine lv_iload_n hx hb dMa_follow_140 rfl (lv_at hl 3 rfl) ?_
        refine lv_iconst (v := (1 : Int32)) hx hb dMa_follow_141 (by decide) ?_
        refine lv_iadd hx hb dMa_follow_142 ?_
        refine lv_goto (tgt := 148) hx hb dMa_follow_143 (by decide) ?_
        have hP9 := hP.sub (ws' := [(h4, .inr (2, [.ref h5, .ref h2])), (h5, .inl (cL, 16, .inr (.inl rf))), (h2, .inr (1, [.ref h3])), (h3, .inl (cB, 4096, .inl ((f_Ma_write rf mf (f_Pr_at pf cnt a1) (f_Ma_y rf (f_Pr_at pf cnt a1))).2))), (h0, .inr (0, [.ref h1, .int cnt])), (h1, .inl (cL, pn, .inr (.inl pf)))]) [2, 3, 4, 5, 0, 1] rfl
        have hD9 := hD.sub (ws' := [(h4, .inr (2, [.ref h5, .ref h2])), (h5, .inl (cL, 16, .inr (.inl rf))), (h2, .inr (1, [.ref h3])), (h3, .inl (cB, 4096, .inl ((f_Ma_write rf mf (f_Pr_at pf cnt a1) (f_Ma_y rf (f_Pr_at pf cnt a1))).2))), (h0, .inr (0, [.ref h1, .int cnt])), (h1, .inl (cL, pn, .inr (.inl pf)))]) [2, 3, 4, 5, 0, 1] (by decide) rfl
        exact W.iret (v := (a1 + (1 : Int32))) hx hb hr (fun t ht hW => ⟨⟨(a1 + (1 : Int32)), (rf, ((f_Ma_write rf mf (f_Pr_at pf cnt a1) (f_Ma_y rf (f_Pr_at pf cnt a1))).2)), rfl, (by unfold f_Ma_follow; rw [if_neg c1, if_neg c2, if_neg c4, if_pos c6, if_neg c7, if_pos c8]; try rfl), by rw [ht]; exact hP9, hD9⟩, hS.F ht⟩) hS.2.2 dMa_follow_148
    · skip
      refine lv_aload_n hx hb dMa_follow_116 rfl (lv_at hl 1 rfl) ?_
      refine lv_lload_n hx hb dMa_follow_117 rfl (lv_at hl 0 rfl) ?_
      have hPc := hP.sub (ws' := [(h4, .inr (2, [.ref h5, .ref h2])), (h5, .inl (cL, 16, .inr (.inl rf))), (h2, .inr (1, [.ref h3])), (h3, .inl (cB, 4096, .inl mf))]) [0, 1, 2, 3] rfl
      have hDc := hD.sub (ws' := [(h4, .inr (2, [.ref h5, .ref h2])), (h5, .inl (cL, 16, .inr (.inl rf))), (h2, .inr (1, [.ref h3])), (h3, .inl (cB, 4096, .inl mf))]) [0, 1, 2, 3] (by decide) rfl
      have hFc := va_free (wc := [(h4, .inr (2, [.ref h5, .ref h2])), (h5, .inl (cL, 16, .inr (.inl rf))), (h2, .inr (1, [.ref h3])), (h3, .inl (cB, 4096, .inl mf))]) hD hS hA [0, 1, 2, 3] rfl
      refine va_calli (va_runV (As := [.long (f_Pr_at pf cnt a1)]) (rest := []) ⟨hx, hb, hml, hown, hT⟩ (c_Ma_exchange l G cB cL cI s.heap h4 h5 rf h2 h3 mf (f_Pr_at pf cnt a1) hPc (hDc.weaken (fun _ _ _ _ => trivial))) (cwV 1 hT (gB_V mw_486 mw_487 mw_488 mw_4 mw_489) rfl rfl rfl (by decide +kernel) ⟨Nat.le_of_ble_eq_true rfl, Nat.le_of_ble_eq_true rfl⟩) ⟨fun a U g mk q => ⟨q.1, q.2.1, va_K.moved (u := U) (U := U.calling g mk a) (Vm.Alike.refl U.vm) q.2.2⟩, va_recv hK hPc (ci := 2) (q0 := 0) rfl rfl, fun U hU hW => ⟨rfl, hU, va_K.moved hW.alike hK⟩⟩ rfl rfl hl.1 rfl (lv_room (Nat.le_of_ble_eq_true rfl)) dMa_follow_118 ⟨Nat.zero_le _, Nat.zero_le _⟩) hS (fun q _ h => hFc q h) hFc (fun r u t H locs ht hvm hw hB hz8 hk8 hS => ?_)
      obtain ⟨rfl, rfl⟩ := hw
      obtain ⟨hP1, hD1⟩ := hB
      rw [ht] at hP1
      obtain ⟨hP, hD⟩ := va_join (wr := [(h0, .inr (0, [.ref h1, .int cnt])), (h1, .inl (cL, pn, .inr (.inl pf)))]) (w1 := [(h4, .inr (2, [.ref h5, .ref h2])), (h5, .inl (cL, 16, .inr (.inl ((f_Ma_exchange rf mf (f_Pr_at pf cnt a1)).2.1)))), (h2, .inr (1, [.ref h3])), (h3, .inl (cB, 4096, .inl ((f_Ma_exchange rf mf (f_Pr_at pf cnt a1)).2.2)))]) hP hD [0, 1, 2, 3] [4, 5] rfl rfl (by decide) (by decide) hk8 hFc hP1 hD1
      have hP : va_P G vwCl [(h0, .inr (0, [.ref h1, .int cnt])), (h1, .inl (cL, pn, .inr (.inl pf))), (h4, .inr (2, [.ref h5, .ref h2])), (h5, .inl (cL, 16, .inr (.inl ((f_Ma_exchange rf mf (f_Pr_at pf cnt a1)).2.1)))), (h2, .inr (1, [.ref h3])), (h3, .inl (cB, 4096, .inl ((f_Ma_exchange rf mf (f_Pr_at pf cnt a1)).2.2)))] H := hP
      have hD : va_D A [(h0, .inr (0, [.ref h1, .int cnt])), (h1, .inl (cL, pn, .inr (.inl pf))), (h4, .inr (2, [.ref h5, .ref h2])), (h5, .inl (cL, 16, .inr (.inl ((f_Ma_exchange rf mf (f_Pr_at pf cnt a1)).2.1)))), (h2, .inr (1, [.ref h3])), (h3, .inl (cB, 4096, .inl ((f_Ma_exchange rf mf (f_Pr_at pf cnt a1)).2.2)))] := hD
      refine lv_if_eq (tgt := 146) hx hb dMa_follow_121 (by decide) (fun c9 => ?_) (fun c9 => ?_)
      · have c9 := bI_z c9
        refine lv_bipush (v := (-2 : Int32)) hx hb dMa_follow_146 (by decide) ?_
        have hP9 := hP.sub (ws' := [(h4, .inr (2, [.ref h5, .ref h2])), (h5, .inl (cL, 16, .inr (.inl ((f_Ma_exchange rf mf (f_Pr_at pf cnt a1)).2.1)))), (h2, .inr (1, [.ref h3])), (h3, .inl (cB, 4096, .inl ((f_Ma_exchange rf mf (f_Pr_at pf cnt a1)).2.2))), (h0, .inr (0, [.ref h1, .int cnt])), (h1, .inl (cL, pn, .inr (.inl pf)))]) [2, 3, 4, 5, 0, 1] rfl
        have hD9 := hD.sub (ws' := [(h4, .inr (2, [.ref h5, .ref h2])), (h5, .inl (cL, 16, .inr (.inl ((f_Ma_exchange rf mf (f_Pr_at pf cnt a1)).2.1)))), (h2, .inr (1, [.ref h3])), (h3, .inl (cB, 4096, .inl ((f_Ma_exchange rf mf (f_Pr_at pf cnt a1)).2.2))), (h0, .inr (0, [.ref h1, .int cnt])), (h1, .inl (cL, pn, .inr (.inl pf)))]) [2, 3, 4, 5, 0, 1] (by decide) rfl
        exact W.iret (v := (-2 : Int32)) hx hb hr (fun t ht hW => ⟨⟨(-2 : Int32), (((f_Ma_exchange rf mf (f_Pr_at pf cnt a1)).2.1), ((f_Ma_exchange rf mf (f_Pr_at pf cnt a1)).2.2)), rfl, (by unfold f_Ma_follow; rw [if_neg c1, if_neg c2, if_neg c4, if_pos c6, if_pos c7, if_neg c9]; try rfl), by rw [ht]; exact hP9, hD9⟩, hS.F ht⟩) hS.2.2 dMa_follow_148
      · have c9 := bI_n c9
        refine lv_goto (tgt := 140) hx hb dMa_follow_124 (by decide) ?_
        refine lv_iload_n hx hb dMa_follow_140 rfl (lv_at hl 3 rfl) ?_
        refine lv_iconst (v := (1 : Int32)) hx hb dMa_follow_141 (by decide) ?_
        refine lv_iadd hx hb dMa_follow_142 ?_
        refine lv_goto (tgt := 148) hx hb dMa_follow_143 (by decide) ?_
        have hP9 := hP.sub (ws' := [(h4, .inr (2, [.ref h5, .ref h2])), (h5, .inl (cL, 16, .inr (.inl ((f_Ma_exchange rf mf (f_Pr_at pf cnt a1)).2.1)))), (h2, .inr (1, [.ref h3])), (h3, .inl (cB, 4096, .inl ((f_Ma_exchange rf mf (f_Pr_at pf cnt a1)).2.2))), (h0, .inr (0, [.ref h1, .int cnt])), (h1, .inl (cL, pn, .inr (.inl pf)))]) [2, 3, 4, 5, 0, 1] rfl
        have hD9 := hD.sub (ws' := [(h4, .inr (2, [.ref h5, .ref h2])), (h5, .inl (cL, 16, .inr (.inl ((f_Ma_exchange rf mf (f_Pr_at pf cnt a1)).2.1)))), (h2, .inr (1, [.ref h3])), (h3, .inl (cB, 4096, .inl ((f_Ma_exchange rf mf (f_Pr_at pf cnt a1)).2.2))), (h0, .inr (0, [.ref h1, .int cnt])), (h1, .inl (cL, pn, .inr (.inl pf)))]) [2, 3, 4, 5, 0, 1] (by decide) rfl
        exact W.iret (v := (a1 + (1 : Int32))) hx hb hr (fun t ht hW => ⟨⟨(a1 + (1 : Int32)), (((f_Ma_exchange rf mf (f_Pr_at pf cnt a1)).2.1), ((f_Ma_exchange rf mf (f_Pr_at pf cnt a1)).2.2)), rfl, (by unfold f_Ma_follow; rw [if_neg c1, if_neg c2, if_neg c4, if_pos c6, if_pos c7, if_pos c9]; try rfl), by rw [ht]; exact hP9, hD9⟩, hS.F ht⟩) hS.2.2 dMa_follow_148
  by_cases c10 : (f_Fi_kind (f_Pr_at pf cnt a1)) = (4 : Int32)
  · skip
    refine lv_tableIn (tgt := 156) (off := 146) hx hb dMa_follow_10 (by rw [c10]; decide) (by rw [c10]; decide) (by rw [c10]; rfl) (by decide) ?_
    refine lv_aload_n hx hb dMa_follow_156 rfl (lv_at hl 1 rfl) ?_
    refine va_get (D := G) (ci := 2) (v := .ref h5) (C := RMa) (T := TMa) (N := 2) hx hb hT inMa hown hK hP 0 rfl rfl 0 (by decide) (hT _ mw_77) (fun _ h9 => h9) rfl dMa_follow_157 ?_
    refine lv_lload_n hx hb dMa_follow_160 rfl (lv_at hl 0 rfl) ?_
    refine va_calli (va_runS (As := [.long (f_Pr_at pf cnt a1)]) (rest := [.ref h5]) ⟨hx, hb, hml, hown, hT⟩ (c_Fi_target l s.heap (f_Pr_at pf cnt a1)) (va_cwS 1 hT (gB_SV mw_456 mw_147 mw_16 mw_148) rfl rfl rfl (by decide +kernel) ⟨Nat.le_of_ble_eq_true rfl, Nat.le_of_ble_eq_true rfl⟩) ⟨fun _ _ _ _ q => q, fun U hU hW => ⟨rfl, hU⟩⟩ rfl rfl hl.1 rfl (lv_room (Nat.le_of_ble_eq_true rfl)) dMa_follow_161 ⟨Nat.zero_le _, Nat.zero_le _⟩) hS (fun _ _ h => h.elim) (fun _ h => h.elim) (fun r u t H1 locs ht hvm hw hB hz8 hk8 hS => ?_)
    obtain rfl : s.heap = H1 := hB.symm.trans ht
    subst hw
    refine lv_aload_n hx hb dMa_follow_164 rfl (lv_at hl 1 rfl) ?_
    refine lv_lload_n hx hb dMa_follow_165 rfl (lv_at hl 0 rfl) ?_
    have hPc := hP.sub (ws' := [(h4, .inr (2, [.ref h5, .ref h2])), (h5, .inl (cL, 16, .inr (.inl rf)))]) [0, 1] rfl
    refine va_calll (va_runV (As := [.long (f_Pr_at pf cnt a1)]) (rest := [.int (f_Fi_target (f_Pr_at pf cnt a1)), .ref h5]) ⟨hx, hb, hml, hown, hT⟩ (c_Ma_computed l G cB cL cI s.heap h4 h5 h2 rf (f_Pr_at pf cnt a1) hPc ) (cwV 1 hT (gB_V mw_523 mw_524 mw_525 mw_4 mw_526) rfl rfl rfl (by decide +kernel) ⟨Nat.le_of_ble_eq_true rfl, Nat.le_of_ble_eq_true rfl⟩) ⟨fun a U g mk q => ⟨q.1, q.2.1, va_K.moved (u := U) (U := U.calling g mk a) (Vm.Alike.refl U.vm) q.2.2⟩, va_recv hK hPc (ci := 2) (q0 := 0) rfl rfl, fun U hU hW => ⟨rfl, hU, va_K.moved hW.alike hK⟩⟩ rfl rfl hl.1 rfl (lv_room (Nat.le_of_ble_eq_true rfl)) dMa_follow_166 ⟨Nat.zero_le _, Nat.zero_le _⟩) hS (fun _ _ h => h.elim) (fun _ h => h.elim) (fun r u t H1 locs ht hvm hw hB hz8 hk8 hS => ?_)
    obtain rfl : s.heap = H1 := hB.symm.trans ht
    subst hw
    refine va_last hx hb hK hP hD hS 1 1 rfl rfl (in_Fi_target (f_Pr_at pf cnt a1)) dMa_follow_169 (fun H locs hP hD hS => ?_)
    have hP : va_P G vwCl [(h4, .inr (2, [.ref h5, .ref h2])), (h5, .inl (cL, 16, .inr (.inl (vp_updL rf (f_Fi_target (f_Pr_at pf cnt a1)).toNatClampNeg (f_Ma_computed rf (f_Pr_at pf cnt a1)))))), (h2, .inr (1, [.ref h3])), (h3, .inl (cB, 4096, .inl mf)), (h0, .inr (0, [.ref h1, .int cnt])), (h1, .inl (cL, pn, .inr (.inl pf)))] H := hP
    have hD : va_D A [(h4, .inr (2, [.ref h5, .ref h2])), (h5, .inl (cL, 16, .inr (.inl (vp_updL rf (f_Fi_target (f_Pr_at pf cnt a1)).toNatClampNeg (f_Ma_computed rf (f_Pr_at pf cnt a1)))))), (h2, .inr (1, [.ref h3])), (h3, .inl (cB, 4096, .inl mf)), (h0, .inr (0, [.ref h1, .int cnt])), (h1, .inl (cL, pn, .inr (.inl pf)))] := hD
    refine lv_iload_n hx hb dMa_follow_170 rfl (lv_at hl 3 rfl) ?_
    refine lv_iconst (v := (1 : Int32)) hx hb dMa_follow_171 (by decide) ?_
    refine lv_iadd hx hb dMa_follow_172 ?_
    have hP9 := hP.sub (ws' := [(h4, .inr (2, [.ref h5, .ref h2])), (h5, .inl (cL, 16, .inr (.inl (vp_updL rf (f_Fi_target (f_Pr_at pf cnt a1)).toNatClampNeg (f_Ma_computed rf (f_Pr_at pf cnt a1)))))), (h2, .inr (1, [.ref h3])), (h3, .inl (cB, 4096, .inl mf)), (h0, .inr (0, [.ref h1, .int cnt])), (h1, .inl (cL, pn, .inr (.inl pf)))]) [0, 1, 2, 3, 4, 5] rfl
    have hD9 := hD.sub (ws' := [(h4, .inr (2, [.ref h5, .ref h2])), (h5, .inl (cL, 16, .inr (.inl (vp_updL rf (f_Fi_target (f_Pr_at pf cnt a1)).toNatClampNeg (f_Ma_computed rf (f_Pr_at pf cnt a1)))))), (h2, .inr (1, [.ref h3])), (h3, .inl (cB, 4096, .inl mf)), (h0, .inr (0, [.ref h1, .int cnt])), (h1, .inl (cL, pn, .inr (.inl pf)))]) [0, 1, 2, 3, 4, 5] (by decide) rfl
    exact W.iret (v := (a1 + (1 : Int32))) hx hb hr (fun t ht hW => ⟨⟨(a1 + (1 : Int32)), ((vp_updL rf (f_Fi_target (f_Pr_at pf cnt a1)).toNatClampNeg (f_Ma_computed rf (f_Pr_at pf cnt a1))), mf), rfl, (by unfold f_Ma_follow; rw [if_neg c1, if_neg c2, if_neg c4, if_neg c6, if_pos c10]; try rfl), by rw [ht]; exact hP9, hD9⟩, hS.F ht⟩) hS.2.2 dMa_follow_173
  by_cases c11 : (f_Fi_kind (f_Pr_at pf cnt a1)) = (5 : Int32)
  · skip
    refine lv_tableIn (tgt := 149) (off := 139) hx hb dMa_follow_10 (by rw [c11]; decide) (by rw [c11]; decide) (by rw [c11]; rfl) (by decide) ?_
    refine lv_aload_n hx hb dMa_follow_149 rfl (lv_at hl 1 rfl) ?_
    refine lv_iload_n hx hb dMa_follow_150 rfl (lv_at hl 3 rfl) ?_
    refine lv_lload_n hx hb dMa_follow_151 rfl (lv_at hl 0 rfl) ?_
    have hPc := hP.sub (ws' := [(h4, .inr (2, [.ref h5, .ref h2])), (h5, .inl (cL, 16, .inr (.inl rf)))]) [0, 1] rfl
    have hDc := hD.sub (ws' := [(h4, .inr (2, [.ref h5, .ref h2])), (h5, .inl (cL, 16, .inr (.inl rf)))]) [0, 1] (by decide) rfl
    have hFc := va_free (wc := [(h4, .inr (2, [.ref h5, .ref h2])), (h5, .inl (cL, 16, .inr (.inl rf)))]) hD hS hA [0, 1] rfl
    refine va_calli (va_runV (As := [.int a1, .long (f_Pr_at pf cnt a1)]) (rest := []) ⟨hx, hb, hml, hown, hT⟩ (c_Ma_jump l G cB cL cI s.heap h4 h5 h2 rf a1 (f_Pr_at pf cnt a1) hPc (hDc.weaken (fun _ _ _ _ => trivial))) (cwV 2 hT (gB_V mw_494 mw_495 mw_496 mw_4 mw_497) rfl rfl rfl (by decide +kernel) ⟨Nat.le_of_ble_eq_true rfl, Nat.le_of_ble_eq_true rfl⟩) ⟨fun a U g mk q => ⟨q.1, q.2.1, va_K.moved (u := U) (U := U.calling g mk a) (Vm.Alike.refl U.vm) q.2.2⟩, va_recv hK hPc (ci := 2) (q0 := 0) rfl rfl, fun U hU hW => ⟨rfl, hU, va_K.moved hW.alike hK⟩⟩ rfl rfl hl.1 rfl (lv_room (Nat.le_of_ble_eq_true rfl)) dMa_follow_152 ⟨Nat.zero_le _, Nat.zero_le _⟩) hS (fun q _ h => hFc q h) hFc (fun r u t H locs ht hvm hw hB hz8 hk8 hS => ?_)
    obtain ⟨rfl, rfl⟩ : r = (f_Ma_jump rf a1 (f_Pr_at pf cnt a1)).1 ∧ u = (f_Ma_jump rf a1 (f_Pr_at pf cnt a1)).2 := by rw [← hw]; exact ⟨rfl, rfl⟩
    obtain ⟨hP1, hD1⟩ := hB
    rw [ht] at hP1
    obtain ⟨hP, hD⟩ := va_join (wr := [(h2, .inr (1, [.ref h3])), (h3, .inl (cB, 4096, .inl mf)), (h0, .inr (0, [.ref h1, .int cnt])), (h1, .inl (cL, pn, .inr (.inl pf)))]) (w1 := [(h4, .inr (2, [.ref h5, .ref h2])), (h5, .inl (cL, 16, .inr (.inl ((f_Ma_jump rf a1 (f_Pr_at pf cnt a1)).2))))]) hP hD [0, 1] [2, 3, 4, 5] rfl rfl (by decide) (by decide) hk8 hFc hP1 hD1
    have hP : va_P G vwCl [(h2, .inr (1, [.ref h3])), (h3, .inl (cB, 4096, .inl mf)), (h0, .inr (0, [.ref h1, .int cnt])), (h1, .inl (cL, pn, .inr (.inl pf))), (h4, .inr (2, [.ref h5, .ref h2])), (h5, .inl (cL, 16, .inr (.inl ((f_Ma_jump rf a1 (f_Pr_at pf cnt a1)).2))))] H := hP
    have hD : va_D A [(h2, .inr (1, [.ref h3])), (h3, .inl (cB, 4096, .inl mf)), (h0, .inr (0, [.ref h1, .int cnt])), (h1, .inl (cL, pn, .inr (.inl pf))), (h4, .inr (2, [.ref h5, .ref h2])), (h5, .inl (cL, 16, .inr (.inl ((f_Ma_jump rf a1 (f_Pr_at pf cnt a1)).2))))] := hD
    have hP9 := hP.sub (ws' := [(h4, .inr (2, [.ref h5, .ref h2])), (h5, .inl (cL, 16, .inr (.inl ((f_Ma_jump rf a1 (f_Pr_at pf cnt a1)).2)))), (h2, .inr (1, [.ref h3])), (h3, .inl (cB, 4096, .inl mf)), (h0, .inr (0, [.ref h1, .int cnt])), (h1, .inl (cL, pn, .inr (.inl pf)))]) [4, 5, 0, 1, 2, 3] rfl
    have hD9 := hD.sub (ws' := [(h4, .inr (2, [.ref h5, .ref h2])), (h5, .inl (cL, 16, .inr (.inl ((f_Ma_jump rf a1 (f_Pr_at pf cnt a1)).2)))), (h2, .inr (1, [.ref h3])), (h3, .inl (cB, 4096, .inl mf)), (h0, .inr (0, [.ref h1, .int cnt])), (h1, .inl (cL, pn, .inr (.inl pf)))]) [4, 5, 0, 1, 2, 3] (by decide) rfl
    exact W.iret (v := (f_Ma_jump rf a1 (f_Pr_at pf cnt a1)).1) hx hb hr (fun t ht hW => ⟨⟨(f_Ma_jump rf a1 (f_Pr_at pf cnt a1)).1, (((f_Ma_jump rf a1 (f_Pr_at pf cnt a1)).2), mf), rfl, (by unfold f_Ma_follow; rw [if_neg c1, if_neg c2, if_neg c4, if_neg c6, if_neg c10, if_pos c11]; try rfl), by rw [ht]; exact hP9, hD9⟩, hS.F ht⟩) hS.2.2 dMa_follow_155
  by_cases c12 : (f_Fi_kind (f_Pr_at pf cnt a1)) = (6 : Int32)
  · skip
    refine lv_tableIn (tgt := 149) (off := 139) hx hb dMa_follow_10 (by rw [c12]; decide) (by rw [c12]; decide) (by rw [c12]; rfl) (by decide) ?_
    refine lv_aload_n hx hb dMa_follow_149 rfl (lv_at hl 1 rfl) ?_
    refine lv_iload_n hx hb dMa_follow_150 rfl (lv_at hl 3 rfl) ?_
    refine lv_lload_n hx hb dMa_follow_151 rfl (lv_at hl 0 rfl) ?_
    have hPc := hP.sub (ws' := [(h4, .inr (2, [.ref h5, .ref h2])), (h5, .inl (cL, 16, .inr (.inl rf)))]) [0, 1] rfl
    have hDc := hD.sub (ws' := [(h4, .inr (2, [.ref h5, .ref h2])), (h5, .inl (cL, 16, .inr (.inl rf)))]) [0, 1] (by decide) rfl
    have hFc := va_free (wc := [(h4, .inr (2, [.ref h5, .ref h2])), (h5, .inl (cL, 16, .inr (.inl rf)))]) hD hS hA [0, 1] rfl
    refine va_calli (va_runV (As := [.int a1, .long (f_Pr_at pf cnt a1)]) (rest := []) ⟨hx, hb, hml, hown, hT⟩ (c_Ma_jump l G cB cL cI s.heap h4 h5 h2 rf a1 (f_Pr_at pf cnt a1) hPc (hDc.weaken (fun _ _ _ _ => trivial))) (cwV 2 hT (gB_V mw_494 mw_495 mw_496 mw_4 mw_497) rfl rfl rfl (by decide +kernel) ⟨Nat.le_of_ble_eq_true rfl, Nat.le_of_ble_eq_true rfl⟩) ⟨fun a U g mk q => ⟨q.1, q.2.1, va_K.moved (u := U) (U := U.calling g mk a) (Vm.Alike.refl U.vm) q.2.2⟩, va_recv hK hPc (ci := 2) (q0 := 0) rfl rfl, fun U hU hW => ⟨rfl, hU, va_K.moved hW.alike hK⟩⟩ rfl rfl hl.1 rfl (lv_room (Nat.le_of_ble_eq_true rfl)) dMa_follow_152 ⟨Nat.zero_le _, Nat.zero_le _⟩) hS (fun q _ h => hFc q h) hFc (fun r u t H locs ht hvm hw hB hz8 hk8 hS => ?_)
    obtain ⟨rfl, rfl⟩ : r = (f_Ma_jump rf a1 (f_Pr_at pf cnt a1)).1 ∧ u = (f_Ma_jump rf a1 (f_Pr_at pf cnt a1)).2 := by rw [← hw]; exact ⟨rfl, rfl⟩
    obtain ⟨hP1, hD1⟩ := hB
    rw [ht] at hP1
    obtain ⟨hP, hD⟩ := va_join (wr := [(h2, .inr (1, [.ref h3])), (h3, .inl (cB, 4096, .inl mf)), (h0, .inr (0, [.ref h1, .int cnt])), (h1, .inl (cL, pn, .inr (.inl pf)))]) (w1 := [(h4, .inr (2, [.ref h5, .ref h2])), (h5, .inl (cL, 16, .inr (.inl ((f_Ma_jump rf a1 (f_Pr_at pf cnt a1)).2))))]) hP hD [0, 1] [2, 3, 4, 5] rfl rfl (by decide) (by decide) hk8 hFc hP1 hD1
    have hP : va_P G vwCl [(h2, .inr (1, [.ref h3])), (h3, .inl (cB, 4096, .inl mf)), (h0, .inr (0, [.ref h1, .int cnt])), (h1, .inl (cL, pn, .inr (.inl pf))), (h4, .inr (2, [.ref h5, .ref h2])), (h5, .inl (cL, 16, .inr (.inl ((f_Ma_jump rf a1 (f_Pr_at pf cnt a1)).2))))] H := hP
    have hD : va_D A [(h2, .inr (1, [.ref h3])), (h3, .inl (cB, 4096, .inl mf)), (h0, .inr (0, [.ref h1, .int cnt])), (h1, .inl (cL, pn, .inr (.inl pf))), (h4, .inr (2, [.ref h5, .ref h2])), (h5, .inl (cL, 16, .inr (.inl ((f_Ma_jump rf a1 (f_Pr_at pf cnt a1)).2))))] := hD
    have hP9 := hP.sub (ws' := [(h4, .inr (2, [.ref h5, .ref h2])), (h5, .inl (cL, 16, .inr (.inl ((f_Ma_jump rf a1 (f_Pr_at pf cnt a1)).2)))), (h2, .inr (1, [.ref h3])), (h3, .inl (cB, 4096, .inl mf)), (h0, .inr (0, [.ref h1, .int cnt])), (h1, .inl (cL, pn, .inr (.inl pf)))]) [4, 5, 0, 1, 2, 3] rfl
    have hD9 := hD.sub (ws' := [(h4, .inr (2, [.ref h5, .ref h2])), (h5, .inl (cL, 16, .inr (.inl ((f_Ma_jump rf a1 (f_Pr_at pf cnt a1)).2)))), (h2, .inr (1, [.ref h3])), (h3, .inl (cB, 4096, .inl mf)), (h0, .inr (0, [.ref h1, .int cnt])), (h1, .inl (cL, pn, .inr (.inl pf)))]) [4, 5, 0, 1, 2, 3] (by decide) rfl
    exact W.iret (v := (f_Ma_jump rf a1 (f_Pr_at pf cnt a1)).1) hx hb hr (fun t ht hW => ⟨⟨(f_Ma_jump rf a1 (f_Pr_at pf cnt a1)).1, (((f_Ma_jump rf a1 (f_Pr_at pf cnt a1)).2), mf), rfl, (by unfold f_Ma_follow; rw [if_neg c1, if_neg c2, if_neg c4, if_neg c6, if_neg c10, if_neg c11, if_pos c12]; try rfl), by rw [ht]; exact hP9, hD9⟩, hS.F ht⟩) hS.2.2 dMa_follow_155
  refine lv_tableOut (tgt := 156) hx hb dMa_follow_10 (by have h0 := lv_neT c1 (a := 0) (by decide); have h1 := lv_neT c2 (a := 1) (by decide); have h2 := lv_neT c4 (a := 2) (by decide); have h3 := lv_neT c6 (a := 3) (by decide); have h4 := lv_neT c10 (a := 4) (by decide); have h5 := lv_neT c11 (a := 5) (by decide); have h6 := lv_neT c12 (a := 6) (by decide); omega) (by decide) ?_
  refine lv_aload_n hx hb dMa_follow_156 rfl (lv_at hl 1 rfl) ?_
  refine va_get (D := G) (ci := 2) (v := .ref h5) (C := RMa) (T := TMa) (N := 2) hx hb hT inMa hown hK hP 0 rfl rfl 0 (by decide) (hT _ mw_77) (fun _ h9 => h9) rfl dMa_follow_157 ?_
  refine lv_lload_n hx hb dMa_follow_160 rfl (lv_at hl 0 rfl) ?_
  refine va_calli (va_runS (As := [.long (f_Pr_at pf cnt a1)]) (rest := [.ref h5]) ⟨hx, hb, hml, hown, hT⟩ (c_Fi_target l s.heap (f_Pr_at pf cnt a1)) (va_cwS 1 hT (gB_SV mw_456 mw_147 mw_16 mw_148) rfl rfl rfl (by decide +kernel) ⟨Nat.le_of_ble_eq_true rfl, Nat.le_of_ble_eq_true rfl⟩) ⟨fun _ _ _ _ q => q, fun U hU hW => ⟨rfl, hU⟩⟩ rfl rfl hl.1 rfl (lv_room (Nat.le_of_ble_eq_true rfl)) dMa_follow_161 ⟨Nat.zero_le _, Nat.zero_le _⟩) hS (fun _ _ h => h.elim) (fun _ h => h.elim) (fun r u t H1 locs ht hvm hw hB hz8 hk8 hS => ?_)
  obtain rfl : s.heap = H1 := hB.symm.trans ht
  subst hw
  refine lv_aload_n hx hb dMa_follow_164 rfl (lv_at hl 1 rfl) ?_
  refine lv_lload_n hx hb dMa_follow_165 rfl (lv_at hl 0 rfl) ?_
  have hPc := hP.sub (ws' := [(h4, .inr (2, [.ref h5, .ref h2])), (h5, .inl (cL, 16, .inr (.inl rf)))]) [0, 1] rfl
  refine va_calll (va_runV (As := [.long (f_Pr_at pf cnt a1)]) (rest := [.int (f_Fi_target (f_Pr_at pf cnt a1)), .ref h5]) ⟨hx, hb, hml, hown, hT⟩ (c_Ma_computed l G cB cL cI s.heap h4 h5 h2 rf (f_Pr_at pf cnt a1) hPc ) (cwV 1 hT (gB_V mw_523 mw_524 mw_525 mw_4 mw_526) rfl rfl rfl (by decide +kernel) ⟨Nat.le_of_ble_eq_true rfl, Nat.le_of_ble_eq_true rfl⟩) ⟨fun a U g mk q => ⟨q.1, q.2.1, va_K.moved (u := U) (U := U.calling g mk a) (Vm.Alike.refl U.vm) q.2.2⟩, va_recv hK hPc (ci := 2) (q0 := 0) rfl rfl, fun U hU hW => ⟨rfl, hU, va_K.moved hW.alike hK⟩⟩ rfl rfl hl.1 rfl (lv_room (Nat.le_of_ble_eq_true rfl)) dMa_follow_166 ⟨Nat.zero_le _, Nat.zero_le _⟩) hS (fun _ _ h => h.elim) (fun _ h => h.elim) (fun r u t H1 locs ht hvm hw hB hz8 hk8 hS => ?_)
  obtain rfl : s.heap = H1 := hB.symm.trans ht
  subst hw
  refine va_last hx hb hK hP hD hS 1 1 rfl rfl (in_Fi_target (f_Pr_at pf cnt a1)) dMa_follow_169 (fun H locs hP hD hS => ?_)
  have hP : va_P G vwCl [(h4, .inr (2, [.ref h5, .ref h2])), (h5, .inl (cL, 16, .inr (.inl (vp_updL rf (f_Fi_target (f_Pr_at pf cnt a1)).toNatClampNeg (f_Ma_computed rf (f_Pr_at pf cnt a1)))))), (h2, .inr (1, [.ref h3])), (h3, .inl (cB, 4096, .inl mf)), (h0, .inr (0, [.ref h1, .int cnt])), (h1, .inl (cL, pn, .inr (.inl pf)))] H := hP
  have hD : va_D A [(h4, .inr (2, [.ref h5, .ref h2])), (h5, .inl (cL, 16, .inr (.inl (vp_updL rf (f_Fi_target (f_Pr_at pf cnt a1)).toNatClampNeg (f_Ma_computed rf (f_Pr_at pf cnt a1)))))), (h2, .inr (1, [.ref h3])), (h3, .inl (cB, 4096, .inl mf)), (h0, .inr (0, [.ref h1, .int cnt])), (h1, .inl (cL, pn, .inr (.inl pf)))] := hD
  refine lv_iload_n hx hb dMa_follow_170 rfl (lv_at hl 3 rfl) ?_
  refine lv_iconst (v := (1 : Int32)) hx hb dMa_follow_171 (by decide) ?_
  refine lv_iadd hx hb dMa_follow_172 ?_
  have hP9 := hP.sub (ws' := [(h4, .inr (2, [.ref h5, .ref h2])), (h5, .inl (cL, 16, .inr (.inl (vp_updL rf (f_Fi_target (f_Pr_at pf cnt a1)).toNatClampNeg (f_Ma_computed rf (f_Pr_at pf cnt a1)))))), (h2, .inr (1, [.ref h3])), (h3, .inl (cB, 4096, .inl mf)), (h0, .inr (0, [.ref h1, .int cnt])), (h1, .inl (cL, pn, .inr (.inl pf)))]) [0, 1, 2, 3, 4, 5] rfl
  have hD9 := hD.sub (ws' := [(h4, .inr (2, [.ref h5, .ref h2])), (h5, .inl (cL, 16, .inr (.inl (vp_updL rf (f_Fi_target (f_Pr_at pf cnt a1)).toNatClampNeg (f_Ma_computed rf (f_Pr_at pf cnt a1)))))), (h2, .inr (1, [.ref h3])), (h3, .inl (cB, 4096, .inl mf)), (h0, .inr (0, [.ref h1, .int cnt])), (h1, .inl (cL, pn, .inr (.inl pf)))]) [0, 1, 2, 3, 4, 5] (by decide) rfl
  exact W.iret (v := (a1 + (1 : Int32))) hx hb hr (fun t ht hW => ⟨⟨(a1 + (1 : Int32)), ((vp_updL rf (f_Fi_target (f_Pr_at pf cnt a1)).toNatClampNeg (f_Ma_computed rf (f_Pr_at pf cnt a1))), mf), rfl, (by unfold f_Ma_follow; rw [if_neg c1, if_neg c2, if_neg c4, if_neg c6, if_neg c10, if_neg c11, if_neg c12]; try rfl), by rw [ht]; exact hP9, hD9⟩, hS.F ht⟩) hS.2.2 dMa_follow_173
