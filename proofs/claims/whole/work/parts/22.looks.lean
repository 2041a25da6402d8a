def l_Fo_firstWrongForItself_2 (pf : Nat → Int64) (cnt : Int32) (a1 : Bool) : Nat → (Int32) → Int32
  | 0, _ => default
  | n + 1, p9 =>
    if cnt ≤ p9 then
      if a1 = true then
        cnt
      else
        if cnt = 0 then
          cnt
        else
          (-1 : Int32)
    else
      if (f_Fo_isInstruction (f_Pr_at pf cnt p9)) = true then
        if (f_Fi_isTwoPlaces (f_Pr_at pf cnt p9)) = true then
          if (f_Pr_has cnt ((p9 + (1 : Int32)).toInt64)) = true then
            if (f_Fo_isSecondOf (f_Pr_at pf cnt p9) (f_Pr_at pf cnt (p9 + (1 : Int32)))) = true then
              l_Fo_firstWrongForItself_2 pf cnt a1 n ((p9 + (1 : Int32)) + (1 : Int32))
            else
              p9
          else
            p9
        else
          l_Fo_firstWrongForItself_2 pf cnt a1 n (p9 + (1 : Int32))
      else
        p9
def f_Fo_firstWrongForItself (pf : Nat → Int64) (cnt : Int32) (a1 : Bool) : Int32 :=
  l_Fo_firstWrongForItself_2 pf cnt a1 (cnt.toNatClampNeg + 1) (0 : Int32)
set_option maxHeartbeats 4000000 in
set_option maxRecDepth 100000 in
theorem c_Fo_firstWrongForItself (l : Launch) (G : va_G) (cB cL cI : ClassId) (Hp : Heap) (h0 : Nat) (h1 : Nat) (pn : Nat) (pf : Nat → Int64) (cnt : Int32) (a1 : Bool) (hP : va_P G vwCl [(h0, .inr (0, [.ref h1, .int cnt])), (h1, .inl (cL, pn, .inr (.inl pf)))] Hp) (hc : cnt.toInt ≤ pn) (hn : pn < 1073741824) : Met l yFo_firstWrongForItself wsFo_firstWrongForItself ({ frames := 4, cells := 0, slots := 0, locals := 85 }) (va_Pc [.ref h0, .int (bI a1)] (fun U => U.heap = Hp ∧ va_K G vwCl [(cB, .byte), (cL, .long), (cI, .int)] U)) (va_Qi (fun (r : Int32) (_ : Unit) => r = (f_Fo_firstWrongForItself pf cnt a1)) (fun _ t => t.heap = Hp) (fun _ => False)) 0 0 (fun _ => False) := by
  refine Met.ofW (cc := cFo_firstWrongForItself) (maxL := 5) (ret := (some .int)) (by decide) rfl ?_
  intro p e s m args below meth c s₁ B hml hv
  obtain ⟨rfl, rfl, hK⟩ := hv
  have hx := B.exec
  have hb := B.bytes
  have hr := B.returns
  have hT : ∀ w ∈ tB, w.before _ s = true := fun w h => atoms_spec (ws := wsFo_firstWrongForItself) B.pre w (List.mem_cons_of_mem _ h)
  have hown : s.vm.findClass "CompiledProgram$Form" = some m.cls := findClass_of_methodNamed B.named
  have hlocks := B.notSynchronized
  have hA : ∀ q : Nat, (fun _ : Nat => False) q → False := fun _ h => h
  have hS : va_S (fun _ => False) s.heap s.heap [] := va_S.rf
  have hl := lv_entry ([.ref h0, .int (bI a1)]) (n := 5) (Nat.le_of_ble_eq_true rfl)
  rw [lg_entry_eq]
  generalize (lg_sl ([.ref h0, .int (bI a1)]) ++ List.replicate (5 - (lg_sl ([.ref h0, .int (bI a1)])).length) Slot.unset).toArray = ls at hl ⊢
  have hl : lv_has ls 5 [(0, .ref h0), (1, .int (bI a1))] := hl
  refine lv_iconst (v := (0 : Int32)) hx hb dFo_firstWrongForItself_0 (by decide) ?_
  refine lv_istore_n (lv' := [(2, .int (0 : Int32)), (0, .ref h0), (1, .int (bI a1))]) hx hb dFo_firstWrongForItself_1 rfl hl (by decide) rfl (fun ls hl => ?_)
  have loop : ∀ (n : Nat) (p9 : Int32), (0 ≤ p9.toInt) → (cnt.toInt - p9.toInt).toNat < n → (f_Fo_firstWrongForItself pf cnt a1) = l_Fo_firstWrongForItself_2 pf cnt a1 n p9 → ∀ (locs : List Loc), va_S (fun _ => False) s.heap s.heap locs → ∀ (ls : Array Slot), lv_has ls 5 [(2, .int p9), (0, .ref h0), (1, .int (bI a1))] → W p l e (headSpec wsFo_firstWrongForItself ({ frames := 4, cells := 0, slots := 0, locals := 85 })).room s m ([.ref h0, .int (bI a1)] : List Value).toArray below meth c s.heap locs 0 0 (MQ below (va_Qi (fun (r : Int32) (_ : Unit) => r = (f_Fo_firstWrongForItself pf cnt a1)) (fun _ t => t.heap = s.heap) (fun _ => False)) ([.ref h0, .int (bI a1)] : List Value).toArray s 0 0 (fun _ => False)) (F0 m 2 ls []) := by
    intro n
    induction n with
    | zero =>
      intro p9 hp hM
      exact absurd hM (Nat.not_lt_zero _)
    | succ n ih =>
      intro p9 hp hM hE locs hS ls hl
      refine lv_iload_n hx hb dFo_firstWrongForItself_2 rfl (lv_at hl 0 rfl) ?_
      refine lv_aload_n hx hb dFo_firstWrongForItself_3 rfl (lv_at hl 1 rfl) ?_
      refine va_get (D := G) (ci := 0) (v := .int cnt) (C := RPr) (T := TPr) (N := 2) hx hb hT inPr hown hK hP 0 rfl rfl 1 (by decide) (hT _ mw_53) (fun _ h9 => h9) rfl dFo_firstWrongForItself_4 ?_
      refine lv_icmp_ge (tgt := 68) hx hb dFo_firstWrongForItself_7 (by decide) (fun c1 => ?_) (fun c1 => ?_)
      · skip
        refine lv_iload_n hx hb dFo_firstWrongForItself_68 rfl (lv_at hl 2 rfl) ?_
        refine lv_if_ne (tgt := 79) hx hb dFo_firstWrongForItself_69 (by decide) (fun c2 => ?_) (fun c2 => ?_)
        · have c2 := bI_n c2
          refine lv_aload_n hx hb dFo_firstWrongForItself_79 rfl (lv_at hl 1 rfl) ?_
          refine va_get (D := G) (ci := 0) (v := .int cnt) (C := RPr) (T := TPr) (N := 2) hx hb hT inPr hown hK hP 0 rfl rfl 1 (by decide) (hT _ mw_53) (fun _ h9 => h9) rfl dFo_firstWrongForItself_80 ?_
          refine lv_goto (tgt := 87) hx hb dFo_firstWrongForItself_83 (by decide) ?_
          exact W.iret (v := cnt) hx hb hr (fun t ht hW => ⟨⟨cnt, (), rfl, (by rw [hE, l_Fo_firstWrongForItself_2, if_pos c1, if_pos c2]; try rfl), ht⟩, hS.F ht⟩) hS.2.2 dFo_firstWrongForItself_87
        · have c2 := bI_z c2
          refine lv_aload_n hx hb dFo_firstWrongForItself_72 rfl (lv_at hl 1 rfl) ?_
          refine va_get (D := G) (ci := 0) (v := .int cnt) (C := RPr) (T := TPr) (N := 2) hx hb hT inPr hown hK hP 0 rfl rfl 1 (by decide) (hT _ mw_53) (fun _ h9 => h9) rfl dFo_firstWrongForItself_73 ?_
          refine lv_if_ne (tgt := 86) hx hb dFo_firstWrongForItself_76 (by decide) (fun c3 => ?_) (fun c3 => ?_)
          · skip
            refine lv_iconst (v := (-1 : Int32)) hx hb dFo_firstWrongForItself_86 (by decide) ?_
            exact W.iret (v := (-1 : Int32)) hx hb hr (fun t ht hW => ⟨⟨(-1 : Int32), (), rfl, (by rw [hE, l_Fo_firstWrongForItself_2, if_pos c1, if_neg c2, if_neg c3]; try rfl), ht⟩, hS.F ht⟩) hS.2.2 dFo_firstWrongForItself_87
          · skip
            refine lv_aload_n hx hb dFo_firstWrongForItself_79 rfl (lv_at hl 1 rfl) ?_
            refine va_get (D := G) (ci := 0) (v := .int cnt) (C := RPr) (T := TPr) (N := 2) hx hb hT inPr hown hK hP 0 rfl rfl 1 (by decide) (hT _ mw_53) (fun _ h9 => h9) rfl dFo_firstWrongForItself_80 ?_
            refine lv_goto (tgt := 87) hx hb dFo_firstWrongForItself_83 (by decide) ?_
            exact W.iret (v := cnt) hx hb hr (fun t ht hW => ⟨⟨cnt, (), rfl, (by rw [hE, l_Fo_firstWrongForItself_2, if_pos c1, if_neg c2, if_pos c3]; try rfl), ht⟩, hS.F ht⟩) hS.2.2 dFo_firstWrongForItself_87
      · skip
        refine lv_aload_n hx hb dFo_firstWrongForItself_10 rfl (lv_at hl 1 rfl) ?_
        refine lv_iload_n hx hb dFo_firstWrongForItself_11 rfl (lv_at hl 0 rfl) ?_
        have hPc := hP.sub (ws' := [(h0, .inr (0, [.ref h1, .int cnt])), (h1, .inl (cL, pn, .inr (.inl pf)))]) [0, 1] rfl
        refine va_calll (va_runV (As := [.int p9]) (rest := []) ⟨hx, hb, hml, hown, hT⟩ (c_Pr_at l G cB cL cI s.heap h0 h1 pn pf cnt p9 hPc hc) (cwV 1 hT (gB_V mw_120 mw_121 mw_122 mw_3 mw_123) rfl rfl rfl (by decide +kernel) ⟨Nat.le_of_ble_eq_true rfl, Nat.le_of_ble_eq_true rfl⟩) ⟨fun a U g mk q => ⟨q.1, q.2.1, va_K.moved (u := U) (U := U.calling g mk a) (Vm.Alike.refl U.vm) q.2.2⟩, va_recv hK hPc (ci := 0) (q0 := 0) rfl rfl, fun U hU hW => ⟨rfl, hU, va_K.moved hW.alike hK⟩⟩ rfl rfl hl.1 rfl (lv_room (Nat.le_of_ble_eq_true rfl)) dFo_firstWrongForItself_12 ⟨Nat.zero_le _, Nat.zero_le _⟩) hS (fun _ _ h => h.elim) (fun _ h => h.elim) (fun r u t H1 locs ht hvm hw hB hz8 hk8 hS => ?_)
        obtain rfl : s.heap = H1 := hB.symm.trans ht
        subst hw
        refine lv_lstore_n (lv' := [(3, .long (f_Pr_at pf cnt p9)), (2, .int p9), (0, .ref h0), (1, .int (bI a1))]) hx hb dFo_firstWrongForItself_15 rfl hl (by decide) rfl (fun ls hl => ?_)
        refine lv_lload_n hx hb dFo_firstWrongForItself_16 rfl (lv_at hl 0 rfl) ?_
        refine va_calli (va_runS (As := [.long (f_Pr_at pf cnt p9)]) (rest := []) ⟨hx, hb, hml, hown, hT⟩ (c_Fo_isInstruction l s.heap (f_Pr_at pf cnt p9)) (cwS 1 hT (gB_S mw_128 mw_129 mw_15 mw_130) rfl rfl rfl (by decide +kernel) ⟨Nat.le_of_ble_eq_true rfl, Nat.le_of_ble_eq_true rfl⟩) ⟨fun _ _ _ _ q => q, fun U hU hW => ⟨rfl, hU⟩⟩ rfl rfl hl.1 rfl (lv_room (Nat.le_of_ble_eq_true rfl)) dFo_firstWrongForItself_17 ⟨Nat.zero_le _, Nat.zero_le _⟩) hS (fun _ _ h => h.elim) (fun _ h => h.elim) (fun r u t H1 locs ht hvm hw hB hz8 hk8 hS => ?_)
        obtain rfl : s.heap = H1 := hB.symm.trans ht
        subst hw
        refine lv_if_ne (tgt := 25) hx hb dFo_firstWrongForItself_20 (by decide) (fun c4 => ?_) (fun c4 => ?_)
        · have c4 := bI_n c4
          refine lv_lload_n hx hb dFo_firstWrongForItself_25 rfl (lv_at hl 0 rfl) ?_
          refine va_calli (va_runS (As := [.long (f_Pr_at pf cnt p9)]) (rest := []) ⟨hx, hb, hml, hown, hT⟩ (c_Fi_isTwoPlaces l s.heap (f_Pr_at pf cnt p9)) (va_cwS 1 hT (gB_SV mw_140 mw_141 mw_16 mw_142) rfl rfl rfl (by decide +kernel) ⟨Nat.le_of_ble_eq_true rfl, Nat.le_of_ble_eq_true rfl⟩) ⟨fun _ _ _ _ q => q, fun U hU hW => ⟨rfl, hU⟩⟩ rfl rfl hl.1 rfl (lv_room (Nat.le_of_ble_eq_true rfl)) dFo_firstWrongForItself_26 ⟨Nat.zero_le _, Nat.zero_le _⟩) hS (fun _ _ h => h.elim) (fun _ h => h.elim) (fun r u t H1 locs ht hvm hw hB hz8 hk8 hS => ?_)
          obtain rfl : s.heap = H1 := hB.symm.trans ht
          subst hw
          refine lv_if_eq (tgt := 62) hx hb dFo_firstWrongForItself_29 (by decide) (fun c5 => ?_) (fun c5 => ?_)
          · have c5 := bI_z c5
            refine lv_iinc (v := (p9 + (1 : Int32))) (lv' := [(2, .int (p9 + (1 : Int32))), (3, .long (f_Pr_at pf cnt p9)), (0, .ref h0), (1, .int (bI a1))]) hx hb dFo_firstWrongForItself_62 hl (k := 1) rfl (by first | rfl | decide) (by decide) rfl (fun ls hl => ?_)
            refine lv_goto (tgt := 2) hx hb dFo_firstWrongForItself_65 (by decide) ?_
            exact ih (p9 + (1 : Int32)) (fw_inv hc hn hp c1 (Or.inl rfl)).1 (Nat.lt_of_lt_of_le (fw_inv hc hn hp c1 (Or.inl rfl)).2 (Nat.le_of_lt_succ hM)) (by rw [hE, l_Fo_firstWrongForItself_2, if_neg c1, if_pos c4, if_neg c5]) _ hS ls (lv_sub hl [0, 2, 3] rfl)
          · have c5 := bI_n c5
            refine lv_aload_n hx hb dFo_firstWrongForItself_32 rfl (lv_at hl 2 rfl) ?_
            refine lv_iload_n hx hb dFo_firstWrongForItself_33 rfl (lv_at hl 1 rfl) ?_
            refine lv_iconst (v := (1 : Int32)) hx hb dFo_firstWrongForItself_34 (by decide) ?_
            refine lv_iadd hx hb dFo_firstWrongForItself_35 ?_
            refine lv_i2l hx hb dFo_firstWrongForItself_36 rfl ?_
            have hPc := hP.sub (ws' := [(h0, .inr (0, [.ref h1, .int cnt])), (h1, .inl (cL, pn, .inr (.inl pf)))]) [0, 1] rfl
            refine va_calli (va_runV (As := [.long ((p9 + (1 : Int32)).toInt64)]) (rest := []) ⟨hx, hb, hml, hown, hT⟩ (c_Pr_has l G cB cL cI s.heap h0 h1 pn pf cnt ((p9 + (1 : Int32)).toInt64) hPc ) (cwV 1 hT (gB_V mw_210 mw_125 mw_126 mw_3 mw_127) rfl rfl rfl (by decide +kernel) ⟨Nat.le_of_ble_eq_true rfl, Nat.le_of_ble_eq_true rfl⟩) ⟨fun a U g mk q => ⟨q.1, q.2.1, va_K.moved (u := U) (U := U.calling g mk a) (Vm.Alike.refl U.vm) q.2.2⟩, va_recv hK hPc (ci := 0) (q0 := 0) rfl rfl, fun U hU hW => ⟨rfl, hU, va_K.moved hW.alike hK⟩⟩ rfl rfl hl.1 rfl (lv_room (Nat.le_of_ble_eq_true rfl)) dFo_firstWrongForItself_37 ⟨Nat.zero_le _, Nat.zero_le _⟩) hS (fun _ _ h => h.elim) (fun _ h => h.elim) (fun r u t H1 locs ht hvm hw hB hz8 hk8 hS => ?_)
            obtain rfl : s.heap = H1 := hB.symm.trans ht
            subst hw
            refine lv_if_eq (tgt := 57) hx hb dFo_firstWrongForItself_40 (by decide) (fun c6 => ?_) (fun c6 => ?_)
            · have c6 := bI_z c6
              refine lv_iload_n hx hb dFo_firstWrongForItself_57 rfl (lv_at hl 1 rfl) ?_
              exact W.iret (v := p9) hx hb hr (fun t ht hW => ⟨⟨p9, (), rfl, (by rw [hE, l_Fo_firstWrongForItself_2, if_neg c1, if_pos c4, if_pos c5, if_neg c6]; try rfl), ht⟩, hS.F ht⟩) hS.2.2 dFo_firstWrongForItself_58
            · have c6 := bI_n c6
              refine lv_lload_n hx hb dFo_firstWrongForItself_43 rfl (lv_at hl 0 rfl) ?_
              refine lv_aload_n hx hb dFo_firstWrongForItself_44 rfl (lv_at hl 2 rfl) ?_
              refine lv_iload_n hx hb dFo_firstWrongForItself_45 rfl (lv_at hl 1 rfl) ?_
              refine lv_iconst (v := (1 : Int32)) hx hb dFo_firstWrongForItself_46 (by decide) ?_
              refine lv_iadd hx hb dFo_firstWrongForItself_47 ?_
              have hPc := hP.sub (ws' := [(h0, .inr (0, [.ref h1, .int cnt])), (h1, .inl (cL, pn, .inr (.inl pf)))]) [0, 1] rfl
              refine va_calll (va_runV (As := [.int (p9 + (1 : Int32))]) (rest := [.long (f_Pr_at pf cnt p9)]) ⟨hx, hb, hml, hown, hT⟩ (c_Pr_at l G cB cL cI s.heap h0 h1 pn pf cnt (p9 + (1 : Int32)) hPc hc) (cwV 1 hT (gB_V mw_120 mw_121 mw_122 mw_3 mw_123) rfl rfl rfl (by decide +kernel) ⟨Nat.le_of_ble_eq_true rfl, Nat.le_of_ble_eq_true rfl⟩) ⟨fun a U g mk q => ⟨q.1, q.2.1, va_K.moved (u := U) (U := U.calling g mk a) (Vm.Alike.refl U.vm) q.2.2⟩, va_recv hK hPc (ci := 0) (q0 := 0) rfl rfl, fun U hU hW => ⟨rfl, hU, va_K.moved hW.alike hK⟩⟩ rfl rfl hl.1 rfl (lv_room (Nat.le_of_ble_eq_true rfl)) dFo_firstWrongForItself_48 ⟨Nat.zero_le _, Nat.zero_le _⟩) hS (fun _ _ h => h.elim) (fun _ h => h.elim) (fun r u t H1 locs ht hvm hw hB hz8 hk8 hS => ?_)
              obtain rfl : s.heap = H1 := hB.symm.trans ht
              subst hw
              refine va_calli (va_runS (As := [.long (f_Pr_at pf cnt p9), .long (f_Pr_at pf cnt (p9 + (1 : Int32)))]) (rest := []) ⟨hx, hb, hml, hown, hT⟩ (c_Fo_isSecondOf l s.heap (f_Pr_at pf cnt p9) (f_Pr_at pf cnt (p9 + (1 : Int32)))) (cwS 2 hT (gB_S mw_211 mw_212 mw_15 mw_213) rfl rfl rfl (by decide +kernel) ⟨Nat.le_of_ble_eq_true rfl, Nat.le_of_ble_eq_true rfl⟩) ⟨fun _ _ _ _ q => q, fun U hU hW => ⟨rfl, hU⟩⟩ rfl rfl hl.1 rfl (lv_room (Nat.le_of_ble_eq_true rfl)) dFo_firstWrongForItself_51 ⟨Nat.zero_le _, Nat.zero_le _⟩) hS (fun _ _ h => h.elim) (fun _ h => h.elim) (fun r u t H1 locs ht hvm hw hB hz8 hk8 hS => ?_)
              obtain rfl : s.heap = H1 := hB.symm.trans ht
              subst hw
              refine lv_if_ne (tgt := 59) hx hb dFo_firstWrongForItself_54 (by decide) (fun c7 => ?_) (fun c7 => ?_)
              · have c7 := bI_n c7
                refine lv_iinc (v := (p9 + (1 : Int32))) (lv' := [(2, .int (p9 + (1 : Int32))), (3, .long (f_Pr_at pf cnt p9)), (0, .ref h0), (1, .int (bI a1))]) hx hb dFo_firstWrongForItself_59 hl (k := 1) rfl (by first | rfl | decide) (by decide) rfl (fun ls hl => ?_)
                refine lv_iinc (v := ((p9 + (1 : Int32)) + (1 : Int32))) (lv' := [(2, .int ((p9 + (1 : Int32)) + (1 : Int32))), (3, .long (f_Pr_at pf cnt p9)), (0, .ref h0), (1, .int (bI a1))]) hx hb dFo_firstWrongForItself_62 hl (k := 0) rfl (by first | rfl | decide) (by decide) rfl (fun ls hl => ?_)
                refine lv_goto (tgt := 2) hx hb dFo_firstWrongForItself_65 (by decide) ?_
                exact ih ((p9 + (1 : Int32)) + (1 : Int32)) (fw_inv hc hn hp c1 (Or.inr rfl)).1 (Nat.lt_of_lt_of_le (fw_inv hc hn hp c1 (Or.inr rfl)).2 (Nat.le_of_lt_succ hM)) (by rw [hE, l_Fo_firstWrongForItself_2, if_neg c1, if_pos c4, if_pos c5, if_pos c6, if_pos c7]) _ hS ls (lv_sub hl [0, 2, 3] rfl)
              · have c7 := bI_z c7
                refine lv_iload_n hx hb dFo_firstWrongForItself_57 rfl (lv_at hl 1 rfl) ?_
                exact W.iret (v := p9) hx hb hr (fun t ht hW => ⟨⟨p9, (), rfl, (by rw [hE, l_Fo_firstWrongForItself_2, if_neg c1, if_pos c4, if_pos c5, if_pos c6, if_neg c7]; try rfl), ht⟩, hS.F ht⟩) hS.2.2 dFo_firstWrongForItself_58
        · have c4 := bI_z c4
          refine lv_iload_n hx hb dFo_firstWrongForItself_23 rfl (lv_at hl 1 rfl) ?_
          exact W.iret (v := p9) hx hb hr (fun t ht hW => ⟨⟨p9, (), rfl, (by rw [hE, l_Fo_firstWrongForItself_2, if_neg c1, if_neg c4]; try rfl), ht⟩, hS.F ht⟩) hS.2.2 dFo_firstWrongForItself_24
  exact loop (cnt.toNatClampNeg + 1) (0 : Int32) (by decide) fw_fuel rfl _ hS ls (lv_sub hl [0, 1, 2] rfl)

def l_Fo_firstGoingWrong_2 (pf : Nat → Int64) (cnt : Int32) : Nat → (Int32) → Int32
  | 0, _ => default
  | n + 1, p9 =>
    if cnt ≤ p9 then
      (-1 : Int32)
    else
      if (f_Fo_goesOnRightly pf cnt p9 (f_Pr_at pf cnt p9)) = true then
        if (f_Fi_isTwoPlaces (f_Pr_at pf cnt p9)) = true then
          l_Fo_firstGoingWrong_2 pf cnt n ((p9 + (1 : Int32)) + (1 : Int32))
        else
          l_Fo_firstGoingWrong_2 pf cnt n (p9 + (1 : Int32))
      else
        p9
def f_Fo_firstGoingWrong (pf : Nat → Int64) (cnt : Int32) : Int32 :=
  l_Fo_firstGoingWrong_2 pf cnt (cnt.toNatClampNeg + 1) (0 : Int32)
set_option maxHeartbeats 4000000 in
set_option maxRecDepth 100000 in
theorem c_Fo_firstGoingWrong (l : Launch) (G : va_G) (cB cL cI : ClassId) (Hp : Heap) (h0 : Nat) (h1 : Nat) (pn : Nat) (pf : Nat → Int64) (cnt : Int32) (hP : va_P G vwCl [(h0, .inr (0, [.ref h1, .int cnt])), (h1, .inl (cL, pn, .inr (.inl pf)))] Hp) (hc : cnt.toInt ≤ pn) (hn : pn < 1073741824) : Met l yFo_firstGoingWrong wsFo_firstGoingWrong ({ frames := 4, cells := 0, slots := 0, locals := 88 }) (va_Pc [.ref h0] (fun U => U.heap = Hp ∧ va_K G vwCl [(cB, .byte), (cL, .long), (cI, .int)] U)) (va_Qi (fun (r : Int32) (_ : Unit) => r = (f_Fo_firstGoingWrong pf cnt)) (fun _ t => t.heap = Hp) (fun _ => False)) 0 0 (fun _ => False) := by
  refine Met.ofW (cc := cFo_firstGoingWrong) (maxL := 4) (ret := (some .int)) (by decide) rfl ?_
  intro p e s m args below meth c s₁ B hml hv
  obtain ⟨rfl, rfl, hK⟩ := hv
  have hx := B.exec
  have hb := B.bytes
  have hr := B.returns
  have hT : ∀ w ∈ tB, w.before _ s = true := fun w h => atoms_spec (ws := wsFo_firstGoingWrong) B.pre w (List.mem_cons_of_mem _ h)
  have hown : s.vm.findClass "CompiledProgram$Form" = some m.cls := findClass_of_methodNamed B.named
  have hlocks := B.notSynchronized
  have hA : ∀ q : Nat, (fun _ : Nat => False) q → False := fun _ h => h
  have hS : va_S (fun _ => False) s.heap s.heap [] := va_S.rf
  have hl := lv_entry ([.ref h0]) (n := 4) (Nat.le_of_ble_eq_true rfl)
  rw [lg_entry_eq]
  generalize (lg_sl ([.ref h0]) ++ List.replicate (4 - (lg_sl ([.ref h0])).length) Slot.unset).toArray = ls at hl ⊢
  have hl : lv_has ls 4 [(0, .ref h0)] := hl
  refine lv_iconst (v := (0 : Int32)) hx hb dFo_firstGoingWrong_0 (by decide) ?_
  refine lv_istore_n (lv' := [(1, .int (0 : Int32)), (0, .ref h0)]) hx hb dFo_firstGoingWrong_1 rfl hl (by decide) rfl (fun ls hl => ?_)
  have loop : ∀ (n : Nat) (p9 : Int32), (0 ≤ p9.toInt) → (cnt.toInt - p9.toInt).toNat < n → (f_Fo_firstGoingWrong pf cnt) = l_Fo_firstGoingWrong_2 pf cnt n p9 → ∀ (locs : List Loc), va_S (fun _ => False) s.heap s.heap locs → ∀ (ls : Array Slot), lv_has ls 4 [(1, .int p9), (0, .ref h0)] → W p l e (headSpec wsFo_firstGoingWrong ({ frames := 4, cells := 0, slots := 0, locals := 88 })).room s m ([.ref h0] : List Value).toArray below meth c s.heap locs 0 0 (MQ below (va_Qi (fun (r : Int32) (_ : Unit) => r = (f_Fo_firstGoingWrong pf cnt)) (fun _ t => t.heap = s.heap) (fun _ => False)) ([.ref h0] : List Value).toArray s 0 0 (fun _ => False)) (F0 m 2 ls []) := by
    intro n
    induction n with
    | zero =>
      intro p9 hp hM
      exact absurd hM (Nat.not_lt_zero _)
    | succ n ih =>
      intro p9 hp hM hE locs hS ls hl
      refine lv_iload_n hx hb dFo_firstGoingWrong_2 rfl (lv_at hl 0 rfl) ?_
      refine lv_aload_n hx hb dFo_firstGoingWrong_3 rfl (lv_at hl 1 rfl) ?_
      refine va_get (D := G) (ci := 0) (v := .int cnt) (C := RPr) (T := TPr) (N := 2) hx hb hT inPr hown hK hP 0 rfl rfl 1 (by decide) (hT _ mw_53) (fun _ h9 => h9) rfl dFo_firstGoingWrong_4 ?_
      refine lv_icmp_ge (tgt := 43) hx hb dFo_firstGoingWrong_7 (by decide) (fun c1 => ?_) (fun c1 => ?_)
      · skip
        refine lv_iconst (v := (-1 : Int32)) hx hb dFo_firstGoingWrong_43 (by decide) ?_
        exact W.iret (v := (-1 : Int32)) hx hb hr (fun t ht hW => ⟨⟨(-1 : Int32), (), rfl, (by rw [hE, l_Fo_firstGoingWrong_2, if_pos c1]; try rfl), ht⟩, hS.F ht⟩) hS.2.2 dFo_firstGoingWrong_44
      · skip
        refine lv_aload_n hx hb dFo_firstGoingWrong_10 rfl (lv_at hl 1 rfl) ?_
        refine lv_iload_n hx hb dFo_firstGoingWrong_11 rfl (lv_at hl 0 rfl) ?_
        have hPc := hP.sub (ws' := [(h0, .inr (0, [.ref h1, .int cnt])), (h1, .inl (cL, pn, .inr (.inl pf)))]) [0, 1] rfl
        refine va_calll (va_runV (As := [.int p9]) (rest := []) ⟨hx, hb, hml, hown, hT⟩ (c_Pr_at l G cB cL cI s.heap h0 h1 pn pf cnt p9 hPc hc) (cwV 1 hT (gB_V mw_120 mw_121 mw_122 mw_3 mw_123) rfl rfl rfl (by decide +kernel) ⟨Nat.le_of_ble_eq_true rfl, Nat.le_of_ble_eq_true rfl⟩) ⟨fun a U g mk q => ⟨q.1, q.2.1, va_K.moved (u := U) (U := U.calling g mk a) (Vm.Alike.refl U.vm) q.2.2⟩, va_recv hK hPc (ci := 0) (q0 := 0) rfl rfl, fun U hU hW => ⟨rfl, hU, va_K.moved hW.alike hK⟩⟩ rfl rfl hl.1 rfl (lv_room (Nat.le_of_ble_eq_true rfl)) dFo_firstGoingWrong_12 ⟨Nat.zero_le _, Nat.zero_le _⟩) hS (fun _ _ h => h.elim) (fun _ h => h.elim) (fun r u t H1 locs ht hvm hw hB hz8 hk8 hS => ?_)
        obtain rfl : s.heap = H1 := hB.symm.trans ht
        subst hw
        refine lv_lstore_n (lv' := [(2, .long (f_Pr_at pf cnt p9)), (1, .int p9), (0, .ref h0)]) hx hb dFo_firstGoingWrong_15 rfl hl (by decide) rfl (fun ls hl => ?_)
        refine lv_aload_n hx hb dFo_firstGoingWrong_16 rfl (lv_at hl 2 rfl) ?_
        refine lv_iload_n hx hb dFo_firstGoingWrong_17 rfl (lv_at hl 1 rfl) ?_
        refine lv_lload_n hx hb dFo_firstGoingWrong_18 rfl (lv_at hl 0 rfl) ?_
        have hPc := hP.sub (ws' := [(h0, .inr (0, [.ref h1, .int cnt])), (h1, .inl (cL, pn, .inr (.inl pf)))]) [0, 1] rfl
        refine va_calli (va_runS (As := [.ref h0, .int p9, .long (f_Pr_at pf cnt p9)]) (rest := []) ⟨hx, hb, hml, hown, hT⟩ (c_Fo_goesOnRightly l G cB cL cI s.heap h0 h1 pn pf cnt p9 (f_Pr_at pf cnt p9) hPc hc) (cwS 3 hT (gB_S mw_217 mw_218 mw_15 mw_219) rfl rfl rfl (by decide +kernel) ⟨Nat.le_of_ble_eq_true rfl, Nat.le_of_ble_eq_true rfl⟩) ⟨fun a U g mk q => ⟨q.1, q.2.1, va_K.moved (u := U) (U := U.calling g mk a) (Vm.Alike.refl U.vm) q.2.2⟩, fun U hU hW => ⟨rfl, hU, va_K.moved hW.alike hK⟩⟩ rfl rfl hl.1 rfl (lv_room (Nat.le_of_ble_eq_true rfl)) dFo_firstGoingWrong_19 ⟨Nat.zero_le _, Nat.zero_le _⟩) hS (fun _ _ h => h.elim) (fun _ h => h.elim) (fun r u t H1 locs ht hvm hw hB hz8 hk8 hS => ?_)
        obtain rfl : s.heap = H1 := hB.symm.trans ht
        subst hw
        refine lv_if_ne (tgt := 27) hx hb dFo_firstGoingWrong_22 (by decide) (fun c2 => ?_) (fun c2 => ?_)
        · have c2 := bI_n c2
          refine lv_lload_n hx hb dFo_firstGoingWrong_27 rfl (lv_at hl 0 rfl) ?_
          refine va_calli (va_runS (As := [.long (f_Pr_at pf cnt p9)]) (rest := []) ⟨hx, hb, hml, hown, hT⟩ (c_Fi_isTwoPlaces l s.heap (f_Pr_at pf cnt p9)) (va_cwS 1 hT (gB_SV mw_140 mw_141 mw_16 mw_142) rfl rfl rfl (by decide +kernel) ⟨Nat.le_of_ble_eq_true rfl, Nat.le_of_ble_eq_true rfl⟩) ⟨fun _ _ _ _ q => q, fun U hU hW => ⟨rfl, hU⟩⟩ rfl rfl hl.1 rfl (lv_room (Nat.le_of_ble_eq_true rfl)) dFo_firstGoingWrong_28 ⟨Nat.zero_le _, Nat.zero_le _⟩) hS (fun _ _ h => h.elim) (fun _ h => h.elim) (fun r u t H1 locs ht hvm hw hB hz8 hk8 hS => ?_)
          obtain rfl : s.heap = H1 := hB.symm.trans ht
          subst hw
          refine lv_if_eq (tgt := 37) hx hb dFo_firstGoingWrong_31 (by decide) (fun c3 => ?_) (fun c3 => ?_)
          · have c3 := bI_z c3
            refine lv_iinc (v := (p9 + (1 : Int32))) (lv' := [(1, .int (p9 + (1 : Int32))), (2, .long (f_Pr_at pf cnt p9)), (0, .ref h0)]) hx hb dFo_firstGoingWrong_37 hl (k := 1) rfl (by first | rfl | decide) (by decide) rfl (fun ls hl => ?_)
            refine lv_goto (tgt := 2) hx hb dFo_firstGoingWrong_40 (by decide) ?_
            exact ih (p9 + (1 : Int32)) (fw_inv hc hn hp c1 (Or.inl rfl)).1 (Nat.lt_of_lt_of_le (fw_inv hc hn hp c1 (Or.inl rfl)).2 (Nat.le_of_lt_succ hM)) (by rw [hE, l_Fo_firstGoingWrong_2, if_neg c1, if_pos c2, if_neg c3]) _ hS ls (lv_sub hl [0, 2] rfl)
          · have c3 := bI_n c3
            refine lv_iinc (v := (p9 + (1 : Int32))) (lv' := [(1, .int (p9 + (1 : Int32))), (2, .long (f_Pr_at pf cnt p9)), (0, .ref h0)]) hx hb dFo_firstGoingWrong_34 hl (k := 1) rfl (by first | rfl | decide) (by decide) rfl (fun ls hl => ?_)
            refine lv_iinc (v := ((p9 + (1 : Int32)) + (1 : Int32))) (lv' := [(1, .int ((p9 + (1 : Int32)) + (1 : Int32))), (2, .long (f_Pr_at pf cnt p9)), (0, .ref h0)]) hx hb dFo_firstGoingWrong_37 hl (k := 0) rfl (by first | rfl | decide) (by decide) rfl (fun ls hl => ?_)
            refine lv_goto (tgt := 2) hx hb dFo_firstGoingWrong_40 (by decide) ?_
            exact ih ((p9 + (1 : Int32)) + (1 : Int32)) (fw_inv hc hn hp c1 (Or.inr rfl)).1 (Nat.lt_of_lt_of_le (fw_inv hc hn hp c1 (Or.inr rfl)).2 (Nat.le_of_lt_succ hM)) (by rw [hE, l_Fo_firstGoingWrong_2, if_neg c1, if_pos c2, if_pos c3]) _ hS ls (lv_sub hl [0, 2] rfl)
        · have c2 := bI_z c2
          refine lv_iload_n hx hb dFo_firstGoingWrong_25 rfl (lv_at hl 1 rfl) ?_
          exact W.iret (v := p9) hx hb hr (fun t ht hW => ⟨⟨p9, (), rfl, (by rw [hE, l_Fo_firstGoingWrong_2, if_neg c1, if_neg c2]; try rfl), ht⟩, hS.F ht⟩) hS.2.2 dFo_firstGoingWrong_26
  exact loop (cnt.toNatClampNeg + 1) (0 : Int32) (by decide) fw_fuel rfl _ hS ls (lv_sub hl [0, 1] rfl)
