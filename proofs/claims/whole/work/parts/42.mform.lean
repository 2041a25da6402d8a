def f_Mo_isArithmetic (vc : Int32) (vd : Int32) (vs : Int32) (vo : Int32) (vi : Int32) : Bool :=
  if vd ≤ (9 : Int32) then
    if (f_Mo_n vc) = (3 : Int32) then
      if (f_Mo_hasSource vc vs vi) = true then
        if vo = 0 then
          true
        else
          if vo = (1 : Int32) then
            true
          else
            false
      else
        false
    else
      if (f_Mo_n vc) = (4 : Int32) then
        if (13 : Int32) ≤ (f_Mo_n vc) then
          false
        else
          if (f_Mo_hasSource vc vs vi) = true then
            if vo = 0 then
              true
            else
              false
          else
            false
      else
        if (f_Mo_n vc) = (5 : Int32) then
          if (13 : Int32) ≤ (f_Mo_n vc) then
            false
          else
            if (f_Mo_hasSource vc vs vi) = true then
              if vo = 0 then
                true
              else
                false
            else
              false
        else
          if (f_Mo_n vc) = (6 : Int32) then
            if (13 : Int32) ≤ (f_Mo_n vc) then
              false
            else
              if (f_Mo_hasSource vc vs vi) = true then
                if vo = 0 then
                  true
                else
                  false
              else
                false
          else
            if (f_Mo_n vc) = (7 : Int32) then
              if (13 : Int32) ≤ (f_Mo_n vc) then
                false
              else
                if (f_Mo_hasSource vc vs vi) = true then
                  if vo = 0 then
                    true
                  else
                    false
                else
                  false
            else
              if (f_Mo_n vc) = (8 : Int32) then
                if (f_Mo_bit3 vc) = true then
                  false
                else
                  if vi = 0 then
                    if vs = 0 then
                      if vo = 0 then
                        true
                      else
                        false
                    else
                      false
                  else
                    false
              else
                if (f_Mo_n vc) = (9 : Int32) then
                  if (f_Mo_hasSource vc vs vi) = true then
                    if vo = 0 then
                      true
                    else
                      if vo = (1 : Int32) then
                        true
                      else
                        false
                  else
                    false
                else
                  if (f_Mo_n vc) = (10 : Int32) then
                    if (13 : Int32) ≤ (f_Mo_n vc) then
                      false
                    else
                      if (f_Mo_hasSource vc vs vi) = true then
                        if vo = 0 then
                          true
                        else
                          false
                      else
                        false
                  else
                    if (f_Mo_n vc) = (11 : Int32) then
                      if (f_Mo_hasSource vc vs vi) = true then
                        if vo = 0 then
                          true
                        else
                          if (f_Mo_bit3 vc) = true then
                            if vo = (8 : Int32) then
                              true
                            else
                              if vo = (16 : Int32) then
                                true
                              else
                                if (if (f_Mo_kind vc) = (7 : Int32) then true else false) = true then
                                  if vo = (32 : Int32) then
                                    true
                                  else
                                    false
                                else
                                  false
                          else
                            false
                      else
                        false
                    else
                      if (f_Mo_n vc) = (12 : Int32) then
                        if (13 : Int32) ≤ (f_Mo_n vc) then
                          false
                        else
                          if (f_Mo_hasSource vc vs vi) = true then
                            if vo = 0 then
                              true
                            else
                              false
                          else
                            false
                      else
                        if (f_Mo_n vc) = (13 : Int32) then
                          if (if vs = 0 then (if vo = 0 then (if vi = (16 : Int32) then true else (if vi = (32 : Int32) then true else (if vi = (64 : Int32) then true else false))) else false) else false) = true then
                            if (if (f_Mo_kind vc) = (7 : Int32) then true else false) = true then
                              if (f_Mo_bit3 vc) = true then
                                false
                              else
                                true
                            else
                              true
                          else
                            false
                        else
                          if (13 : Int32) ≤ (f_Mo_n vc) then
                            false
                          else
                            if (f_Mo_hasSource vc vs vi) = true then
                              if vo = 0 then
                                true
                              else
                                false
                            else
                              false
  else
    false
set_option maxHeartbeats 4000000 in
set_option maxRecDepth 100000 in
theorem c_Mo_isArithmetic (l : Launch) (G : va_G) (cB cL cI : ClassId) (Hp : Heap) (m0 : Nat) (vth : Int32) (qt : Nat) (vtp : Int32) (qp : Nat) (vpl : Int32) (qr : Nat) (qm : Nat) (vpc : Int32) (vst : Int32) (vc : Int32) (vd : Int32) (vs : Int32) (vo : Int32) (vi : Int32) (vn : Int32) (hP : va_P G vwCl [(m0, .inr (5, [.int vth, .ref qt, .int vtp, .ref qp, .int vpl, .ref qr, .ref qm, .int vpc, .int vst, .int vc, .int vd, .int vs, .int vo, .int vi, .int vn]))] Hp) : Met l yMo_isArithmetic wsMo_isArithmetic ({ frames := 2, cells := 0, slots := 0, locals := 40 }) (va_Pc [.ref m0] (fun U => U.heap = Hp ∧ va_K G vwCl [(cB, .byte), (cL, .long), (cI, .int)] U)) (va_Qi (fun (r : Int32) (_ : Unit) => r = bI (f_Mo_isArithmetic vc vd vs vo vi)) (fun _ t => t.heap = Hp) (fun _ => False)) 0 0 (fun _ => False) := by
  refine Met.ofW (cc := cMo_isArithmetic) (maxL := 3) (ret := (some .boolean)) (by decide) rfl ?_
  intro p e s m args below meth c s₁ B hml hv
  obtain ⟨rfl, rfl, hK⟩ := hv
  have hx := B.exec
  have hb := B.bytes
  have hr := B.returns
  have hT : ∀ w ∈ tB, w.before _ s = true := fun w h => atoms_spec (ws := wsMo_isArithmetic) B.pre w (List.mem_cons_of_mem _ h)
  have hown : s.vm.findClass "CompiledProgramModel" = some m.cls := findClass_of_methodNamed B.named
  have hlocks := B.notSynchronized
  have hA : ∀ q : Nat, (fun _ : Nat => False) q → False := fun _ h => h
  have hS : va_S (fun _ => False) s.heap s.heap [] := va_S.rf
  have hl := lv_entry ([.ref m0]) (n := 3) (Nat.le_of_ble_eq_true rfl)
  rw [lg_entry_eq]
  generalize (lg_sl ([.ref m0]) ++ List.replicate (3 - (lg_sl ([.ref m0])).length) Slot.unset).toArray = ls at hl ⊢
  have hl : lv_has ls 3 [(0, .ref m0)] := hl
  refine lv_aload_n hx hb dMo_isArithmetic_0 rfl (lv_at hl 0 rfl) ?_
  have hPc := hP.sub (ws' := [(m0, .inr (5, [.int vth, .ref qt, .int vtp, .ref qp, .int vpl, .ref qr, .ref qm, .int vpc, .int vst, .int vc, .int vd, .int vs, .int vo, .int vi, .int vn]))]) [0] rfl
  refine va_calli (va_runV (As := []) (rest := []) ⟨hx, hb, hml, hown, hT⟩ (c_Mo_kind l G cB cL cI s.heap m0 vth qt vtp qp vpl qr qm vpc vst vc vd vs vo vi vn hPc ) (cwV 0 hT (gB_V mw_643 mw_645 ms_4 mw_6 mw_646) rfl rfl rfl (by decide +kernel) ⟨Nat.le_of_ble_eq_true rfl, Nat.le_of_ble_eq_true rfl⟩) ⟨fun a U g mk q => ⟨q.1, q.2.1, va_K.moved (u := U) (U := U.calling g mk a) (Vm.Alike.refl U.vm) q.2.2⟩, va_recv hK hPc (ci := 5) (q0 := 0) rfl rfl, fun U hU hW => ⟨rfl, hU, va_K.moved hW.alike hK⟩⟩ rfl rfl hl.1 rfl (lv_room (Nat.le_of_ble_eq_true rfl)) dMo_isArithmetic_1 ⟨Nat.zero_le _, Nat.zero_le _⟩) hS (fun _ _ h => h.elim) (fun _ h => h.elim) (fun r u t H1 locs ht hvm hw hB hz8 hk8 hS => ?_)
  obtain rfl : s.heap = H1 := hB.symm.trans ht
  subst hw
  refine lv_bipush (v := (7 : Int32)) hx hb dMo_isArithmetic_4 (by decide) ?_
  have jn1 : ∀ (x1 : Bool), x1 = (if (f_Mo_kind vc) = (7 : Int32) then true else false) → ∀ (locs : List Loc), va_S (fun _ => False) s.heap s.heap locs → W p l e (headSpec wsMo_isArithmetic ({ frames := 2, cells := 0, slots := 0, locals := 40 })).room s m ([.ref m0] : List Value).toArray below meth c s.heap locs 0 0 (MQ below (va_Qi (fun (r : Int32) (_ : Unit) => r = bI (f_Mo_isArithmetic vc vd vs vo vi)) (fun _ t => t.heap = s.heap) (fun _ => False)) ([.ref m0] : List Value).toArray s 0 0 (fun _ => False)) (F0 m 14 ls [.int (bI x1)]) := by
    intro x1 hx1 locs hS
    subst hx1
    refine lv_istore_n (lv' := [(1, .int (bI (if (f_Mo_kind vc) = (7 : Int32) then true else false))), (0, .ref m0)]) hx hb dMo_isArithmetic_14 rfl hl (by decide) rfl (fun ls hl => ?_)
    refine lv_aload_n hx hb dMo_isArithmetic_15 rfl (lv_at hl 1 rfl) ?_
    refine va_get (D := G) (ci := 5) (v := .int vd) (C := RMo) (T := TMo) (N := 15) hx hb hT inMo hown hK hP 0 rfl rfl 10 (by decide) (hT _ mw_575) (fun _ h9 => h9) rfl dMo_isArithmetic_16 ?_
    refine lv_bipush (v := (9 : Int32)) hx hb dMo_isArithmetic_19 (by decide) ?_
    refine lv_icmp_le (tgt := 26) hx hb dMo_isArithmetic_21 (by decide) (fun c2 => ?_) (fun c2 => ?_)
    · skip
      refine lv_aload_n hx hb dMo_isArithmetic_26 rfl (lv_at hl 1 rfl) ?_
      refine va_get (D := G) (ci := 5) (v := .int vs) (C := RMo) (T := TMo) (N := 15) hx hb hT inMo hown hK hP 0 rfl rfl 11 (by decide) (hT _ mw_576) (fun _ h9 => h9) rfl dMo_isArithmetic_27 ?_
      have jn3 : ∀ (x3 : Bool), x3 = (if vs = 0 then (if vo = 0 then (if vi = (16 : Int32) then true else (if vi = (32 : Int32) then true else (if vi = (64 : Int32) then true else false))) else false) else false) → ∀ (locs : List Loc), va_S (fun _ => False) s.heap s.heap locs → W p l e (headSpec wsMo_isArithmetic ({ frames := 2, cells := 0, slots := 0, locals := 40 })).room s m ([.ref m0] : List Value).toArray below meth c s.heap locs 0 0 (MQ below (va_Qi (fun (r : Int32) (_ : Unit) => r = bI (f_Mo_isArithmetic vc vd vs vo vi)) (fun _ t => t.heap = s.heap) (fun _ => False)) ([.ref m0] : List Value).toArray s 0 0 (fun _ => False)) (F0 m 72 ls [.int (bI x3)]) := by
        intro x3 hx3 locs hS
        subst hx3
        refine lv_istore_n (lv' := [(2, .int (bI (if vs = 0 then (if vo = 0 then (if vi = (16 : Int32) then true else (if vi = (32 : Int32) then true else (if vi = (64 : Int32) then true else false))) else false) else false))), (1, .int (bI (if (f_Mo_kind vc) = (7 : Int32) then true else false))), (0, .ref m0)]) hx hb dMo_isArithmetic_72 rfl hl (by decide) rfl (fun ls hl => ?_)
        refine lv_aload_n hx hb dMo_isArithmetic_73 rfl (lv_at hl 2 rfl) ?_
        have hPc := hP.sub (ws' := [(m0, .inr (5, [.int vth, .ref qt, .int vtp, .ref qp, .int vpl, .ref qr, .ref qm, .int vpc, .int vst, .int vc, .int vd, .int vs, .int vo, .int vi, .int vn]))]) [0] rfl
        refine va_calli (va_runV (As := []) (rest := []) ⟨hx, hb, hml, hown, hT⟩ (c_Mo_n l G cB cL cI s.heap m0 vth qt vtp qp vpl qr qm vpc vst vc vd vs vo vi vn hPc ) (cwV 0 hT (gB_V mw_651 mw_653 ms_6 mw_6 mw_654) rfl rfl rfl (by decide +kernel) ⟨Nat.le_of_ble_eq_true rfl, Nat.le_of_ble_eq_true rfl⟩) ⟨fun a U g mk q => ⟨q.1, q.2.1, va_K.moved (u := U) (U := U.calling g mk a) (Vm.Alike.refl U.vm) q.2.2⟩, va_recv hK hPc (ci := 5) (q0 := 0) rfl rfl, fun U hU hW => ⟨rfl, hU, va_K.moved hW.alike hK⟩⟩ rfl rfl hl.1 rfl (lv_room (Nat.le_of_ble_eq_true rfl)) dMo_isArithmetic_74 ⟨Nat.zero_le _, Nat.zero_le _⟩) hS (fun _ _ h => h.elim) (fun _ h => h.elim) (fun r u t H1 locs ht hvm hw hB hz8 hk8 hS => ?_)
        obtain rfl : s.heap = H1 := hB.symm.trans ht
        subst hw
        by_cases c4 : (f_Mo_n vc) = (3 : Int32)
        · skip
          refine lv_tableIn (tgt := 191) (off := 114) hx hb dMo_isArithmetic_77 (by rw [c4]; decide) (by rw [c4]; decide) (by rw [c4]; rfl) (by decide) ?_
          refine lv_aload_n hx hb dMo_isArithmetic_191 rfl (lv_at hl 2 rfl) ?_
          have hPc := hP.sub (ws' := [(m0, .inr (5, [.int vth, .ref qt, .int vtp, .ref qp, .int vpl, .ref qr, .ref qm, .int vpc, .int vst, .int vc, .int vd, .int vs, .int vo, .int vi, .int vn]))]) [0] rfl
          refine va_calli (va_runV (As := []) (rest := []) ⟨hx, hb, hml, hown, hT⟩ (c_Mo_hasSource l G cB cL cI s.heap m0 vth qt vtp qp vpl qr qm vpc vst vc vd vs vo vi vn hPc ) (cwV 0 hT (gB_V mw_659 mw_661 ms_8 mw_6 mw_662) rfl rfl rfl (by decide +kernel) ⟨Nat.le_of_ble_eq_true rfl, Nat.le_of_ble_eq_true rfl⟩) ⟨fun a U g mk q => ⟨q.1, q.2.1, va_K.moved (u := U) (U := U.calling g mk a) (Vm.Alike.refl U.vm) q.2.2⟩, va_recv hK hPc (ci := 5) (q0 := 0) rfl rfl, fun U hU hW => ⟨rfl, hU, va_K.moved hW.alike hK⟩⟩ rfl rfl hl.1 rfl (lv_room (Nat.le_of_ble_eq_true rfl)) dMo_isArithmetic_192 ⟨Nat.zero_le _, Nat.zero_le _⟩) hS (fun _ _ h => h.elim) (fun _ h => h.elim) (fun r u t H1 locs ht hvm hw hB hz8 hk8 hS => ?_)
          obtain rfl : s.heap = H1 := hB.symm.trans ht
          subst hw
          refine lv_if_eq (tgt := 217) hx hb dMo_isArithmetic_195 (by decide) (fun c5 => ?_) (fun c5 => ?_)
          · have c5 := bI_z c5
            refine lv_iconst (v := (0 : Int32)) hx hb dMo_isArithmetic_217 (by decide) ?_
            exact W.zret (v := (0 : Int32)) hx hb hr rfl (fun t ht hW => ⟨⟨(0 : Int32), (), rfl, (by unfold f_Mo_isArithmetic; rw [if_pos c2, if_pos c4, if_neg c5]; try rfl), ht⟩, hS.F ht⟩) hS.2.2 dMo_isArithmetic_218
          · have c5 := bI_n c5
            refine lv_aload_n hx hb dMo_isArithmetic_198 rfl (lv_at hl 2 rfl) ?_
            refine va_get (D := G) (ci := 5) (v := .int vo) (C := RMo) (T := TMo) (N := 15) hx hb hT inMo hown hK hP 0 rfl rfl 12 (by decide) (hT _ mw_577) (fun _ h9 => h9) rfl dMo_isArithmetic_199 ?_
            refine lv_if_eq (tgt := 213) hx hb dMo_isArithmetic_202 (by decide) (fun c6 => ?_) (fun c6 => ?_)
            · skip
              refine lv_iconst (v := (1 : Int32)) hx hb dMo_isArithmetic_213 (by decide) ?_
              refine lv_goto (tgt := 218) hx hb dMo_isArithmetic_214 (by decide) ?_
              exact W.zret (v := (1 : Int32)) hx hb hr rfl (fun t ht hW => ⟨⟨(1 : Int32), (), rfl, (by unfold f_Mo_isArithmetic; rw [if_pos c2, if_pos c4, if_pos c5, if_pos c6]; try rfl), ht⟩, hS.F ht⟩) hS.2.2 dMo_isArithmetic_218
            · skip
              refine lv_aload_n hx hb dMo_isArithmetic_205 rfl (lv_at hl 2 rfl) ?_
              refine va_get (D := G) (ci := 5) (v := .int vo) (C := RMo) (T := TMo) (N := 15) hx hb hT inMo hown hK hP 0 rfl rfl 12 (by decide) (hT _ mw_577) (fun _ h9 => h9) rfl dMo_isArithmetic_206 ?_
              refine lv_iconst (v := (1 : Int32)) hx hb dMo_isArithmetic_209 (by decide) ?_
              refine lv_icmp_ne (tgt := 217) hx hb dMo_isArithmetic_210 (by decide) (fun c7 => ?_) (fun c7 => ?_)
              · skip
                refine lv_iconst (v := (0 : Int32)) hx hb dMo_isArithmetic_217 (by decide) ?_
                exact W.zret (v := (0 : Int32)) hx hb hr rfl (fun t ht hW => ⟨⟨(0 : Int32), (), rfl, (by unfold f_Mo_isArithmetic; rw [if_pos c2, if_pos c4, if_pos c5, if_neg c6, if_neg c7]; try rfl), ht⟩, hS.F ht⟩) hS.2.2 dMo_isArithmetic_218
              · skip
                refine lv_iconst (v := (1 : Int32)) hx hb dMo_isArithmetic_213 (by decide) ?_
                refine lv_goto (tgt := 218) hx hb dMo_isArithmetic_214 (by decide) ?_
                exact W.zret (v := (1 : Int32)) hx hb hr rfl (fun t ht hW => ⟨⟨(1 : Int32), (), rfl, (by unfold f_Mo_isArithmetic; rw [if_pos c2, if_pos c4, if_pos c5, if_neg c6, if_pos c7]; try rfl), ht⟩, hS.F ht⟩) hS.2.2 dMo_isArithmetic_218
        by_cases c8 : (f_Mo_n vc) = (4 : Int32)
        · skip
          refine lv_tableIn (tgt := 277) (off := 200) hx hb dMo_isArithmetic_77 (by rw [c8]; decide) (by rw [c8]; decide) (by rw [c8]; rfl) (by decide) ?_
          refine lv_aload_n hx hb dMo_isArithmetic_277 rfl (lv_at hl 2 rfl) ?_
          have hPc := hP.sub (ws' := [(m0, .inr (5, [.int vth, .ref qt, .int vtp, .ref qp, .int vpl, .ref qr, .ref qm, .int vpc, .int vst, .int vc, .int vd, .int vs, .int vo, .int vi, .int vn]))]) [0] rfl
          refine va_calli (va_runV (As := []) (rest := []) ⟨hx, hb, hml, hown, hT⟩ (c_Mo_n l G cB cL cI s.heap m0 vth qt vtp qp vpl qr qm vpc vst vc vd vs vo vi vn hPc ) (cwV 0 hT (gB_V mw_651 mw_653 ms_6 mw_6 mw_654) rfl rfl rfl (by decide +kernel) ⟨Nat.le_of_ble_eq_true rfl, Nat.le_of_ble_eq_true rfl⟩) ⟨fun a U g mk q => ⟨q.1, q.2.1, va_K.moved (u := U) (U := U.calling g mk a) (Vm.Alike.refl U.vm) q.2.2⟩, va_recv hK hPc (ci := 5) (q0 := 0) rfl rfl, fun U hU hW => ⟨rfl, hU, va_K.moved hW.alike hK⟩⟩ rfl rfl hl.1 rfl (lv_room (Nat.le_of_ble_eq_true rfl)) dMo_isArithmetic_278 ⟨Nat.zero_le _, Nat.zero_le _⟩) hS (fun _ _ h => h.elim) (fun _ h => h.elim) (fun r u t H1 locs ht hvm hw hB hz8 hk8 hS => ?_)
          obtain rfl : s.heap = H1 := hB.symm.trans ht
          subst hw
          refine lv_bipush (v := (13 : Int32)) hx hb dMo_isArithmetic_281 (by decide) ?_
          refine lv_icmp_ge (tgt := 304) hx hb dMo_isArithmetic_283 (by decide) (fun c9 => ?_) (fun c9 => ?_)
          · skip
            refine lv_iconst (v := (0 : Int32)) hx hb dMo_isArithmetic_304 (by decide) ?_
            exact W.zret (v := (0 : Int32)) hx hb hr rfl (fun t ht hW => ⟨⟨(0 : Int32), (), rfl, (by unfold f_Mo_isArithmetic; rw [if_pos c2, if_neg c4, if_pos c8, if_pos c9]; try rfl), ht⟩, hS.F ht⟩) hS.2.2 dMo_isArithmetic_305
          · skip
            refine lv_aload_n hx hb dMo_isArithmetic_286 rfl (lv_at hl 2 rfl) ?_
            have hPc := hP.sub (ws' := [(m0, .inr (5, [.int vth, .ref qt, .int vtp, .ref qp, .int vpl, .ref qr, .ref qm, .int vpc, .int vst, .int vc, .int vd, .int vs, .int vo, .int vi, .int vn]))]) [0] rfl
            refine va_calli (va_runV (As := []) (rest := []) ⟨hx, hb, hml, hown, hT⟩ (c_Mo_hasSource l G cB cL cI s.heap m0 vth qt vtp qp vpl qr qm vpc vst vc vd vs vo vi vn hPc ) (cwV 0 hT (gB_V mw_659 mw_661 ms_8 mw_6 mw_662) rfl rfl rfl (by decide +kernel) ⟨Nat.le_of_ble_eq_true rfl, Nat.le_of_ble_eq_true rfl⟩) ⟨fun a U g mk q => ⟨q.1, q.2.1, va_K.moved (u := U) (U := U.calling g mk a) (Vm.Alike.refl U.vm) q.2.2⟩, va_recv hK hPc (ci := 5) (q0 := 0) rfl rfl, fun U hU hW => ⟨rfl, hU, va_K.moved hW.alike hK⟩⟩ rfl rfl hl.1 rfl (lv_room (Nat.le_of_ble_eq_true rfl)) dMo_isArithmetic_287 ⟨Nat.zero_le _, Nat.zero_le _⟩) hS (fun _ _ h => h.elim) (fun _ h => h.elim) (fun r u t H1 locs ht hvm hw hB hz8 hk8 hS => ?_)
            obtain rfl : s.heap = H1 := hB.symm.trans ht
            subst hw
            refine lv_if_eq (tgt := 304) hx hb dMo_isArithmetic_290 (by decide) (fun c10 => ?_) (fun c10 => ?_)
            · have c10 := bI_z c10
              refine lv_iconst (v := (0 : Int32)) hx hb dMo_isArithmetic_304 (by decide) ?_
              exact W.zret (v := (0 : Int32)) hx hb hr rfl (fun t ht hW => ⟨⟨(0 : Int32), (), rfl, (by unfold f_Mo_isArithmetic; rw [if_pos c2, if_neg c4, if_pos c8, if_neg c9, if_neg c10]; try rfl), ht⟩, hS.F ht⟩) hS.2.2 dMo_isArithmetic_305
            · have c10 := bI_n c10
              refine lv_aload_n hx hb dMo_isArithmetic_293 rfl (lv_at hl 2 rfl) ?_
              refine va_get (D := G) (ci := 5) (v := .int vo) (C := RMo) (T := TMo) (N := 15) hx hb hT inMo hown hK hP 0 rfl rfl 12 (by decide) (hT _ mw_577) (fun _ h9 => h9) rfl dMo_isArithmetic_294 ?_
              refine lv_if_ne (tgt := 304) hx hb dMo_isArithmetic_297 (by decide) (fun c11 => ?_) (fun c11 => ?_)
              · skip
                refine lv_iconst (v := (0 : Int32)) hx hb dMo_isArithmetic_304 (by decide) ?_
                exact W.zret (v := (0 : Int32)) hx hb hr rfl (fun t ht hW => ⟨⟨(0 : Int32), (), rfl, (by unfold f_Mo_isArithmetic; rw [if_pos c2, if_neg c4, if_pos c8, if_neg c9, if_pos c10, if_neg c11]; try rfl), ht⟩, hS.F ht⟩) hS.2.2 dMo_isArithmetic_305
              · skip
                refine lv_iconst (v := (1 : Int32)) hx hb dMo_isArithmetic_300 (by decide) ?_
                refine lv_goto (tgt := 305) hx hb dMo_isArithmetic_301 (by decide) ?_
                exact W.zret (v := (1 : Int32)) hx hb hr rfl (fun t ht hW => ⟨⟨(1 : Int32), (), rfl, (by unfold f_Mo_isArithmetic; rw [if_pos c2, if_neg c4, if_pos c8, if_neg c9, if_pos c10, if_pos c11]; try rfl), ht⟩, hS.F ht⟩) hS.2.2 dMo_isArithmetic_305
        by_cases c12 : (f_Mo_n vc) = (5 : Int32)
        · skip
          refine lv_tableIn (tgt := 277) (off := 200) hx hb dMo_isArithmetic_77 (by rw [c12]; decide) (by rw [c12]; decide) (by rw [c12]; rfl) (by decide) ?_
          refine lv_aload_n hx hb dMo_isArithmetic_277 rfl (lv_at hl 2 rfl) ?_
          have hPc := hP.sub (ws' := [(m0, .inr (5, [.int vth, .ref qt, .int vtp, .ref qp, .int vpl, .ref qr, .ref qm, .int vpc, .int vst, .int vc, .int vd, .int vs, .int vo, .int vi, .int vn]))]) [0] rfl
          refine va_calli (va_runV (As := []) (rest := []) ⟨hx, hb, hml, hown, hT⟩ (c_Mo_n l G cB cL cI s.heap m0 vth qt vtp qp vpl qr qm vpc vst vc vd vs vo vi vn hPc ) (cwV 0 hT (gB_V mw_651 mw_653 ms_6 mw_6 mw_654) rfl rfl rfl (by decide +kernel) ⟨Nat.le_of_ble_eq_true rfl, Nat.le_of_ble_eq_true rfl⟩) ⟨fun a U g mk q => ⟨q.1, q.2.1, va_K.moved (u := U) (U := U.calling g mk a) (Vm.Alike.refl U.vm) q.2.2⟩, va_recv hK hPc (ci := 5) (q0 := 0) rfl rfl, fun U hU hW => ⟨rfl, hU, va_K.moved hW.alike hK⟩⟩ rfl rfl hl.1 rfl (lv_room (Nat.le_of_ble_eq_true rfl)) dMo_isArithmetic_278 ⟨Nat.zero_le _, Nat.zero_le _⟩) hS (fun _ _ h => h.elim) (fun _ h => h.elim) (fun r u t H1 locs ht hvm hw hB hz8 hk8 hS => ?_)
          obtain rfl : s.heap = H1 := hB.symm.trans ht
          subst hw
          refine lv_bipush (v := (13 : Int32)) hx hb dMo_isArithmetic_281 (by decide) ?_
          refine lv_icmp_ge (tgt := 304) hx hb dMo_isArithmetic_283 (by decide) (fun c13 => ?_) (fun c13 => ?_)
          · skip
            refine lv_iconst (v := (0 : Int32)) hx hb dMo_isArithmetic_304 (by decide) ?_
            exact W.zret (v := (0 : Int32)) hx hb hr rfl (fun t ht hW => ⟨⟨(0 : Int32), (), rfl, (by unfold f_Mo_isArithmetic; rw [if_pos c2, if_neg c4, if_neg c8, if_pos c12, if_pos c13]; try rfl), ht⟩, hS.F ht⟩) hS.2.2 dMo_isArithmetic_305
          · skip
            refine lv_aload_n hx hb dMo_isArithmetic_286 rfl (lv_at hl 2 rfl) ?_
            have hPc := hP.sub (ws' := [(m0, .inr (5, [.int vth, .ref qt, .int vtp, .ref qp, .int vpl, .ref qr, .ref qm, .int vpc, .int vst, .int vc, .int vd, .int vs, .int vo, .int vi, .int vn]))]) [0] rfl
            refine va_calli (va_runV (As := []) (rest := []) ⟨hx, hb, hml, hown, hT⟩ (c_Mo_hasSource l G cB cL cI s.heap m0 vth qt vtp qp vpl qr qm vpc vst vc vd vs vo vi vn hPc ) (cwV 0 hT (gB_V mw_659 mw_661 ms_8 mw_6 mw_662) rfl rfl rfl (by decide +kernel) ⟨Nat.le_of_ble_eq_true rfl, Nat.le_of_ble_eq_true rfl⟩) ⟨fun a U g mk q => ⟨q.1, q.2.1, va_K.moved (u := U) (U := U.calling g mk a) (Vm.Alike.refl U.vm) q.2.2⟩, va_recv hK hPc (ci := 5) (q0 := 0) rfl rfl, fun U hU hW => ⟨rfl, hU, va_K.moved hW.alike hK⟩⟩ rfl rfl hl.1 rfl (lv_room (Nat.le_of_ble_eq_true rfl)) dMo_isArithmetic_287 ⟨Nat.zero_le _, Nat.zero_le _⟩) hS (fun _ _ h => h.elim) (fun _ h => h.elim) (fun r u t H1 locs ht hvm hw hB hz8 hk8 hS => ?_)
            obtain rfl : s.heap = H1 := hB.symm.trans ht
            subst hw
            refine lv_if_eq (tgt := 304) hx hb dMo_isArithmetic_290 (by decide) (fun c14 => ?_) (fun c14 => ?_)
            · have c14 := bI_z c14
              refine lv_iconst (v := (0 : Int32)) hx hb dMo_isArithmetic_304 (by decide) ?_
              exact W.zret (v := (0 : Int32)) hx hb hr rfl (fun t ht hW => ⟨⟨(0 : Int32), (), rfl, (by unfold f_Mo_isArithmetic; rw [if_pos c2, if_neg c4, if_neg c8, if_pos c12, if_neg c13, if_neg c14]; try rfl), ht⟩, hS.F ht⟩) hS.2.2 dMo_isArithmetic_305
            · have c14 := bI_n c14
              refine lv_aload_n hx hb dMo_isArithmetic_293 rfl (lv_at hl 2 rfl) ?_
              refine va_get (D := G) (ci := 5) (v := .int vo) (C := RMo) (T := TMo) (N := 15) hx hb hT inMo hown hK hP 0 rfl rfl 12 (by decide) (hT _ mw_577) (fun _ h9 => h9) rfl dMo_isArithmetic_294 ?_
              refine lv_if_ne (tgt := 304) hx hb dMo_isArithmetic_297 (by decide) (fun c15 => ?_) (fun c15 => ?_)
              · skip
                refine lv_iconst (v := (0 : Int32)) hx hb dMo_isArithmetic_304 (by decide) ?_
                exact W.zret (v := (0 : Int32)) hx hb hr rfl (fun t ht hW => ⟨⟨(0 : Int32), (), rfl, (by unfold f_Mo_isArithmetic; rw [if_pos c2, if_neg c4, if_neg c8, if_pos c12, if_neg c13, if_pos c14, if_neg c15]; try rfl), ht⟩, hS.F ht⟩) hS.2.2 dMo_isArithmetic_305
              · skip
                refine lv_iconst (v := (1 : Int32)) hx hb dMo_isArithmetic_300 (by decide) ?_
                refine lv_goto (tgt := 305) hx hb dMo_isArithmetic_301 (by decide) ?_
                exact W.zret (v := (1 : Int32)) hx hb hr rfl (fun t ht hW => ⟨⟨(1 : Int32), (), rfl, (by unfold f_Mo_isArithmetic; rw [if_pos c2, if_neg c4, if_neg c8, if_pos c12, if_neg c13, if_pos c14, if_pos c15]; try rfl), ht⟩, hS.F ht⟩) hS.2.2 dMo_isArithmetic_305
        by_cases c16 : (f_Mo_n vc) = (6 : Int32)
        · skip
          refine lv_tableIn (tgt := 277) (off := 200) hx hb dMo_isArithmetic_77 (by rw [c16]; decide) (by rw [c16]; decide) (by rw [c16]; rfl) (by decide) ?_
          refine lv_aload_n hx hb dMo_isArithmetic_277 rfl (lv_at hl 2 rfl) ?_
          have hPc := hP.sub (ws' := [(m0, .inr (5, [.int vth, .ref qt, .int vtp, .ref qp, .int vpl, .ref qr, .ref qm, .int vpc, .int vst, .int vc, .int vd, .int vs, .int vo, .int vi, .int vn]))]) [0] rfl
          refine va_calli (va_runV (As := []) (rest := []) ⟨hx, hb, hml, hown, hT⟩ (c_Mo_n l G cB cL cI s.heap m0 vth qt vtp qp vpl qr qm vpc vst vc vd vs vo vi vn hPc ) (cwV 0 hT (gB_V mw_651 mw_653 ms_6 mw_6 mw_654) rfl rfl rfl (by decide +kernel) ⟨Nat.le_of_ble_eq_true rfl, Nat.le_of_ble_eq_true rfl⟩) ⟨fun a U g mk q => ⟨q.1, q.2.1, va_K.moved (u := U) (U := U.calling g mk a) (Vm.Alike.refl U.vm) q.2.2⟩, va_recv hK hPc (ci := 5) (q0 := 0) rfl rfl, fun U hU hW => ⟨rfl, hU, va_K.moved hW.alike hK⟩⟩ rfl rfl hl.1 rfl (lv_room (Nat.le_of_ble_eq_true rfl)) dMo_isArithmetic_278 ⟨Nat.zero_le _, Nat.zero_le _⟩) hS (fun _ _ h => h.elim) (fun _ h => h.elim) (fun r u t H1 locs ht hvm hw hB hz8 hk8 hS => ?_)
          obtain rfl : s.heap = H1 := hB.symm.trans ht
          subst hw
          refine lv_bipush (v := (13 : Int32)) hx hb dMo_isArithmetic_281 (by decide) ?_
          refine lv_icmp_ge (tgt := 304) hx hb dMo_isArithmetic_283 (by decide) (fun c17 => ?_) (fun c17 => ?_)
          · skip
            refine lv_iconst (v := (0 : Int32)) hx hb dMo_isArithmetic_304 (by decide) ?_
            exact W.zret (v := (0 : Int32)) hx hb hr rfl (fun t ht hW => ⟨⟨(0 : Int32), (), rfl, (by unfold f_Mo_isArithmetic; rw [if_pos c2, if_neg c4, if_neg c8, if_neg c12, if_pos c16, if_pos c17]; try rfl), ht⟩, hS.F ht⟩) hS.2.2 dMo_isArithmetic_305
          · skip
            refine lv_aload_n hx hb dMo_isArithmetic_286 rfl (lv_at hl 2 rfl) ?_
            have hPc := hP.sub (ws' := [(m0, .inr (5, [.int vth, .ref qt, .int vtp, .ref qp, .int vpl, .ref qr, .ref qm, .int vpc, .int vst, .int vc, .int vd, .int vs, .int vo, .int vi, .int vn]))]) [0] rfl
            refine va_calli (va_runV (As := []) (rest := []) ⟨hx, hb, hml, hown, hT⟩ (c_Mo_hasSource l G cB cL cI s.heap m0 vth qt vtp qp vpl qr qm vpc vst vc vd vs vo vi vn hPc ) (cwV 0 hT (gB_V mw_659 mw_661 ms_8 mw_6 mw_662) rfl rfl rfl (by decide +kernel) ⟨Nat.le_of_ble_eq_true rfl, Nat.le_of_ble_eq_true rfl⟩) ⟨fun a U g mk q => ⟨q.1, q.2.1, va_K.moved (u := U) (U := U.calling g mk a) (Vm.Alike.refl U.vm) q.2.2⟩, va_recv hK hPc (ci := 5) (q0 := 0) rfl rfl, fun U hU hW => ⟨rfl, hU, va_K.moved hW.alike hK⟩⟩ rfl rfl hl.1 rfl (lv_room (Nat.le_of_ble_eq_true rfl)) dMo_isArithmetic_287 ⟨Nat.zero_le _, Nat.zero_le _⟩) hS (fun _ _ h => h.elim) (fun _ h => h.elim) (fun r u t H1 locs ht hvm hw hB hz8 hk8 hS => ?_)
            obtain rfl : s.heap = H1 := hB.symm.trans ht
            subst hw
            refine lv_if_eq (tgt := 304) hx hb dMo_isArithmetic_290 (by decide) (fun c18 => ?_) (fun c18 => ?_)
            · have c18 := bI_z c18
              refine lv_iconst (v := (0 : Int32)) hx hb dMo_isArithmetic_304 (by decide) ?_
              exact W.zret (v := (0 : Int32)) hx hb hr rfl (fun t ht hW => ⟨⟨(0 : Int32), (), rfl, (by unfold f_Mo_isArithmetic; rw [if_pos c2, if_neg c4, if_neg c8, if_neg c12, if_pos c16, if_neg c17, if_neg c18]; try rfl), ht⟩, hS.F ht⟩) hS.2.2 dMo_isArithmetic_305
            · have c18 := bI_n c18
              refine lv_aload_n hx hb dMo_isArithmetic_293 rfl (lv_at hl 2 rfl) ?_
              refine va_get (D := G) (ci := 5) (v := .int vo) (C := RMo) (T := TMo) (N := 15) hx hb hT inMo hown hK hP 0 rfl rfl 12 (by decide) (hT _ mw_577) (fun _ h9 => h9) rfl dMo_isArithmetic_294 ?_
              refine lv_if_ne (tgt := 304) hx hb dMo_isArithmetic_297 (by decide) (fun c19 => ?_) (fun c19 => ?_)
              · skip
                refine lv_iconst (v := (0 : Int32)) hx hb dMo_isArithmetic_304 (by decide) ?_
                exact W.zret (v := (0 : Int32)) hx hb hr rfl (fun t ht hW => ⟨⟨(0 : Int32), (), rfl, (by unfold f_Mo_isArithmetic; rw [if_pos c2, if_neg c4, if_neg c8, if_neg c12, if_pos c16, if_neg c17, if_pos c18, if_neg c19]; try rfl), ht⟩, hS.F ht⟩) hS.2.2 dMo_isArithmetic_305
              · skip
                refine lv_iconst (v := (1 : Int32)) hx hb dMo_isArithmetic_300 (by decide) ?_
                refine lv_goto (tgt := 305) hx hb dMo_isArithmetic_301 (by decide) ?_
                exact W.zret (v := (1 : Int32)) hx hb hr rfl (fun t ht hW => ⟨⟨(1 : Int32), (), rfl, (by unfold f_Mo_isArithmetic; rw [if_pos c2, if_neg c4, if_neg c8, if_neg c12, if_pos c16, if_neg c17, if_pos c18, if_pos c19]; try rfl), ht⟩, hS.F ht⟩) hS.2.2 dMo_isArithmetic_305
        by_cases c20 : (f_Mo_n vc) = (7 : Int32)
        · skip
          refine lv_tableIn (tgt := 277) (off := 200) hx hb dMo_isArithmetic_77 (by rw [c20]; decide) (by rw [c20]; decide) (by rw [c20]; rfl) (by decide) ?_
          refine lv_aload_n hx hb dMo_isArithmetic_277 rfl (lv_at hl 2 rfl) ?_
          have hPc := hP.sub (ws' := [(m0, .inr (5, [.int vth, .ref qt, .int vtp, .ref qp, .int vpl, .ref qr, .ref qm, .int vpc, .int vst, .int vc, .int vd, .int vs, .int vo, .int vi, .int vn]))]) [0] rfl
          refine va_calli (va_runV (As := []) (rest := []) ⟨hx, hb, hml, hown, hT⟩ (c_Mo_n l G cB cL cI s.heap m0 vth qt vtp qp vpl qr qm vpc vst vc vd vs vo vi vn hPc ) (cwV 0 hT (gB_V mw_651 mw_653 ms_6 mw_6 mw_654) rfl rfl rfl (by decide +kernel) ⟨Nat.le_of_ble_eq_true rfl, Nat.le_of_ble_eq_true rfl⟩) ⟨fun a U g mk q => ⟨q.1, q.2.1, va_K.moved (u := U) (U := U.calling g mk a) (Vm.Alike.refl U.vm) q.2.2⟩, va_recv hK hPc (ci := 5) (q0 := 0) rfl rfl, fun U hU hW => ⟨rfl, hU, va_K.moved hW.alike hK⟩⟩ rfl rfl hl.1 rfl (lv_room (Nat.le_of_ble_eq_true rfl)) dMo_isArithmetic_278 ⟨Nat.zero_le _, Nat.zero_le _⟩) hS (fun _ _ h => h.elim) (fun _ h => h.elim) (fun r u t H1 locs ht hvm hw hB hz8 hk8 hS => ?_)
          obtain rfl : s.heap = H1 := hB.symm.trans ht
          subst hw
          refine lv_bipush (v := (13 : Int32)) hx hb dMo_isArithmetic_281 (by decide) ?_
          refine lv_icmp_ge (tgt := 304) hx hb dMo_isArithmetic_283 (by decide) (fun c21 => ?_) (fun c21 => ?_)
          · skip
            refine lv_iconst (v := (0 : Int32)) hx hb dMo_isArithmetic_304 (by decide) ?_
            exact W.zret (v := (0 : Int32)) hx hb hr rfl (fun t ht hW => ⟨⟨(0 : Int32), (), rfl, (by unfold f_Mo_isArithmetic; rw [if_pos c2, if_neg c4, if_neg c8, if_neg c12, if_neg c16, if_pos c20, if_pos c21]; try rfl), ht⟩, hS.F ht⟩) hS.2.2 dMo_isArithmetic_305
          · skip
            refine lv_aload_n hx hb dMo_isArithmetic_286 rfl (lv_at hl 2 rfl) ?_
            have hPc := hP.sub (ws' := [(m0, .inr (5, [.int vth, .ref qt, .int vtp, .ref qp, .int vpl, .ref qr, .ref qm, .int vpc, .int vst, .int vc, .int vd, .int vs, .int vo, .int vi, .int vn]))]) [0] rfl
            refine va_calli (va_runV (As := []) (rest := []) ⟨hx, hb, hml, hown, hT⟩ (c_Mo_hasSource l G cB cL cI s.heap m0 vth qt vtp qp vpl qr qm vpc vst vc vd vs vo vi vn hPc ) (cwV 0 hT (gB_V mw_659 mw_661 ms_8 mw_6 mw_662) rfl rfl rfl (by decide +kernel) ⟨Nat.le_of_ble_eq_true rfl, Nat.le_of_ble_eq_true rfl⟩) ⟨fun a U g mk q => ⟨q.1, q.2.1, va_K.moved (u := U) (U := U.calling g mk a) (Vm.Alike.refl U.vm) q.2.2⟩, va_recv hK hPc (ci := 5) (q0 := 0) rfl rfl, fun U hU hW => ⟨rfl, hU, va_K.moved hW.alike hK⟩⟩ rfl rfl hl.1 rfl (lv_room (Nat.le_of_ble_eq_true rfl)) dMo_isArithmetic_287 ⟨Nat.zero_le _, Nat.zero_le _⟩) hS (fun _ _ h => h.elim) (fun _ h => h.elim) (fun r u t H1 locs ht hvm hw hB hz8 hk8 hS => ?_)
            obtain rfl : s.heap = H1 := hB.symm.trans ht
            subst hw
            refine lv_if_eq (tgt := 304) hx hb dMo_isArithmetic_290 (by decide) (fun c22 => ?_) (fun c22 => ?_)
            · have c22 := bI_z c22
              refine lv_iconst (v := (0 : Int32)) hx hb dMo_isArithmetic_304 (by decide) ?_
              exact W.zret (v := (0 : Int32)) hx hb hr rfl (fun t ht hW => ⟨⟨(0 : Int32), (), rfl, (by unfold f_Mo_isArithmetic; rw [if_pos c2, if_neg c4, if_neg c8, if_neg c12, if_neg c16, if_pos c20, if_neg c21, if_neg c22]; try rfl), ht⟩, hS.F ht⟩) hS.2.2 dMo_isArithmetic_305
            · have c22 := bI_n c22
              refine lv_aload_n hx hb dMo_isArithmetic_293 rfl (lv_at hl 2 rfl) ?_
              refine va_get (D := G) (ci := 5) (v := .int vo) (C := RMo) (T := TMo) (N := 15) hx hb hT inMo hown hK hP 0 rfl rfl 12 (by decide) (hT _ mw_577) (fun _ h9 => h9) rfl dMo_isArithmetic_294 ?_
              refine lv_if_ne (tgt := 304) hx hb dMo_isArithmetic_297 (by decide) (fun c23 => ?_) (fun c23 => ?_)
              · skip
                refine lv_iconst (v := (0 : Int32)) hx hb dMo_isArithmetic_304 (by decide) ?_
                exact W.zret (v := (0 : Int32)) hx hb hr rfl (fun t ht hW => ⟨⟨(0 : Int32), (), rfl, (by unfold f_Mo_isArithmetic; rw [if_pos c2, if_neg c4, if_neg c8, if_neg c12, if_neg c16, if_pos c20, if_neg c21, if_pos c22, if_neg c23]; try rfl), ht⟩, hS.F ht⟩) hS.2.2 dMo_isArithmetic_305
              · skip
                refine lv_iconst (v := (1 : Int32)) hx hb dMo_isArithmetic_300 (by decide) ?_
                refine lv_goto (tgt := 305) hx hb dMo_isArithmetic_301 (by decide) ?_
                exact W.zret (v := (1 : Int32)) hx hb hr rfl (fun t ht hW => ⟨⟨(1 : Int32), (), rfl, (by unfold f_Mo_isArithmetic; rw [if_pos c2, if_neg c4, if_neg c8, if_neg c12, if_neg c16, if_pos c20, if_neg c21, if_pos c22, if_pos c23]; try rfl), ht⟩, hS.F ht⟩) hS.2.2 dMo_isArithmetic_305
        by_cases c24 : (f_Mo_n vc) = (8 : Int32)
        · skip
          refine lv_tableIn (tgt := 136) (off := 59) hx hb dMo_isArithmetic_77 (by rw [c24]; decide) (by rw [c24]; decide) (by rw [c24]; rfl) (by decide) ?_
          refine lv_aload_n hx hb dMo_isArithmetic_136 rfl (lv_at hl 2 rfl) ?_
          have hPc := hP.sub (ws' := [(m0, .inr (5, [.int vth, .ref qt, .int vtp, .ref qp, .int vpl, .ref qr, .ref qm, .int vpc, .int vst, .int vc, .int vd, .int vs, .int vo, .int vi, .int vn]))]) [0] rfl
          refine va_calli (va_runV (As := []) (rest := []) ⟨hx, hb, hml, hown, hT⟩ (c_Mo_bit3 l G cB cL cI s.heap m0 vth qt vtp qp vpl qr qm vpc vst vc vd vs vo vi vn hPc ) (cwV 0 hT (gB_V mw_655 mw_657 ms_7 mw_6 mw_658) rfl rfl rfl (by decide +kernel) ⟨Nat.le_of_ble_eq_true rfl, Nat.le_of_ble_eq_true rfl⟩) ⟨fun a U g mk q => ⟨q.1, q.2.1, va_K.moved (u := U) (U := U.calling g mk a) (Vm.Alike.refl U.vm) q.2.2⟩, va_recv hK hPc (ci := 5) (q0 := 0) rfl rfl, fun U hU hW => ⟨rfl, hU, va_K.moved hW.alike hK⟩⟩ rfl rfl hl.1 rfl (lv_room (Nat.le_of_ble_eq_true rfl)) dMo_isArithmetic_137 ⟨Nat.zero_le _, Nat.zero_le _⟩) hS (fun _ _ h => h.elim) (fun _ h => h.elim) (fun r u t H1 locs ht hvm hw hB hz8 hk8 hS => ?_)
          obtain rfl : s.heap = H1 := hB.symm.trans ht
          subst hw
          refine lv_if_ne (tgt := 168) hx hb dMo_isArithmetic_140 (by decide) (fun c25 => ?_) (fun c25 => ?_)
          · have c25 := bI_n c25
            refine lv_iconst (v := (0 : Int32)) hx hb dMo_isArithmetic_168 (by decide) ?_
            exact W.zret (v := (0 : Int32)) hx hb hr rfl (fun t ht hW => ⟨⟨(0 : Int32), (), rfl, (by unfold f_Mo_isArithmetic; rw [if_pos c2, if_neg c4, if_neg c8, if_neg c12, if_neg c16, if_neg c20, if_pos c24, if_pos c25]; try rfl), ht⟩, hS.F ht⟩) hS.2.2 dMo_isArithmetic_169
          · have c25 := bI_z c25
            refine lv_aload_n hx hb dMo_isArithmetic_143 rfl (lv_at hl 2 rfl) ?_
            refine va_get (D := G) (ci := 5) (v := .int vi) (C := RMo) (T := TMo) (N := 15) hx hb hT inMo hown hK hP 0 rfl rfl 13 (by decide) (hT _ mw_578) (fun _ h9 => h9) rfl dMo_isArithmetic_144 ?_
            refine lv_if_ne (tgt := 168) hx hb dMo_isArithmetic_147 (by decide) (fun c26 => ?_) (fun c26 => ?_)
            · skip
              refine lv_iconst (v := (0 : Int32)) hx hb dMo_isArithmetic_168 (by decide) ?_
              exact W.zret (v := (0 : Int32)) hx hb hr rfl (fun t ht hW => ⟨⟨(0 : Int32), (), rfl, (by unfold f_Mo_isArithmetic; rw [if_pos c2, if_neg c4, if_neg c8, if_neg c12, if_neg c16, if_neg c20, if_pos c24, if_neg c25, if_neg c26]; try rfl), ht⟩, hS.F ht⟩) hS.2.2 dMo_isArithmetic_169
            · skip
              refine lv_aload_n hx hb dMo_isArithmetic_150 rfl (lv_at hl 2 rfl) ?_
              refine va_get (D := G) (ci := 5) (v := .int vs) (C := RMo) (T := TMo) (N := 15) hx hb hT inMo hown hK hP 0 rfl rfl 11 (by decide) (hT _ mw_576) (fun _ h9 => h9) rfl dMo_isArithmetic_151 ?_
              refine lv_if_ne (tgt := 168) hx hb dMo_isArithmetic_154 (by decide) (fun c27 => ?_) (fun c27 => ?_)
              · skip
                refine lv_iconst (v := (0 : Int32)) hx hb dMo_isArithmetic_168 (by decide) ?_
                exact W.zret (v := (0 : Int32)) hx hb hr rfl (fun t ht hW => ⟨⟨(0 : Int32), (), rfl, (by unfold f_Mo_isArithmetic; rw [if_pos c2, if_neg c4, if_neg c8, if_neg c12, if_neg c16, if_neg c20, if_pos c24, if_neg c25, if_pos c26, if_neg c27]; try rfl), ht⟩, hS.F ht⟩) hS.2.2 dMo_isArithmetic_169
              · skip
                refine lv_aload_n hx hb dMo_isArithmetic_157 rfl (lv_at hl 2 rfl) ?_
                refine va_get (D := G) (ci := 5) (v := .int vo) (C := RMo) (T := TMo) (N := 15) hx hb hT inMo hown hK hP 0 rfl rfl 12 (by decide) (hT _ mw_577) (fun _ h9 => h9) rfl dMo_isArithmetic_158 ?_
                refine lv_if_ne (tgt := 168) hx hb dMo_isArithmetic_161 (by decide) (fun c28 => ?_) (fun c28 => ?_)
                · skip
                  refine lv_iconst (v := (0 : Int32)) hx hb dMo_isArithmetic_168 (by decide) ?_
                  exact W.zret (v := (0 : Int32)) hx hb hr rfl (fun t ht hW => ⟨⟨(0 : Int32), (), rfl, (by unfold f_Mo_isArithmetic; rw [if_pos c2, if_neg c4, if_neg c8, if_neg c12, if_neg c16, if_neg c20, if_pos c24, if_neg c25, if_pos c26, if_pos c27, if_neg c28]; try rfl), ht⟩, hS.F ht⟩) hS.2.2 dMo_isArithmetic_169
                · skip
                  refine lv_iconst (v := (1 : Int32)) hx hb dMo_isArithmetic_164 (by decide) ?_
                  refine lv_goto (tgt := 169) hx hb dMo_isArithmetic_165 (by decide) ?_
                  exact W.zret (v := (1 : Int32)) hx hb hr rfl (fun t ht hW => ⟨⟨(1 : Int32), (), rfl, (by unfold f_Mo_isArithmetic; rw [if_pos c2, if_neg c4, if_neg c8, if_neg c12, if_neg c16, if_neg c20, if_pos c24, if_neg c25, if_pos c26, if_pos c27, if_pos c28]; try rfl), ht⟩, hS.F ht⟩) hS.2.2 dMo_isArithmetic_169
        by_cases c29 : (f_Mo_n vc) = (9 : Int32)
        · skip
          refine lv_tableIn (tgt := 191) (off := 114) hx hb dMo_isArithmetic_77 (by rw [c29]; decide) (by rw [c29]; decide) (by rw [c29]; rfl) (by decide) ?_
          refine lv_aload_n hx hb dMo_isArithmetic_191 rfl (lv_at hl 2 rfl) ?_
          have hPc := hP.sub (ws' := [(m0, .inr (5, [.int vth, .ref qt, .int vtp, .ref qp, .int vpl, .ref qr, .ref qm, .int vpc, .int vst, .int vc, .int vd, .int vs, .int vo, .int vi, .int vn]))]) [0] rfl
          refine va_calli (va_runV (As := []) (rest := []) ⟨hx, hb, hml, hown, hT⟩ (c_Mo_hasSource l G cB cL cI s.heap m0 vth qt vtp qp vpl qr qm vpc vst vc vd vs vo vi vn hPc ) (cwV 0 hT (gB_V mw_659 mw_661 ms_8 mw_6 mw_662) rfl rfl rfl (by decide +kernel) ⟨Nat.le_of_ble_eq_true rfl, Nat.le_of_ble_eq_true rfl⟩) ⟨fun a U g mk q => ⟨q.1, q.2.1, va_K.moved (u := U) (U := U.calling g mk a) (Vm.Alike.refl U.vm) q.2.2⟩, va_recv hK hPc (ci := 5) (q0 := 0) rfl rfl, fun U hU hW => ⟨rfl, hU, va_K.moved hW.alike hK⟩⟩ rfl rfl hl.1 rfl (lv_room (Nat.le_of_ble_eq_true rfl)) dMo_isArithmetic_192 ⟨Nat.zero_le _, Nat.zero_le _⟩) hS (fun _ _ h => h.elim) (fun _ h => h.elim) (fun r u t H1 locs ht hvm hw hB hz8 hk8 hS => ?_)
          obtain rfl : s.heap = H1 := hB.symm.trans ht
          subst hw
          refine lv_if_eq (tgt := 217) hx hb dMo_isArithmetic_195 (by decide) (fun c30 => ?_) (fun c30 => ?_)
          · have c30 := bI_z c30
            refine lv_iconst (v := (0 : Int32)) hx hb dMo_isArithmetic_217 (by decide) ?_
            exact W.zret (v := (0 : Int32)) hx hb hr rfl (fun t ht hW => ⟨⟨(0 : Int32), (), rfl, (by unfold f_Mo_isArithmetic; rw [if_pos c2, if_neg c4, if_neg c8, if_neg c12, if_neg c16, if_neg c20, if_neg c24, if_pos c29, if_neg c30]; try rfl), ht⟩, hS.F ht⟩) hS.2.2 dMo_isArithmetic_218
          · have c30 := bI_n c30
            refine lv_aload_n hx hb dMo_isArithmetic_198 rfl (lv_at hl 2 rfl) ?_
            refine va_get (D := G) (ci := 5) (v := .int vo) (C := RMo) (T := TMo) (N := 15) hx hb hT inMo hown hK hP 0 rfl rfl 12 (by decide) (hT _ mw_577) (fun _ h9 => h9) rfl dMo_isArithmetic_199 ?_
            refine lv_if_eq (tgt := 213) hx hb dMo_isArithmetic_202 (by decide) (fun c31 => ?_) (fun c31 => ?_)
            · skip
              refine lv_iconst (v := (1 : Int32)) hx hb dMo_isArithmetic_213 (by decide) ?_
              refine lv_goto (tgt := 218) hx hb dMo_isArithmetic_214 (by decide) ?_
              exact W.zret (v := (1 : Int32)) hx hb hr rfl (fun t ht hW => ⟨⟨(1 : Int32), (), rfl, (by unfold f_Mo_isArithmetic; rw [if_pos c2, if_neg c4, if_neg c8, if_neg c12, if_neg c16, if_neg c20, if_neg c24, if_pos c29, if_pos c30, if_pos c31]; try rfl), ht⟩, hS.F ht⟩) hS.2.2 dMo_isArithmetic_218
            · skip
              refine lv_aload_n hx hb dMo_isArithmetic_205 rfl (lv_at hl 2 rfl) ?_
              refine va_get (D := G) (ci := 5) (v := .int vo) (C := RMo) (T := TMo) (N := 15) hx hb hT inMo hown hK hP 0 rfl rfl 12 (by decide) (hT _ mw_577) (fun _ h9 => h9) rfl dMo_isArithmetic_206 ?_
              refine lv_iconst (v := (1 : Int32)) hx hb dMo_isArithmetic_209 (by decide) ?_
              refine lv_icmp_ne (tgt := 217) hx hb dMo_isArithmetic_210 (by decide) (fun c32 => ?_) (fun c32 => ?_)
              · skip
                refine lv_iconst (v := (0 : Int32)) hx hb dMo_isArithmetic_217 (by decide) ?_
                exact W.zret (v := (0 : Int32)) hx hb hr rfl (fun t ht hW => ⟨⟨(0 : Int32), (), rfl, (by unfold f_Mo_isArithmetic; rw [if_pos c2, if_neg c4, if_neg c8, if_neg c12, if_neg c16, if_neg c20, if_neg c24, if_pos c29, if_pos c30, if_neg c31, if_neg c32]; try rfl), ht⟩, hS.F ht⟩) hS.2.2 dMo_isArithmetic_218
              · skip
                refine lv_iconst (v := (1 : Int32)) hx hb dMo_isArithmetic_213 (by decide) ?_
                refine lv_goto (tgt := 218) hx hb dMo_isArithmetic_214 (by decide) ?_
                exact W.zret (v := (1 : Int32)) hx hb hr rfl (fun t ht hW => ⟨⟨(1 : Int32), (), rfl, (by unfold f_Mo_isArithmetic; rw [if_pos c2, if_neg c4, if_neg c8, if_neg c12, if_neg c16, if_neg c20, if_neg c24, if_pos c29, if_pos c30, if_neg c31, if_pos c32]; try rfl), ht⟩, hS.F ht⟩) hS.2.2 dMo_isArithmetic_218
        by_cases c33 : (f_Mo_n vc) = (10 : Int32)
        · skip
          refine lv_tableIn (tgt := 277) (off := 200) hx hb dMo_isArithmetic_77 (by rw [c33]; decide) (by rw [c33]; decide) (by rw [c33]; rfl) (by decide) ?_
          refine lv_aload_n hx hb dMo_isArithmetic_277 rfl (lv_at hl 2 rfl) ?_
          have hPc := hP.sub (ws' := [(m0, .inr (5, [.int vth, .ref qt, .int vtp, .ref qp, .int vpl, .ref qr, .ref qm, .int vpc, .int vst, .int vc, .int vd, .int vs, .int vo, .int vi, .int vn]))]) [0] rfl
          refine va_calli (va_runV (As := []) (rest := []) ⟨hx, hb, hml, hown, hT⟩ (c_Mo_n l G cB cL cI s.heap m0 vth qt vtp qp vpl qr qm vpc vst vc vd vs vo vi vn hPc ) (cwV 0 hT (gB_V mw_651 mw_653 ms_6 mw_6 mw_654) rfl rfl rfl (by decide +kernel) ⟨Nat.le_of_ble_eq_true rfl, Nat.le_of_ble_eq_true rfl⟩) ⟨fun a U g mk q => ⟨q.1, q.2.1, va_K.moved (u := U) (U := U.calling g mk a) (Vm.Alike.refl U.vm) q.2.2⟩, va_recv hK hPc (ci := 5) (q0 := 0) rfl rfl, fun U hU hW => ⟨rfl, hU, va_K.moved hW.alike hK⟩⟩ rfl rfl hl.1 rfl (lv_room (Nat.le_of_ble_eq_true rfl)) dMo_isArithmetic_278 ⟨Nat.zero_le _, Nat.zero_le _⟩) hS (fun _ _ h => h.elim) (fun _ h => h.elim) (fun r u t H1 locs ht hvm hw hB hz8 hk8 hS => ?_)
          obtain rfl : s.heap = H1 := hB.symm.trans ht
          subst hw
          refine lv_bipush (v := (13 : Int32)) hx hb dMo_isArithmetic_281 (by decide) ?_
          refine lv_icmp_ge (tgt := 304) hx hb dMo_isArithmetic_283 (by decide) (fun c34 => ?_) (fun c34 => ?_)
          · skip
            refine lv_iconst (v := (0 : Int32)) hx hb dMo_isArithmetic_304 (by decide) ?_
            exact W.zret (v := (0 : Int32)) hx hb hr rfl (fun t ht hW => ⟨⟨(0 : Int32), (), rfl, (by unfold f_Mo_isArithmetic; rw [if_pos c2, if_neg c4, if_neg c8, if_neg c12, if_neg c16, if_neg c20, if_neg c24, if_neg c29, if_pos c33, if_pos c34]; try rfl), ht⟩, hS.F ht⟩) hS.2.2 dMo_isArithmetic_305
          · skip
            refine lv_aload_n hx hb dMo_isArithmetic_286 rfl (lv_at hl 2 rfl) ?_
            have hPc := hP.sub (ws' := [(m0, .inr (5, [.int vth, .ref qt, .int vtp, .ref qp, .int vpl, .ref qr, .ref qm, .int vpc, .int vst, .int vc, .int vd, .int vs, .int vo, .int vi, .int vn]))]) [0] rfl
            refine va_calli (va_runV (As := []) (rest := []) ⟨hx, hb, hml, hown, hT⟩ (c_Mo_hasSource l G cB cL cI s.heap m0 vth qt vtp qp vpl qr qm vpc vst vc vd vs vo vi vn hPc ) (cwV 0 hT (gB_V mw_659 mw_661 ms_8 mw_6 mw_662) rfl rfl rfl (by decide +kernel) ⟨Nat.le_of_ble_eq_true rfl, Nat.le_of_ble_eq_true rfl⟩) ⟨fun a U g mk q => ⟨q.1, q.2.1, va_K.moved (u := U) (U := U.calling g mk a) (Vm.Alike.refl U.vm) q.2.2⟩, va_recv hK hPc (ci := 5) (q0 := 0) rfl rfl, fun U hU hW => ⟨rfl, hU, va_K.moved hW.alike hK⟩⟩ rfl rfl hl.1 rfl (lv_room (Nat.le_of_ble_eq_true rfl)) dMo_isArithmetic_287 ⟨Nat.zero_le _, Nat.zero_le _⟩) hS (fun _ _ h => h.elim) (fun _ h => h.elim) (fun r u t H1 locs ht hvm hw hB hz8 hk8 hS => ?_)
            obtain rfl : s.heap = H1 := hB.symm.trans ht
            subst hw
            refine lv_if_eq (tgt := 304) hx hb dMo_isArithmetic_290 (by decide) (fun c35 => ?_) (fun c35 => ?_)
            · have c35 := bI_z c35
              refine lv_iconst (v := (0 : Int32)) hx hb dMo_isArithmetic_304 (by decide) ?_
              exact W.zret (v := (0 : Int32)) hx hb hr rfl (fun t ht hW => ⟨⟨(0 : Int32), (), rfl, (by unfold f_Mo_isArithmetic; rw [if_pos c2, if_neg c4, if_neg c8, if_neg c12, if_neg c16, if_neg c20, if_neg c24, if_neg c29, if_pos c33, if_neg c34, if_neg c35]; try rfl), ht⟩, hS.F ht⟩) hS.2.2 dMo_isArithmetic_305
            · have c35 := bI_n c35
              refine lv_aload_n hx hb dMo_isArithmetic_293 rfl (lv_at hl 2 rfl) ?_
              refine va_get (D := G) (ci := 5) (v := .int vo) (C := RMo) (T := TMo) (N := 15) hx hb hT inMo hown hK hP 0 rfl rfl 12 (by decide) (hT _ mw_577) (fun _ h9 => h9) rfl dMo_isArithmetic_294 ?_
              refine lv_if_ne (tgt := 304) hx hb dMo_isArithmetic_297 (by decide) (fun c36 => ?_) (fun c36 => ?_)
              · skip
                refine lv_iconst (v := (0 : Int32)) hx hb dMo_isArithmetic_304 (by decide) ?_
                exact W.zret (v := (0 : Int32)) hx hb hr rfl (fun t ht hW => ⟨⟨(0 : Int32), (), rfl, (by unfold f_Mo_isArithmetic; rw [if_pos c2, if_neg c4, if_neg c8, if_neg c12, if_neg c16, if_neg c20, if_neg c24, if_neg c29, if_pos c33, if_neg c34, if_pos c35, if_neg c36]; try rfl), ht⟩, hS.F ht⟩) hS.2.2 dMo_isArithmetic_305
              · skip
                refine lv_iconst (v := (1 : Int32)) hx hb dMo_isArithmetic_300 (by decide) ?_
                refine lv_goto (tgt := 305) hx hb dMo_isArithmetic_301 (by decide) ?_
                exact W.zret (v := (1 : Int32)) hx hb hr rfl (fun t ht hW => ⟨⟨(1 : Int32), (), rfl, (by unfold f_Mo_isArithmetic; rw [if_pos c2, if_neg c4, if_neg c8, if_neg c12, if_neg c16, if_neg c20, if_neg c24, if_neg c29, if_pos c33, if_neg c34, if_pos c35, if_pos c36]; try rfl), ht⟩, hS.F ht⟩) hS.2.2 dMo_isArithmetic_305
        by_cases c37 : (f_Mo_n vc) = (11 : Int32)
        · skip
          refine lv_tableIn (tgt := 219) (off := 142) hx hb dMo_isArithmetic_77 (by rw [c37]; decide) (by rw [c37]; decide) (by rw [c37]; rfl) (by decide) ?_
          refine lv_aload_n hx hb dMo_isArithmetic_219 rfl (lv_at hl 2 rfl) ?_
          have hPc := hP.sub (ws' := [(m0, .inr (5, [.int vth, .ref qt, .int vtp, .ref qp, .int vpl, .ref qr, .ref qm, .int vpc, .int vst, .int vc, .int vd, .int vs, .int vo, .int vi, .int vn]))]) [0] rfl
          refine va_calli (va_runV (As := []) (rest := []) ⟨hx, hb, hml, hown, hT⟩ (c_Mo_hasSource l G cB cL cI s.heap m0 vth qt vtp qp vpl qr qm vpc vst vc vd vs vo vi vn hPc ) (cwV 0 hT (gB_V mw_659 mw_661 ms_8 mw_6 mw_662) rfl rfl rfl (by decide +kernel) ⟨Nat.le_of_ble_eq_true rfl, Nat.le_of_ble_eq_true rfl⟩) ⟨fun a U g mk q => ⟨q.1, q.2.1, va_K.moved (u := U) (U := U.calling g mk a) (Vm.Alike.refl U.vm) q.2.2⟩, va_recv hK hPc (ci := 5) (q0 := 0) rfl rfl, fun U hU hW => ⟨rfl, hU, va_K.moved hW.alike hK⟩⟩ rfl rfl hl.1 rfl (lv_room (Nat.le_of_ble_eq_true rfl)) dMo_isArithmetic_220 ⟨Nat.zero_le _, Nat.zero_le _⟩) hS (fun _ _ h => h.elim) (fun _ h => h.elim) (fun r u t H1 locs ht hvm hw hB hz8 hk8 hS => ?_)
          obtain rfl : s.heap = H1 := hB.symm.trans ht
          subst hw
          refine lv_if_eq (tgt := 275) hx hb dMo_isArithmetic_223 (by decide) (fun c38 => ?_) (fun c38 => ?_)
          · have c38 := bI_z c38
            refine lv_iconst (v := (0 : Int32)) hx hb dMo_isArithmetic_275 (by decide) ?_
            exact W.zret (v := (0 : Int32)) hx hb hr rfl (fun t ht hW => ⟨⟨(0 : Int32), (), rfl, (by unfold f_Mo_isArithmetic; rw [if_pos c2, if_neg c4, if_neg c8, if_neg c12, if_neg c16, if_neg c20, if_neg c24, if_neg c29, if_neg c33, if_pos c37, if_neg c38]; try rfl), ht⟩, hS.F ht⟩) hS.2.2 dMo_isArithmetic_276
          · have c38 := bI_n c38
            refine lv_aload_n hx hb dMo_isArithmetic_226 rfl (lv_at hl 2 rfl) ?_
            refine va_get (D := G) (ci := 5) (v := .int vo) (C := RMo) (T := TMo) (N := 15) hx hb hT inMo hown hK hP 0 rfl rfl 12 (by decide) (hT _ mw_577) (fun _ h9 => h9) rfl dMo_isArithmetic_227 ?_
            refine lv_if_eq (tgt := 271) hx hb dMo_isArithmetic_230 (by decide) (fun c39 => ?_) (fun c39 => ?_)
            · skip
              refine lv_iconst (v := (1 : Int32)) hx hb dMo_isArithmetic_271 (by decide) ?_
              refine lv_goto (tgt := 276) hx hb dMo_isArithmetic_272 (by decide) ?_
              exact W.zret (v := (1 : Int32)) hx hb hr rfl (fun t ht hW => ⟨⟨(1 : Int32), (), rfl, (by unfold f_Mo_isArithmetic; rw [if_pos c2, if_neg c4, if_neg c8, if_neg c12, if_neg c16, if_neg c20, if_neg c24, if_neg c29, if_neg c33, if_pos c37, if_pos c38, if_pos c39]; try rfl), ht⟩, hS.F ht⟩) hS.2.2 dMo_isArithmetic_276
            · skip
              refine lv_aload_n hx hb dMo_isArithmetic_233 rfl (lv_at hl 2 rfl) ?_
              have hPc := hP.sub (ws' := [(m0, .inr (5, [.int vth, .ref qt, .int vtp, .ref qp, .int vpl, .ref qr, .ref qm, .int vpc, .int vst, .int vc, .int vd, .int vs, .int vo, .int vi, .int vn]))]) [0] rfl
              refine va_calli (va_runV (As := []) (rest := []) ⟨hx, hb, hml, hown, hT⟩ (c_Mo_bit3 l G cB cL cI s.heap m0 vth qt vtp qp vpl qr qm vpc vst vc vd vs vo vi vn hPc ) (cwV 0 hT (gB_V mw_655 mw_657 ms_7 mw_6 mw_658) rfl rfl rfl (by decide +kernel) ⟨Nat.le_of_ble_eq_true rfl, Nat.le_of_ble_eq_true rfl⟩) ⟨fun a U g mk q => ⟨q.1, q.2.1, va_K.moved (u := U) (U := U.calling g mk a) (Vm.Alike.refl U.vm) q.2.2⟩, va_recv hK hPc (ci := 5) (q0 := 0) rfl rfl, fun U hU hW => ⟨rfl, hU, va_K.moved hW.alike hK⟩⟩ rfl rfl hl.1 rfl (lv_room (Nat.le_of_ble_eq_true rfl)) dMo_isArithmetic_234 ⟨Nat.zero_le _, Nat.zero_le _⟩) hS (fun _ _ h => h.elim) (fun _ h => h.elim) (fun r u t H1 locs ht hvm hw hB hz8 hk8 hS => ?_)
              obtain rfl : s.heap = H1 := hB.symm.trans ht
              subst hw
              refine lv_if_eq (tgt := 275) hx hb dMo_isArithmetic_237 (by decide) (fun c40 => ?_) (fun c40 => ?_)
              · have c40 := bI_z c40
                refine lv_iconst (v := (0 : Int32)) hx hb dMo_isArithmetic_275 (by decide) ?_
                exact W.zret (v := (0 : Int32)) hx hb hr rfl (fun t ht hW => ⟨⟨(0 : Int32), (), rfl, (by unfold f_Mo_isArithmetic; rw [if_pos c2, if_neg c4, if_neg c8, if_neg c12, if_neg c16, if_neg c20, if_neg c24, if_neg c29, if_neg c33, if_pos c37, if_pos c38, if_neg c39, if_neg c40]; try rfl), ht⟩, hS.F ht⟩) hS.2.2 dMo_isArithmetic_276
              · have c40 := bI_n c40
                refine lv_aload_n hx hb dMo_isArithmetic_240 rfl (lv_at hl 2 rfl) ?_
                refine va_get (D := G) (ci := 5) (v := .int vo) (C := RMo) (T := TMo) (N := 15) hx hb hT inMo hown hK hP 0 rfl rfl 12 (by decide) (hT _ mw_577) (fun _ h9 => h9) rfl dMo_isArithmetic_241 ?_
                refine lv_bipush (v := (8 : Int32)) hx hb dMo_isArithmetic_244 (by decide) ?_
                refine lv_icmp_eq (tgt := 271) hx hb dMo_isArithmetic_246 (by decide) (fun c41 => ?_) (fun c41 => ?_)
                · skip
                  refine lv_iconst (v := (1 : Int32)) hx hb dMo_isArithmetic_271 (by decide) ?_
                  refine lv_goto (tgt := 276) hx hb dMo_isArithmetic_272 (by decide) ?_
                  exact W.zret (v := (1 : Int32)) hx hb hr rfl (fun t ht hW => ⟨⟨(1 : Int32), (), rfl, (by unfold f_Mo_isArithmetic; rw [if_pos c2, if_neg c4, if_neg c8, if_neg c12, if_neg c16, if_neg c20, if_neg c24, if_neg c29, if_neg c33, if_pos c37, if_pos c38, if_neg c39, if_pos c40, if_pos c41]; try rfl), ht⟩, hS.F ht⟩) hS.2.2 dMo_isArithmetic_276
                · skip
                  refine lv_aload_n hx hb dMo_isArithmetic_249 rfl (lv_at hl 2 rfl) ?_
                  refine va_get (D := G) (ci := 5) (v := .int vo) (C := RMo) (T := TMo) (N := 15) hx hb hT inMo hown hK hP 0 rfl rfl 12 (by decide) (hT _ mw_577) (fun _ h9 => h9) rfl dMo_isArithmetic_250 ?_
                  refine lv_bipush (v := (16 : Int32)) hx hb dMo_isArithmetic_253 (by decide) ?_
                  refine lv_icmp_eq (tgt := 271) hx hb dMo_isArithmetic_255 (by decide) (fun c42 => ?_) (fun c42 => ?_)
                  · skip
                    refine lv_iconst (v := (1 : Int32)) hx hb dMo_isArithmetic_271 (by decide) ?_
                    refine lv_goto (tgt := 276) hx hb dMo_isArithmetic_272 (by decide) ?_
                    exact W.zret (v := (1 : Int32)) hx hb hr rfl (fun t ht hW => ⟨⟨(1 : Int32), (), rfl, (by unfold f_Mo_isArithmetic; rw [if_pos c2, if_neg c4, if_neg c8, if_neg c12, if_neg c16, if_neg c20, if_neg c24, if_neg c29, if_neg c33, if_pos c37, if_pos c38, if_neg c39, if_pos c40, if_neg c41, if_pos c42]; try rfl), ht⟩, hS.F ht⟩) hS.2.2 dMo_isArithmetic_276
                  · skip
                    refine lv_iload_n hx hb dMo_isArithmetic_258 rfl (lv_at hl 1 rfl) ?_
                    refine lv_if_eq (tgt := 275) hx hb dMo_isArithmetic_259 (by decide) (fun c43 => ?_) (fun c43 => ?_)
                    · have c43 := bI_z c43
                      refine lv_iconst (v := (0 : Int32)) hx hb dMo_isArithmetic_275 (by decide) ?_
                      exact W.zret (v := (0 : Int32)) hx hb hr rfl (fun t ht hW => ⟨⟨(0 : Int32), (), rfl, (by unfold f_Mo_isArithmetic; rw [if_pos c2, if_neg c4, if_neg c8, if_neg c12, if_neg c16, if_neg c20, if_neg c24, if_neg c29, if_neg c33, if_pos c37, if_pos c38, if_neg c39, if_pos c40, if_neg c41, if_neg c42, if_neg c43]; try rfl), ht⟩, hS.F ht⟩) hS.2.2 dMo_isArithmetic_276
                    · have c43 := bI_n c43
                      refine lv_aload_n hx hb dMo_isArithmetic_262 rfl (lv_at hl 2 rfl) ?_
                      refine va_get (D := G) (ci := 5) (v := .int vo) (C := RMo) (T := TMo) (N := 15) hx hb hT inMo hown hK hP 0 rfl rfl 12 (by decide) (hT _ mw_577) (fun _ h9 => h9) rfl dMo_isArithmetic_263 ?_
                      refine lv_bipush (v := (32 : Int32)) hx hb dMo_isArithmetic_266 (by decide) ?_
                      refine lv_icmp_ne (tgt := 275) hx hb dMo_isArithmetic_268 (by decide) (fun c44 => ?_) (fun c44 => ?_)
                      · skip
                        refine lv_iconst (v := (0 : Int32)) hx hb dMo_isArithmetic_275 (by decide) ?_
                        exact W.zret (v := (0 : Int32)) hx hb hr rfl (fun t ht hW => ⟨⟨(0 : Int32), (), rfl, (by unfold f_Mo_isArithmetic; rw [if_pos c2, if_neg c4, if_neg c8, if_neg c12, if_neg c16, if_neg c20, if_neg c24, if_neg c29, if_neg c33, if_pos c37, if_pos c38, if_neg c39, if_pos c40, if_neg c41, if_neg c42, if_pos c43, if_neg c44]; try rfl), ht⟩, hS.F ht⟩) hS.2.2 dMo_isArithmetic_276
                      · skip
                        refine lv_iconst (v := (1 : Int32)) hx hb dMo_isArithmetic_271 (by decide) ?_
                        refine lv_goto (tgt := 276) hx hb dMo_isArithmetic_272 (by decide) ?_
                        exact W.zret (v := (1 : Int32)) hx hb hr rfl (fun t ht hW => ⟨⟨(1 : Int32), (), rfl, (by unfold f_Mo_isArithmetic; rw [if_pos c2, if_neg c4, if_neg c8, if_neg c12, if_neg c16, if_neg c20, if_neg c24, if_neg c29, if_neg c33, if_pos c37, if_pos c38, if_neg c39, if_pos c40, if_neg c41, if_neg c42, if_pos c43, if_pos c44]; try rfl), ht⟩, hS.F ht⟩) hS.2.2 dMo_isArithmetic_276
        by_cases c45 : (f_Mo_n vc) = (12 : Int32)
        · skip
          refine lv_tableIn (tgt := 277) (off := 200) hx hb dMo_isArithmetic_77 (by rw [c45]; decide) (by rw [c45]; decide) (by rw [c45]; rfl) (by decide) ?_
          refine lv_aload_n hx hb dMo_isArithmetic_277 rfl (lv_at hl 2 rfl) ?_
          have hPc := hP.sub (ws' := [(m0, .inr (5, [.int vth, .ref qt, .int vtp, .ref qp, .int vpl, .ref qr, .ref qm, .int vpc, .int vst, .int vc, .int vd, .int vs, .int vo, .int vi, .int vn]))]) [0] rfl
          refine va_calli (va_runV (As := []) (rest := []) ⟨hx, hb, hml, hown, hT⟩ (c_Mo_n l G cB cL cI s.heap m0 vth qt vtp qp vpl qr qm vpc vst vc vd vs vo vi vn hPc ) (cwV 0 hT (gB_V mw_651 mw_653 ms_6 mw_6 mw_654) rfl rfl rfl (by decide +kernel) ⟨Nat.le_of_ble_eq_true rfl, Nat.le_of_ble_eq_true rfl⟩) ⟨fun a U g mk q => ⟨q.1, q.2.1, va_K.moved (u := U) (U := U.calling g mk a) (Vm.Alike.refl U.vm) q.2.2⟩, va_recv hK hPc (ci := 5) (q0 := 0) rfl rfl, fun U hU hW => ⟨rfl, hU, va_K.moved hW.alike hK⟩⟩ rfl rfl hl.1 rfl (lv_room (Nat.le_of_ble_eq_true rfl)) dMo_isArithmetic_278 ⟨Nat.zero_le _, Nat.zero_le _⟩) hS (fun _ _ h => h.elim) (fun _ h => h.elim) (fun r u t H1 locs ht hvm hw hB hz8 hk8 hS => ?_)
          obtain rfl : s.heap = H1 := hB.symm.trans ht
          subst hw
          refine lv_bipush (v := (13 : Int32)) hx hb dMo_isArithmetic_281 (by decide) ?_
          refine lv_icmp_ge (tgt := 304) hx hb dMo_isArithmetic_283 (by decide) (fun c46 => ?_) (fun c46 => ?_)
          · skip
            refine lv_iconst (v := (0 : Int32)) hx hb dMo_isArithmetic_304 (by decide) ?_
            exact W.zret (v := (0 : Int32)) hx hb hr rfl (fun t ht hW => ⟨⟨(0 : Int32), (), rfl, (by unfold f_Mo_isArithmetic; rw [if_pos c2, if_neg c4, if_neg c8, if_neg c12, if_neg c16, if_neg c20, if_neg c24, if_neg c29, if_neg c33, if_neg c37, if_pos c45, if_pos c46]; try rfl), ht⟩, hS.F ht⟩) hS.2.2 dMo_isArithmetic_305
          · skip
            refine lv_aload_n hx hb dMo_isArithmetic_286 rfl (lv_at hl 2 rfl) ?_
            have hPc := hP.sub (ws' := [(m0, .inr (5, [.int vth, .ref qt, .int vtp, .ref qp, .int vpl, .ref qr, .ref qm, .int vpc, .int vst, .int vc, .int vd, .int vs, .int vo, .int vi, .int vn]))]) [0] rfl
            refine va_calli (va_runV (As := []) (rest := []) ⟨hx, hb, hml, hown, hT⟩ (c_Mo_hasSource l G cB cL cI s.heap m0 vth qt vtp qp vpl qr qm vpc vst vc vd vs vo vi vn hPc ) (cwV 0 hT (gB_V mw_659 mw_661 ms_8 mw_6 mw_662) rfl rfl rfl (by decide +kernel) ⟨Nat.le_of_ble_eq_true rfl, Nat.le_of_ble_eq_true rfl⟩) ⟨fun a U g mk q => ⟨q.1, q.2.1, va_K.moved (u := U) (U := U.calling g mk a) (Vm.Alike.refl U.vm) q.2.2⟩, va_recv hK hPc (ci := 5) (q0 := 0) rfl rfl, fun U hU hW => ⟨rfl, hU, va_K.moved hW.alike hK⟩⟩ rfl rfl hl.1 rfl (lv_room (Nat.le_of_ble_eq_true rfl)) dMo_isArithmetic_287 ⟨Nat.zero_le _, Nat.zero_le _⟩) hS (fun _ _ h => h.elim) (fun _ h => h.elim) (fun r u t H1 locs ht hvm hw hB hz8 hk8 hS => ?_)
            obtain rfl : s.heap = H1 := hB.symm.trans ht
            subst hw
            refine lv_if_eq (tgt := 304) hx hb dMo_isArithmetic_290 (by decide) (fun c47 => ?_) (fun c47 => ?_)
            · have c47 := bI_z c47
              refine lv_iconst (v := (0 : Int32)) hx hb dMo_isArithmetic_304 (by decide) ?_
              exact W.zret (v := (0 : Int32)) hx hb hr rfl (fun t ht hW => ⟨⟨(0 : Int32), (), rfl, (by unfold f_Mo_isArithmetic; rw [if_pos c2, if_neg c4, if_neg c8, if_neg c12, if_neg c16, if_neg c20, if_neg c24, if_neg c29, if_neg c33, if_neg c37, if_pos c45, if_neg c46, if_neg c47]; try rfl), ht⟩, hS.F ht⟩) hS.2.2 dMo_isArithmetic_305
            · have c47 := bI_n c47
              refine lv_aload_n hx hb dMo_isArithmetic_293 rfl (lv_at hl 2 rfl) ?_
              refine va_get (D := G) (ci := 5) (v := .int vo) (C := RMo) (T := TMo) (N := 15) hx hb hT inMo hown hK hP 0 rfl rfl 12 (by decide) (hT _ mw_577) (fun _ h9 => h9) rfl dMo_isArithmetic_294 ?_
              refine lv_if_ne (tgt := 304) hx hb dMo_isArithmetic_297 (by decide) (fun c48 => ?_) (fun c48 => ?_)
              · skip
                refine lv_iconst (v := (0 : Int32)) hx hb dMo_isArithmetic_304 (by decide) ?_
                exact W.zret (v := (0 : Int32)) hx hb hr rfl (fun t ht hW => ⟨⟨(0 : Int32), (), rfl, (by unfold f_Mo_isArithmetic; rw [if_pos c2, if_neg c4, if_neg c8, if_neg c12, if_neg c16, if_neg c20, if_neg c24, if_neg c29, if_neg c33, if_neg c37, if_pos c45, if_neg c46, if_pos c47, if_neg c48]; try rfl), ht⟩, hS.F ht⟩) hS.2.2 dMo_isArithmetic_305
              · skip
                refine lv_iconst (v := (1 : Int32)) hx hb dMo_isArithmetic_300 (by decide) ?_
                refine lv_goto (tgt := 305) hx hb dMo_isArithmetic_301 (by decide) ?_
                exact W.zret (v := (1 : Int32)) hx hb hr rfl (fun t ht hW => ⟨⟨(1 : Int32), (), rfl, (by unfold f_Mo_isArithmetic; rw [if_pos c2, if_neg c4, if_neg c8, if_neg c12, if_neg c16, if_neg c20, if_neg c24, if_neg c29, if_neg c33, if_neg c37, if_pos c45, if_neg c46, if_pos c47, if_pos c48]; try rfl), ht⟩, hS.F ht⟩) hS.2.2 dMo_isArithmetic_305
        by_cases c49 : (f_Mo_n vc) = (13 : Int32)
        · skip
          refine lv_tableIn (tgt := 170) (off := 93) hx hb dMo_isArithmetic_77 (by rw [c49]; decide) (by rw [c49]; decide) (by rw [c49]; rfl) (by decide) ?_
          refine lv_iload_n hx hb dMo_isArithmetic_170 rfl (lv_at hl 0 rfl) ?_
          refine lv_if_eq (tgt := 189) hx hb dMo_isArithmetic_171 (by decide) (fun c50 => ?_) (fun c50 => ?_)
          · have c50 := bI_z c50
            refine lv_iconst (v := (0 : Int32)) hx hb dMo_isArithmetic_189 (by decide) ?_
            exact W.zret (v := (0 : Int32)) hx hb hr rfl (fun t ht hW => ⟨⟨(0 : Int32), (), rfl, (by unfold f_Mo_isArithmetic; rw [if_pos c2, if_neg c4, if_neg c8, if_neg c12, if_neg c16, if_neg c20, if_neg c24, if_neg c29, if_neg c33, if_neg c37, if_neg c45, if_pos c49, if_neg c50]; try rfl), ht⟩, hS.F ht⟩) hS.2.2 dMo_isArithmetic_190
          · have c50 := bI_n c50
            refine lv_iload_n hx hb dMo_isArithmetic_174 rfl (lv_at hl 1 rfl) ?_
            refine lv_if_eq (tgt := 185) hx hb dMo_isArithmetic_175 (by decide) (fun c51 => ?_) (fun c51 => ?_)
            · have c51 := bI_z c51
              refine lv_iconst (v := (1 : Int32)) hx hb dMo_isArithmetic_185 (by decide) ?_
              refine lv_goto (tgt := 190) hx hb dMo_isArithmetic_186 (by decide) ?_
              exact W.zret (v := (1 : Int32)) hx hb hr rfl (fun t ht hW => ⟨⟨(1 : Int32), (), rfl, (by unfold f_Mo_isArithmetic; rw [if_pos c2, if_neg c4, if_neg c8, if_neg c12, if_neg c16, if_neg c20, if_neg c24, if_neg c29, if_neg c33, if_neg c37, if_neg c45, if_pos c49, if_pos c50, if_neg c51]; try rfl), ht⟩, hS.F ht⟩) hS.2.2 dMo_isArithmetic_190
            · have c51 := bI_n c51
              refine lv_aload_n hx hb dMo_isArithmetic_178 rfl (lv_at hl 2 rfl) ?_
              have hPc := hP.sub (ws' := [(m0, .inr (5, [.int vth, .ref qt, .int vtp, .ref qp, .int vpl, .ref qr, .ref qm, .int vpc, .int vst, .int vc, .int vd, .int vs, .int vo, .int vi, .int vn]))]) [0] rfl
              refine va_calli (va_runV (As := []) (rest := []) ⟨hx, hb, hml, hown, hT⟩ (c_Mo_bit3 l G cB cL cI s.heap m0 vth qt vtp qp vpl qr qm vpc vst vc vd vs vo vi vn hPc ) (cwV 0 hT (gB_V mw_655 mw_657 ms_7 mw_6 mw_658) rfl rfl rfl (by decide +kernel) ⟨Nat.le_of_ble_eq_true rfl, Nat.le_of_ble_eq_true rfl⟩) ⟨fun a U g mk q => ⟨q.1, q.2.1, va_K.moved (u := U) (U := U.calling g mk a) (Vm.Alike.refl U.vm) q.2.2⟩, va_recv hK hPc (ci := 5) (q0 := 0) rfl rfl, fun U hU hW => ⟨rfl, hU, va_K.moved hW.alike hK⟩⟩ rfl rfl hl.1 rfl (lv_room (Nat.le_of_ble_eq_true rfl)) dMo_isArithmetic_179 ⟨Nat.zero_le _, Nat.zero_le _⟩) hS (fun _ _ h => h.elim) (fun _ h => h.elim) (fun r u t H1 locs ht hvm hw hB hz8 hk8 hS => ?_)
              obtain rfl : s.heap = H1 := hB.symm.trans ht
              subst hw
              refine lv_if_ne (tgt := 189) hx hb dMo_isArithmetic_182 (by decide) (fun c52 => ?_) (fun c52 => ?_)
              · have c52 := bI_n c52
                refine lv_iconst (v := (0 : Int32)) hx hb dMo_isArithmetic_189 (by decide) ?_
                exact W.zret (v := (0 : Int32)) hx hb hr rfl (fun t ht hW => ⟨⟨(0 : Int32), (), rfl, (by unfold f_Mo_isArithmetic; rw [if_pos c2, if_neg c4, if_neg c8, if_neg c12, if_neg c16, if_neg c20, if_neg c24, if_neg c29, if_neg c33, if_neg c37, if_neg c45, if_pos c49, if_pos c50, if_pos c51, if_pos c52]; try rfl), ht⟩, hS.F ht⟩) hS.2.2 dMo_isArithmetic_190
              · have c52 := bI_z c52
                refine lv_iconst (v := (1 : Int32)) hx hb dMo_isArithmetic_185 (by decide) ?_
                refine lv_goto (tgt := 190) hx hb dMo_isArithmetic_186 (by decide) ?_
                exact W.zret (v := (1 : Int32)) hx hb hr rfl (fun t ht hW => ⟨⟨(1 : Int32), (), rfl, (by unfold f_Mo_isArithmetic; rw [if_pos c2, if_neg c4, if_neg c8, if_neg c12, if_neg c16, if_neg c20, if_neg c24, if_neg c29, if_neg c33, if_neg c37, if_neg c45, if_pos c49, if_pos c50, if_pos c51, if_neg c52]; try rfl), ht⟩, hS.F ht⟩) hS.2.2 dMo_isArithmetic_190
        refine lv_tableOut (tgt := 277) hx hb dMo_isArithmetic_77 (by have h0 := lv_neT c4 (a := 3) (by decide); have h1 := lv_neT c8 (a := 4) (by decide); have h2 := lv_neT c12 (a := 5) (by decide); have h3 := lv_neT c16 (a := 6) (by decide); have h4 := lv_neT c20 (a := 7) (by decide); have h5 := lv_neT c24 (a := 8) (by decide); have h6 := lv_neT c29 (a := 9) (by decide); have h7 := lv_neT c33 (a := 10) (by decide); have h8 := lv_neT c37 (a := 11) (by decide); have h9 := lv_neT c45 (a := 12) (by decide); have h10 := lv_neT c49 (a := 13) (by decide); omega) (by decide) ?_
        refine lv_aload_n hx hb dMo_isArithmetic_277 rfl (lv_at hl 2 rfl) ?_
        have hPc := hP.sub (ws' := [(m0, .inr (5, [.int vth, .ref qt, .int vtp, .ref qp, .int vpl, .ref qr, .ref qm, .int vpc, .int vst, .int vc, .int vd, .int vs, .int vo, .int vi, .int vn]))]) [0] rfl
        refine va_calli (va_runV (As := []) (rest := []) ⟨hx, hb, hml, hown, hT⟩ (c_Mo_n l G cB cL cI s.heap m0 vth qt vtp qp vpl qr qm vpc vst vc vd vs vo vi vn hPc ) (cwV 0 hT (gB_V mw_651 mw_653 ms_6 mw_6 mw_654) rfl rfl rfl (by decide +kernel) ⟨Nat.le_of_ble_eq_true rfl, Nat.le_of_ble_eq_true rfl⟩) ⟨fun a U g mk q => ⟨q.1, q.2.1, va_K.moved (u := U) (U := U.calling g mk a) (Vm.Alike.refl U.vm) q.2.2⟩, va_recv hK hPc (ci := 5) (q0 := 0) rfl rfl, fun U hU hW => ⟨rfl, hU, va_K.moved hW.alike hK⟩⟩ rfl rfl hl.1 rfl (lv_room (Nat.le_of_ble_eq_true rfl)) dMo_isArithmetic_278 ⟨Nat.zero_le _, Nat.zero_le _⟩) hS (fun _ _ h => h.elim) (fun _ h => h.elim) (fun r u t H1 locs ht hvm hw hB hz8 hk8 hS => ?_)
        obtain rfl : s.heap = H1 := hB.symm.trans ht
        subst hw
        refine lv_bipush (v := (13 : Int32)) hx hb dMo_isArithmetic_281 (by decide) ?_
        refine lv_icmp_ge (tgt := 304) hx hb dMo_isArithmetic_283 (by decide) (fun c53 => ?_) (fun c53 => ?_)
        · skip
          refine lv_iconst (v := (0 : Int32)) hx hb dMo_isArithmetic_304 (by decide) ?_
          exact W.zret (v := (0 : Int32)) hx hb hr rfl (fun t ht hW => ⟨⟨(0 : Int32), (), rfl, (by unfold f_Mo_isArithmetic; rw [if_pos c2, if_neg c4, if_neg c8, if_neg c12, if_neg c16, if_neg c20, if_neg c24, if_neg c29, if_neg c33, if_neg c37, if_neg c45, if_neg c49, if_pos c53]; try rfl), ht⟩, hS.F ht⟩) hS.2.2 dMo_isArithmetic_305
        · skip
          refine lv_aload_n hx hb dMo_isArithmetic_286 rfl (lv_at hl 2 rfl) ?_
          have hPc := hP.sub (ws' := [(m0, .inr (5, [.int vth, .ref qt, .int vtp, .ref qp, .int vpl, .ref qr, .ref qm, .int vpc, .int vst, .int vc, .int vd, .int vs, .int vo, .int vi, .int vn]))]) [0] rfl
          refine va_calli (va_runV (As := []) (rest := []) ⟨hx, hb, hml, hown, hT⟩ (c_Mo_hasSource l G cB cL cI s.heap m0 vth qt vtp qp vpl qr qm vpc vst vc vd vs vo vi vn hPc ) (cwV 0 hT (gB_V mw_659 mw_661 ms_8 mw_6 mw_662) rfl rfl rfl (by decide +kernel) ⟨Nat.le_of_ble_eq_true rfl, Nat.le_of_ble_eq_true rfl⟩) ⟨fun a U g mk q => ⟨q.1, q.2.1, va_K.moved (u := U) (U := U.calling g mk a) (Vm.Alike.refl U.vm) q.2.2⟩, va_recv hK hPc (ci := 5) (q0 := 0) rfl rfl, fun U hU hW => ⟨rfl, hU, va_K.moved hW.alike hK⟩⟩ rfl rfl hl.1 rfl (lv_room (Nat.le_of_ble_eq_true rfl)) dMo_isArithmetic_287 ⟨Nat.zero_le _, Nat.zero_le _⟩) hS (fun _ _ h => h.elim) (fun _ h => h.elim) (fun r u t H1 locs ht hvm hw hB hz8 hk8 hS => ?_)
          obtain rfl : s.heap = H1 := hB.symm.trans ht
          subst hw
          refine lv_if_eq (tgt := 304) hx hb dMo_isArithmetic_290 (by decide) (fun c54 => ?_) (fun c54 => ?_)
          · have c54 := bI_z c54
            refine lv_iconst (v := (0 : Int32)) hx hb dMo_isArithmetic_304 (by decide) ?_
            exact W.zret (v := (0 : Int32)) hx hb hr rfl (fun t ht hW => ⟨⟨(0 : Int32), (), rfl, (by unfold f_Mo_isArithmetic; rw [if_pos c2, if_neg c4, if_neg c8, if_neg c12, if_neg c16, if_neg c20, if_neg c24, if_neg c29, if_neg c33, if_neg c37, if_neg c45, if_neg c49, if_neg c53, if_neg c54]; try rfl), ht⟩, hS.F ht⟩) hS.2.2 dMo_isArithmetic_305
          · have c54 := bI_n c54
            refine lv_aload_n hx hb dMo_isArithmetic_293 rfl (lv_at hl 2 rfl) ?_
            refine va_get (D := G) (ci := 5) (v := .int vo) (C := RMo) (T := TMo) (N := 15) hx hb hT inMo hown hK hP 0 rfl rfl 12 (by decide) (hT _ mw_577) (fun _ h9 => h9) rfl dMo_isArithmetic_294 ?_
            refine lv_if_ne (tgt := 304) hx hb dMo_isArithmetic_297 (by decide) (fun c55 => ?_) (fun c55 => ?_)
            · skip
              refine lv_iconst (v := (0 : Int32)) hx hb dMo_isArithmetic_304 (by decide) ?_
              exact W.zret (v := (0 : Int32)) hx hb hr rfl (fun t ht hW => ⟨⟨(0 : Int32), (), rfl, (by unfold f_Mo_isArithmetic; rw [if_pos c2, if_neg c4, if_neg c8, if_neg c12, if_neg c16, if_neg c20, if_neg c24, if_neg c29, if_neg c33, if_neg c37, if_neg c45, if_neg c49, if_neg c53, if_pos c54, if_neg c55]; try rfl), ht⟩, hS.F ht⟩) hS.2.2 dMo_isArithmetic_305
            · skip
              refine lv_iconst (v := (1 : Int32)) hx hb dMo_isArithmetic_300 (by decide) ?_
              refine lv_goto (tgt := 305) hx hb dMo_isArithmetic_301 (by decide) ?_
              exact W.zret (v := (1 : Int32)) hx hb hr rfl (fun t ht hW => ⟨⟨(1 : Int32), (), rfl, (by unfold f_Mo_isArithmetic; rw [if_pos c2, if_neg c4, if_neg c8, if_neg c12, if_neg c16, if_neg c20, if_neg c24, if_neg c29, if_neg c33, if_neg c37, if_neg c45, if_neg c49, if_neg c53, if_pos c54, if_pos c55]; try rfl), ht⟩, hS.F ht⟩) hS.2.2 dMo_isArithmetic_305
      refine lv_if_ne (tgt := 71) hx hb dMo_isArithmetic_30 (by decide) (fun c56 => ?_) (fun c56 => ?_)
      · skip
        refine lv_iconst (v := (0 : Int32)) hx hb dMo_isArithmetic_71 (by decide) ?_
        exact jn3 false (by rw [if_neg c56]) _ hS
      · skip
        refine lv_aload_n hx hb dMo_isArithmetic_33 rfl (lv_at hl 1 rfl) ?_
        refine va_get (D := G) (ci := 5) (v := .int vo) (C := RMo) (T := TMo) (N := 15) hx hb hT inMo hown hK hP 0 rfl rfl 12 (by decide) (hT _ mw_577) (fun _ h9 => h9) rfl dMo_isArithmetic_34 ?_
        refine lv_if_ne (tgt := 71) hx hb dMo_isArithmetic_37 (by decide) (fun c57 => ?_) (fun c57 => ?_)
        · skip
          refine lv_iconst (v := (0 : Int32)) hx hb dMo_isArithmetic_71 (by decide) ?_
          exact jn3 false (by rw [if_pos c56, if_neg c57]) _ hS
        · skip
          refine lv_aload_n hx hb dMo_isArithmetic_40 rfl (lv_at hl 1 rfl) ?_
          refine va_get (D := G) (ci := 5) (v := .int vi) (C := RMo) (T := TMo) (N := 15) hx hb hT inMo hown hK hP 0 rfl rfl 13 (by decide) (hT _ mw_578) (fun _ h9 => h9) rfl dMo_isArithmetic_41 ?_
          refine lv_bipush (v := (16 : Int32)) hx hb dMo_isArithmetic_44 (by decide) ?_
          refine lv_icmp_eq (tgt := 67) hx hb dMo_isArithmetic_46 (by decide) (fun c58 => ?_) (fun c58 => ?_)
          · skip
            refine lv_iconst (v := (1 : Int32)) hx hb dMo_isArithmetic_67 (by decide) ?_
            refine lv_goto (tgt := 72) hx hb dMo_isArithmetic_68 (by decide) ?_
            exact jn3 true (by rw [if_pos c56, if_pos c57, if_pos c58]) _ hS
          · skip
            refine lv_aload_n hx hb dMo_isArithmetic_49 rfl (lv_at hl 1 rfl) ?_
            refine va_get (D := G) (ci := 5) (v := .int vi) (C := RMo) (T := TMo) (N := 15) hx hb hT inMo hown hK hP 0 rfl rfl 13 (by decide) (hT _ mw_578) (fun _ h9 => h9) rfl dMo_isArithmetic_50 ?_
            refine lv_bipush (v := (32 : Int32)) hx hb dMo_isArithmetic_53 (by decide) ?_
            refine lv_icmp_eq (tgt := 67) hx hb dMo_isArithmetic_55 (by decide) (fun c59 => ?_) (fun c59 => ?_)
            · skip
              refine lv_iconst (v := (1 : Int32)) hx hb dMo_isArithmetic_67 (by decide) ?_
              refine lv_goto (tgt := 72) hx hb dMo_isArithmetic_68 (by decide) ?_
              exact jn3 true (by rw [if_pos c56, if_pos c57, if_neg c58, if_pos c59]) _ hS
            · skip
              refine lv_aload_n hx hb dMo_isArithmetic_58 rfl (lv_at hl 1 rfl) ?_
              refine va_get (D := G) (ci := 5) (v := .int vi) (C := RMo) (T := TMo) (N := 15) hx hb hT inMo hown hK hP 0 rfl rfl 13 (by decide) (hT _ mw_578) (fun _ h9 => h9) rfl dMo_isArithmetic_59 ?_
              refine lv_bipush (v := (64 : Int32)) hx hb dMo_isArithmetic_62 (by decide) ?_
              refine lv_icmp_ne (tgt := 71) hx hb dMo_isArithmetic_64 (by decide) (fun c60 => ?_) (fun c60 => ?_)
              · skip
                refine lv_iconst (v := (0 : Int32)) hx hb dMo_isArithmetic_71 (by decide) ?_
                exact jn3 false (by rw [if_pos c56, if_pos c57, if_neg c58, if_neg c59, if_neg c60]) _ hS
              · skip
                refine lv_iconst (v := (1 : Int32)) hx hb dMo_isArithmetic_67 (by decide) ?_
                refine lv_goto (tgt := 72) hx hb dMo_isArithmetic_68 (by decide) ?_
                exact jn3 true (by rw [if_pos c56, if_pos c57, if_neg c58, if_neg c59, if_pos c60]) _ hS
    · skip
      refine lv_iconst (v := (0 : Int32)) hx hb dMo_isArithmetic_24 (by decide) ?_
      exact W.zret (v := (0 : Int32)) hx hb hr rfl (fun t ht hW => ⟨⟨(0 : Int32), (), rfl, (by unfold f_Mo_isArithmetic; rw [if_neg c2]; try rfl), ht⟩, hS.F ht⟩) hS.2.2 dMo_isArithmetic_25
  refine lv_icmp_ne (tgt := 13) hx hb dMo_isArithmetic_6 (by decide) (fun c61 => ?_) (fun c61 => ?_)
  · skip
    refine lv_iconst (v := (0 : Int32)) hx hb dMo_isArithmetic_13 (by decide) ?_
    exact jn1 false (by rw [if_neg c61]) _ hS
  · skip
    refine lv_iconst (v := (1 : Int32)) hx hb dMo_isArithmetic_9 (by decide) ?_
    refine lv_goto (tgt := 14) hx hb dMo_isArithmetic_10 (by decide) ?_
    exact jn1 true (by rw [if_pos c61]) _ hS

def f_Mo_isJump (vc : Int32) (vd : Int32) (vs : Int32) (vo : Int32) (vi : Int32) : Bool :=
  if (f_Mo_n vc) = (0 : Int32) then
    if (f_Mo_bit3 vc) = true then
      false
    else
      if vd = 0 then
        if vs = 0 then
          if (if (f_Mo_kind vc) = (6 : Int32) then true else false) = true then
            if vo = 0 then
              true
            else
              false
          else
            if vi = 0 then
              true
            else
              false
        else
          false
      else
        false
  else
    if (f_Mo_n vc) = (8 : Int32) then
      if (if (f_Mo_kind vc) = (6 : Int32) then true else false) = true then
        false
      else
        if vc = (133 : Int32) then
          if vd = 0 then
            if vs = 0 then
              if vo = 0 then
                true
              else
                false
            else
              false
          else
            false
        else
          false
    else
      if (f_Mo_n vc) = (9 : Int32) then
        if (if (f_Mo_kind vc) = (6 : Int32) then true else false) = true then
          false
        else
          if vc = (149 : Int32) then
            if vd = 0 then
              if vs = 0 then
                if vi = 0 then
                  if vo = 0 then
                    true
                  else
                    false
                else
                  false
              else
                false
            else
              false
          else
            false
      else
        if (14 : Int32) ≤ (f_Mo_n vc) then
          false
        else
          if (11 : Int32) ≤ vd then
            false
          else
            if (f_Mo_hasSource vc vs vi) = true then
              true
            else
              false
set_option maxHeartbeats 4000000 in
set_option maxRecDepth 100000 in
theorem c_Mo_isJump (l : Launch) (G : va_G) (cB cL cI : ClassId) (Hp : Heap) (m0 : Nat) (vth : Int32) (qt : Nat) (vtp : Int32) (qp : Nat) (vpl : Int32) (qr : Nat) (qm : Nat) (vpc : Int32) (vst : Int32) (vc : Int32) (vd : Int32) (vs : Int32) (vo : Int32) (vi : Int32) (vn : Int32) (hP : va_P G vwCl [(m0, .inr (5, [.int vth, .ref qt, .int vtp, .ref qp, .int vpl, .ref qr, .ref qm, .int vpc, .int vst, .int vc, .int vd, .int vs, .int vo, .int vi, .int vn]))] Hp) : Met l yMo_isJump wsMo_isJump ({ frames := 2, cells := 0, slots := 0, locals := 40 }) (va_Pc [.ref m0] (fun U => U.heap = Hp ∧ va_K G vwCl [(cB, .byte), (cL, .long), (cI, .int)] U)) (va_Qi (fun (r : Int32) (_ : Unit) => r = bI (f_Mo_isJump vc vd vs vo vi)) (fun _ t => t.heap = Hp) (fun _ => False)) 0 0 (fun _ => False) := by
  refine Met.ofW (cc := cMo_isJump) (maxL := 2) (ret := (some .boolean)) (by decide) rfl ?_
  intro p e s m args below meth c s₁ B hml hv
  obtain ⟨rfl, rfl, hK⟩ := hv
  have hx := B.exec
  have hb := B.bytes
  have hr := B.returns
  have hT : ∀ w ∈ tB, w.before _ s = true := fun w h => atoms_spec (ws := wsMo_isJump) B.pre w (List.mem_cons_of_mem _ h)
  have hown : s.vm.findClass "CompiledProgramModel" = some m.cls := findClass_of_methodNamed B.named
  have hlocks := B.notSynchronized
  have hA : ∀ q : Nat, (fun _ : Nat => False) q → False := fun _ h => h
  have hS : va_S (fun _ => False) s.heap s.heap [] := va_S.rf
  have hl := lv_entry ([.ref m0]) (n := 2) (Nat.le_of_ble_eq_true rfl)
  rw [lg_entry_eq]
  generalize (lg_sl ([.ref m0]) ++ List.replicate (2 - (lg_sl ([.ref m0])).length) Slot.unset).toArray = ls at hl ⊢
  have hl : lv_has ls 2 [(0, .ref m0)] := hl
  refine lv_aload_n hx hb dMo_isJump_0 rfl (lv_at hl 0 rfl) ?_
  have hPc := hP.sub (ws' := [(m0, .inr (5, [.int vth, .ref qt, .int vtp, .ref qp, .int vpl, .ref qr, .ref qm, .int vpc, .int vst, .int vc, .int vd, .int vs, .int vo, .int vi, .int vn]))]) [0] rfl
  refine va_calli (va_runV (As := []) (rest := []) ⟨hx, hb, hml, hown, hT⟩ (c_Mo_kind l G cB cL cI s.heap m0 vth qt vtp qp vpl qr qm vpc vst vc vd vs vo vi vn hPc ) (cwV 0 hT (gB_V mw_643 mw_645 ms_4 mw_6 mw_646) rfl rfl rfl (by decide +kernel) ⟨Nat.le_of_ble_eq_true rfl, Nat.le_of_ble_eq_true rfl⟩) ⟨fun a U g mk q => ⟨q.1, q.2.1, va_K.moved (u := U) (U := U.calling g mk a) (Vm.Alike.refl U.vm) q.2.2⟩, va_recv hK hPc (ci := 5) (q0 := 0) rfl rfl, fun U hU hW => ⟨rfl, hU, va_K.moved hW.alike hK⟩⟩ rfl rfl hl.1 rfl (lv_room (Nat.le_of_ble_eq_true rfl)) dMo_isJump_1 ⟨Nat.zero_le _, Nat.zero_le _⟩) hS (fun _ _ h => h.elim) (fun _ h => h.elim) (fun r u t H1 locs ht hvm hw hB hz8 hk8 hS => ?_)
  obtain rfl : s.heap = H1 := hB.symm.trans ht
  subst hw
  refine lv_bipush (v := (6 : Int32)) hx hb dMo_isJump_4 (by decide) ?_
  have jn1 : ∀ (x1 : Bool), x1 = (if (f_Mo_kind vc) = (6 : Int32) then true else false) → ∀ (locs : List Loc), va_S (fun _ => False) s.heap s.heap locs → W p l e (headSpec wsMo_isJump ({ frames := 2, cells := 0, slots := 0, locals := 40 })).room s m ([.ref m0] : List Value).toArray below meth c s.heap locs 0 0 (MQ below (va_Qi (fun (r : Int32) (_ : Unit) => r = bI (f_Mo_isJump vc vd vs vo vi)) (fun _ t => t.heap = s.heap) (fun _ => False)) ([.ref m0] : List Value).toArray s 0 0 (fun _ => False)) (F0 m 14 ls [.int (bI x1)]) := by
    intro x1 hx1 locs hS
    subst hx1
    refine lv_istore_n (lv' := [(1, .int (bI (if (f_Mo_kind vc) = (6 : Int32) then true else false))), (0, .ref m0)]) hx hb dMo_isJump_14 rfl hl (by decide) rfl (fun ls hl => ?_)
    refine lv_aload_n hx hb dMo_isJump_15 rfl (lv_at hl 1 rfl) ?_
    have hPc := hP.sub (ws' := [(m0, .inr (5, [.int vth, .ref qt, .int vtp, .ref qp, .int vpl, .ref qr, .ref qm, .int vpc, .int vst, .int vc, .int vd, .int vs, .int vo, .int vi, .int vn]))]) [0] rfl
    refine va_calli (va_runV (As := []) (rest := []) ⟨hx, hb, hml, hown, hT⟩ (c_Mo_n l G cB cL cI s.heap m0 vth qt vtp qp vpl qr qm vpc vst vc vd vs vo vi vn hPc ) (cwV 0 hT (gB_V mw_651 mw_653 ms_6 mw_6 mw_654) rfl rfl rfl (by decide +kernel) ⟨Nat.le_of_ble_eq_true rfl, Nat.le_of_ble_eq_true rfl⟩) ⟨fun a U g mk q => ⟨q.1, q.2.1, va_K.moved (u := U) (U := U.calling g mk a) (Vm.Alike.refl U.vm) q.2.2⟩, va_recv hK hPc (ci := 5) (q0 := 0) rfl rfl, fun U hU hW => ⟨rfl, hU, va_K.moved hW.alike hK⟩⟩ rfl rfl hl.1 rfl (lv_room (Nat.le_of_ble_eq_true rfl)) dMo_isJump_16 ⟨Nat.zero_le _, Nat.zero_le _⟩) hS (fun _ _ h => h.elim) (fun _ h => h.elim) (fun r u t H1 locs ht hvm hw hB hz8 hk8 hS => ?_)
    obtain rfl : s.heap = H1 := hB.symm.trans ht
    subst hw
    by_cases c2 : (f_Mo_n vc) = (0 : Int32)
    · skip
      refine lv_lookup (tgt := 52) (off := 33) hx hb dMo_isJump_19 (by decide) (by rw [c2]; rfl) (by decide) ?_
      refine lv_aload_n hx hb dMo_isJump_52 rfl (lv_at hl 1 rfl) ?_
      have hPc := hP.sub (ws' := [(m0, .inr (5, [.int vth, .ref qt, .int vtp, .ref qp, .int vpl, .ref qr, .ref qm, .int vpc, .int vst, .int vc, .int vd, .int vs, .int vo, .int vi, .int vn]))]) [0] rfl
      refine va_calli (va_runV (As := []) (rest := []) ⟨hx, hb, hml, hown, hT⟩ (c_Mo_bit3 l G cB cL cI s.heap m0 vth qt vtp qp vpl qr qm vpc vst vc vd vs vo vi vn hPc ) (cwV 0 hT (gB_V mw_655 mw_657 ms_7 mw_6 mw_658) rfl rfl rfl (by decide +kernel) ⟨Nat.le_of_ble_eq_true rfl, Nat.le_of_ble_eq_true rfl⟩) ⟨fun a U g mk q => ⟨q.1, q.2.1, va_K.moved (u := U) (U := U.calling g mk a) (Vm.Alike.refl U.vm) q.2.2⟩, va_recv hK hPc (ci := 5) (q0 := 0) rfl rfl, fun U hU hW => ⟨rfl, hU, va_K.moved hW.alike hK⟩⟩ rfl rfl hl.1 rfl (lv_room (Nat.le_of_ble_eq_true rfl)) dMo_isJump_53 ⟨Nat.zero_le _, Nat.zero_le _⟩) hS (fun _ _ h => h.elim) (fun _ h => h.elim) (fun r u t H1 locs ht hvm hw hB hz8 hk8 hS => ?_)
      obtain rfl : s.heap = H1 := hB.symm.trans ht
      subst hw
      refine lv_if_ne (tgt := 98) hx hb dMo_isJump_56 (by decide) (fun c3 => ?_) (fun c3 => ?_)
      · have c3 := bI_n c3
        refine lv_iconst (v := (0 : Int32)) hx hb dMo_isJump_98 (by decide) ?_
        exact W.zret (v := (0 : Int32)) hx hb hr rfl (fun t ht hW => ⟨⟨(0 : Int32), (), rfl, (by unfold f_Mo_isJump; rw [if_pos c2, if_pos c3]; try rfl), ht⟩, hS.F ht⟩) hS.2.2 dMo_isJump_99
      · have c3 := bI_z c3
        refine lv_aload_n hx hb dMo_isJump_59 rfl (lv_at hl 1 rfl) ?_
        refine va_get (D := G) (ci := 5) (v := .int vd) (C := RMo) (T := TMo) (N := 15) hx hb hT inMo hown hK hP 0 rfl rfl 10 (by decide) (hT _ mw_575) (fun _ h9 => h9) rfl dMo_isJump_60 ?_
        refine lv_if_ne (tgt := 98) hx hb dMo_isJump_63 (by decide) (fun c4 => ?_) (fun c4 => ?_)
        · skip
          refine lv_iconst (v := (0 : Int32)) hx hb dMo_isJump_98 (by decide) ?_
          exact W.zret (v := (0 : Int32)) hx hb hr rfl (fun t ht hW => ⟨⟨(0 : Int32), (), rfl, (by unfold f_Mo_isJump; rw [if_pos c2, if_neg c3, if_neg c4]; try rfl), ht⟩, hS.F ht⟩) hS.2.2 dMo_isJump_99
        · skip
          refine lv_aload_n hx hb dMo_isJump_66 rfl (lv_at hl 1 rfl) ?_
          refine va_get (D := G) (ci := 5) (v := .int vs) (C := RMo) (T := TMo) (N := 15) hx hb hT inMo hown hK hP 0 rfl rfl 11 (by decide) (hT _ mw_576) (fun _ h9 => h9) rfl dMo_isJump_67 ?_
          refine lv_if_ne (tgt := 98) hx hb dMo_isJump_70 (by decide) (fun c5 => ?_) (fun c5 => ?_)
          · skip
            refine lv_iconst (v := (0 : Int32)) hx hb dMo_isJump_98 (by decide) ?_
            exact W.zret (v := (0 : Int32)) hx hb hr rfl (fun t ht hW => ⟨⟨(0 : Int32), (), rfl, (by unfold f_Mo_isJump; rw [if_pos c2, if_neg c3, if_pos c4, if_neg c5]; try rfl), ht⟩, hS.F ht⟩) hS.2.2 dMo_isJump_99
          · skip
            refine lv_iload_n hx hb dMo_isJump_73 rfl (lv_at hl 0 rfl) ?_
            refine lv_if_eq (tgt := 87) hx hb dMo_isJump_74 (by decide) (fun c6 => ?_) (fun c6 => ?_)
            · have c6 := bI_z c6
              refine lv_aload_n hx hb dMo_isJump_87 rfl (lv_at hl 1 rfl) ?_
              refine va_get (D := G) (ci := 5) (v := .int vi) (C := RMo) (T := TMo) (N := 15) hx hb hT inMo hown hK hP 0 rfl rfl 13 (by decide) (hT _ mw_578) (fun _ h9 => h9) rfl dMo_isJump_88 ?_
              refine lv_if_ne (tgt := 98) hx hb dMo_isJump_91 (by decide) (fun c7 => ?_) (fun c7 => ?_)
              · skip
                refine lv_iconst (v := (0 : Int32)) hx hb dMo_isJump_98 (by decide) ?_
                exact W.zret (v := (0 : Int32)) hx hb hr rfl (fun t ht hW => ⟨⟨(0 : Int32), (), rfl, (by unfold f_Mo_isJump; rw [if_pos c2, if_neg c3, if_pos c4, if_pos c5, if_neg c6, if_neg c7]; try rfl), ht⟩, hS.F ht⟩) hS.2.2 dMo_isJump_99
              · skip
                refine lv_iconst (v := (1 : Int32)) hx hb dMo_isJump_94 (by decide) ?_
                refine lv_goto (tgt := 99) hx hb dMo_isJump_95 (by decide) ?_
                exact W.zret (v := (1 : Int32)) hx hb hr rfl (fun t ht hW => ⟨⟨(1 : Int32), (), rfl, (by unfold f_Mo_isJump; rw [if_pos c2, if_neg c3, if_pos c4, if_pos c5, if_neg c6, if_pos c7]; try rfl), ht⟩, hS.F ht⟩) hS.2.2 dMo_isJump_99
            · have c6 := bI_n c6
              refine lv_aload_n hx hb dMo_isJump_77 rfl (lv_at hl 1 rfl) ?_
              refine va_get (D := G) (ci := 5) (v := .int vo) (C := RMo) (T := TMo) (N := 15) hx hb hT inMo hown hK hP 0 rfl rfl 12 (by decide) (hT _ mw_577) (fun _ h9 => h9) rfl dMo_isJump_78 ?_
              refine lv_if_ne (tgt := 98) hx hb dMo_isJump_81 (by decide) (fun c8 => ?_) (fun c8 => ?_)
              · skip
                refine lv_iconst (v := (0 : Int32)) hx hb dMo_isJump_98 (by decide) ?_
                exact W.zret (v := (0 : Int32)) hx hb hr rfl (fun t ht hW => ⟨⟨(0 : Int32), (), rfl, (by unfold f_Mo_isJump; rw [if_pos c2, if_neg c3, if_pos c4, if_pos c5, if_pos c6, if_neg c8]; try rfl), ht⟩, hS.F ht⟩) hS.2.2 dMo_isJump_99
              · skip
                refine lv_goto (tgt := 94) hx hb dMo_isJump_84 (by decide) ?_
                refine lv_iconst (v := (1 : Int32)) hx hb dMo_isJump_94 (by decide) ?_
                refine lv_goto (tgt := 99) hx hb dMo_isJump_95 (by decide) ?_
                exact W.zret (v := (1 : Int32)) hx hb hr rfl (fun t ht hW => ⟨⟨(1 : Int32), (), rfl, (by unfold f_Mo_isJump; rw [if_pos c2, if_neg c3, if_pos c4, if_pos c5, if_pos c6, if_pos c8]; try rfl), ht⟩, hS.F ht⟩) hS.2.2 dMo_isJump_99
    by_cases c9 : (f_Mo_n vc) = (8 : Int32)
    · skip
      refine lv_lookup (tgt := 100) (off := 81) hx hb dMo_isJump_19 (by decide) (by rw [c9]; rfl) (by decide) ?_
      refine lv_iload_n hx hb dMo_isJump_100 rfl (lv_at hl 0 rfl) ?_
      refine lv_if_ne (tgt := 139) hx hb dMo_isJump_101 (by decide) (fun c10 => ?_) (fun c10 => ?_)
      · have c10 := bI_n c10
        refine lv_iconst (v := (0 : Int32)) hx hb dMo_isJump_139 (by decide) ?_
        exact W.zret (v := (0 : Int32)) hx hb hr rfl (fun t ht hW => ⟨⟨(0 : Int32), (), rfl, (by unfold f_Mo_isJump; rw [if_neg c2, if_pos c9, if_pos c10]; try rfl), ht⟩, hS.F ht⟩) hS.2.2 dMo_isJump_140
      · have c10 := bI_z c10
        refine lv_aload_n hx hb dMo_isJump_104 rfl (lv_at hl 1 rfl) ?_
        refine va_get (D := G) (ci := 5) (v := .int vc) (C := RMo) (T := TMo) (N := 15) hx hb hT inMo hown hK hP 0 rfl rfl 9 (by decide) (hT _ mw_574) (fun _ h9 => h9) rfl dMo_isJump_105 ?_
        refine lv_sipush (v := (133 : Int32)) hx hb dMo_isJump_108 (by decide) ?_
        refine lv_icmp_ne (tgt := 139) hx hb dMo_isJump_111 (by decide) (fun c11 => ?_) (fun c11 => ?_)
        · skip
          refine lv_iconst (v := (0 : Int32)) hx hb dMo_isJump_139 (by decide) ?_
          exact W.zret (v := (0 : Int32)) hx hb hr rfl (fun t ht hW => ⟨⟨(0 : Int32), (), rfl, (by unfold f_Mo_isJump; rw [if_neg c2, if_pos c9, if_neg c10, if_neg c11]; try rfl), ht⟩, hS.F ht⟩) hS.2.2 dMo_isJump_140
        · skip
          refine lv_aload_n hx hb dMo_isJump_114 rfl (lv_at hl 1 rfl) ?_
          refine va_get (D := G) (ci := 5) (v := .int vd) (C := RMo) (T := TMo) (N := 15) hx hb hT inMo hown hK hP 0 rfl rfl 10 (by decide) (hT _ mw_575) (fun _ h9 => h9) rfl dMo_isJump_115 ?_
          refine lv_if_ne (tgt := 139) hx hb dMo_isJump_118 (by decide) (fun c12 => ?_) (fun c12 => ?_)
          · skip
            refine lv_iconst (v := (0 : Int32)) hx hb dMo_isJump_139 (by decide) ?_
            exact W.zret (v := (0 : Int32)) hx hb hr rfl (fun t ht hW => ⟨⟨(0 : Int32), (), rfl, (by unfold f_Mo_isJump; rw [if_neg c2, if_pos c9, if_neg c10, if_pos c11, if_neg c12]; try rfl), ht⟩, hS.F ht⟩) hS.2.2 dMo_isJump_140
          · skip
            refine lv_aload_n hx hb dMo_isJump_121 rfl (lv_at hl 1 rfl) ?_
            refine va_get (D := G) (ci := 5) (v := .int vs) (C := RMo) (T := TMo) (N := 15) hx hb hT inMo hown hK hP 0 rfl rfl 11 (by decide) (hT _ mw_576) (fun _ h9 => h9) rfl dMo_isJump_122 ?_
            refine lv_if_ne (tgt := 139) hx hb dMo_isJump_125 (by decide) (fun c13 => ?_) (fun c13 => ?_)
            · skip
              refine lv_iconst (v := (0 : Int32)) hx hb dMo_isJump_139 (by decide) ?_
              exact W.zret (v := (0 : Int32)) hx hb hr rfl (fun t ht hW => ⟨⟨(0 : Int32), (), rfl, (by unfold f_Mo_isJump; rw [if_neg c2, if_pos c9, if_neg c10, if_pos c11, if_pos c12, if_neg c13]; try rfl), ht⟩, hS.F ht⟩) hS.2.2 dMo_isJump_140
            · skip
              refine lv_aload_n hx hb dMo_isJump_128 rfl (lv_at hl 1 rfl) ?_
              refine va_get (D := G) (ci := 5) (v := .int vo) (C := RMo) (T := TMo) (N := 15) hx hb hT inMo hown hK hP 0 rfl rfl 12 (by decide) (hT _ mw_577) (fun _ h9 => h9) rfl dMo_isJump_129 ?_
              refine lv_if_ne (tgt := 139) hx hb dMo_isJump_132 (by decide) (fun c14 => ?_) (fun c14 => ?_)
              · skip
                refine lv_iconst (v := (0 : Int32)) hx hb dMo_isJump_139 (by decide) ?_
                exact W.zret (v := (0 : Int32)) hx hb hr rfl (fun t ht hW => ⟨⟨(0 : Int32), (), rfl, (by unfold f_Mo_isJump; rw [if_neg c2, if_pos c9, if_neg c10, if_pos c11, if_pos c12, if_pos c13, if_neg c14]; try rfl), ht⟩, hS.F ht⟩) hS.2.2 dMo_isJump_140
              · skip
                refine lv_iconst (v := (1 : Int32)) hx hb dMo_isJump_135 (by decide) ?_
                refine lv_goto (tgt := 140) hx hb dMo_isJump_136 (by decide) ?_
                exact W.zret (v := (1 : Int32)) hx hb hr rfl (fun t ht hW => ⟨⟨(1 : Int32), (), rfl, (by unfold f_Mo_isJump; rw [if_neg c2, if_pos c9, if_neg c10, if_pos c11, if_pos c12, if_pos c13, if_pos c14]; try rfl), ht⟩, hS.F ht⟩) hS.2.2 dMo_isJump_140
    by_cases c15 : (f_Mo_n vc) = (9 : Int32)
    · skip
      refine lv_lookup (tgt := 141) (off := 122) hx hb dMo_isJump_19 (by decide) (by rw [c15]; rfl) (by decide) ?_
      refine lv_iload_n hx hb dMo_isJump_141 rfl (lv_at hl 0 rfl) ?_
      refine lv_if_ne (tgt := 187) hx hb dMo_isJump_142 (by decide) (fun c16 => ?_) (fun c16 => ?_)
      · have c16 := bI_n c16
        refine lv_iconst (v := (0 : Int32)) hx hb dMo_isJump_187 (by decide) ?_
        exact W.zret (v := (0 : Int32)) hx hb hr rfl (fun t ht hW => ⟨⟨(0 : Int32), (), rfl, (by unfold f_Mo_isJump; rw [if_neg c2, if_neg c9, if_pos c15, if_pos c16]; try rfl), ht⟩, hS.F ht⟩) hS.2.2 dMo_isJump_188
      · have c16 := bI_z c16
        refine lv_aload_n hx hb dMo_isJump_145 rfl (lv_at hl 1 rfl) ?_
        refine va_get (D := G) (ci := 5) (v := .int vc) (C := RMo) (T := TMo) (N := 15) hx hb hT inMo hown hK hP 0 rfl rfl 9 (by decide) (hT _ mw_574) (fun _ h9 => h9) rfl dMo_isJump_146 ?_
        refine lv_sipush (v := (149 : Int32)) hx hb dMo_isJump_149 (by decide) ?_
        refine lv_icmp_ne (tgt := 187) hx hb dMo_isJump_152 (by decide) (fun c17 => ?_) (fun c17 => ?_)
        · skip
          refine lv_iconst (v := (0 : Int32)) hx hb dMo_isJump_187 (by decide) ?_
          exact W.zret (v := (0 : Int32)) hx hb hr rfl (fun t ht hW => ⟨⟨(0 : Int32), (), rfl, (by unfold f_Mo_isJump; rw [if_neg c2, if_neg c9, if_pos c15, if_neg c16, if_neg c17]; try rfl), ht⟩, hS.F ht⟩) hS.2.2 dMo_isJump_188
        · skip
          refine lv_aload_n hx hb dMo_isJump_155 rfl (lv_at hl 1 rfl) ?_
          refine va_get (D := G) (ci := 5) (v := .int vd) (C := RMo) (T := TMo) (N := 15) hx hb hT inMo hown hK hP 0 rfl rfl 10 (by decide) (hT _ mw_575) (fun _ h9 => h9) rfl dMo_isJump_156 ?_
          refine lv_if_ne (tgt := 187) hx hb dMo_isJump_159 (by decide) (fun c18 => ?_) (fun c18 => ?_)
          · skip
            refine lv_iconst (v := (0 : Int32)) hx hb dMo_isJump_187 (by decide) ?_
            exact W.zret (v := (0 : Int32)) hx hb hr rfl (fun t ht hW => ⟨⟨(0 : Int32), (), rfl, (by unfold f_Mo_isJump; rw [if_neg c2, if_neg c9, if_pos c15, if_neg c16, if_pos c17, if_neg c18]; try rfl), ht⟩, hS.F ht⟩) hS.2.2 dMo_isJump_188
          · skip
            refine lv_aload_n hx hb dMo_isJump_162 rfl (lv_at hl 1 rfl) ?_
            refine va_get (D := G) (ci := 5) (v := .int vs) (C := RMo) (T := TMo) (N := 15) hx hb hT inMo hown hK hP 0 rfl rfl 11 (by decide) (hT _ mw_576) (fun _ h9 => h9) rfl dMo_isJump_163 ?_
            refine lv_if_ne (tgt := 187) hx hb dMo_isJump_166 (by decide) (fun c19 => ?_) (fun c19 => ?_)
            · skip
              refine lv_iconst (v := (0 : Int32)) hx hb dMo_isJump_187 (by decide) ?_
              exact W.zret (v := (0 : Int32)) hx hb hr rfl (fun t ht hW => ⟨⟨(0 : Int32), (), rfl, (by unfold f_Mo_isJump; rw [if_neg c2, if_neg c9, if_pos c15, if_neg c16, if_pos c17, if_pos c18, if_neg c19]; try rfl), ht⟩, hS.F ht⟩) hS.2.2 dMo_isJump_188
            · skip
              refine lv_aload_n hx hb dMo_isJump_169 rfl (lv_at hl 1 rfl) ?_
              refine va_get (D := G) (ci := 5) (v := .int vi) (C := RMo) (T := TMo) (N := 15) hx hb hT inMo hown hK hP 0 rfl rfl 13 (by decide) (hT _ mw_578) (fun _ h9 => h9) rfl dMo_isJump_170 ?_
              refine lv_if_ne (tgt := 187) hx hb dMo_isJump_173 (by decide) (fun c20 => ?_) (fun c20 => ?_)
              · skip
                refine lv_iconst (v := (0 : Int32)) hx hb dMo_isJump_187 (by decide) ?_
                exact W.zret (v := (0 : Int32)) hx hb hr rfl (fun t ht hW => ⟨⟨(0 : Int32), (), rfl, (by unfold f_Mo_isJump; rw [if_neg c2, if_neg c9, if_pos c15, if_neg c16, if_pos c17, if_pos c18, if_pos c19, if_neg c20]; try rfl), ht⟩, hS.F ht⟩) hS.2.2 dMo_isJump_188
              · skip
                refine lv_aload_n hx hb dMo_isJump_176 rfl (lv_at hl 1 rfl) ?_
                refine va_get (D := G) (ci := 5) (v := .int vo) (C := RMo) (T := TMo) (N := 15) hx hb hT inMo hown hK hP 0 rfl rfl 12 (by decide) (hT _ mw_577) (fun _ h9 => h9) rfl dMo_isJump_177 ?_
                refine lv_if_ne (tgt := 187) hx hb dMo_isJump_180 (by decide) (fun c21 => ?_) (fun c21 => ?_)
                · skip
                  refine lv_iconst (v := (0 : Int32)) hx hb dMo_isJump_187 (by decide) ?_
                  exact W.zret (v := (0 : Int32)) hx hb hr rfl (fun t ht hW => ⟨⟨(0 : Int32), (), rfl, (by unfold f_Mo_isJump; rw [if_neg c2, if_neg c9, if_pos c15, if_neg c16, if_pos c17, if_pos c18, if_pos c19, if_pos c20, if_neg c21]; try rfl), ht⟩, hS.F ht⟩) hS.2.2 dMo_isJump_188
                · skip
                  refine lv_iconst (v := (1 : Int32)) hx hb dMo_isJump_183 (by decide) ?_
                  refine lv_goto (tgt := 188) hx hb dMo_isJump_184 (by decide) ?_
                  exact W.zret (v := (1 : Int32)) hx hb hr rfl (fun t ht hW => ⟨⟨(1 : Int32), (), rfl, (by unfold f_Mo_isJump; rw [if_neg c2, if_neg c9, if_pos c15, if_neg c16, if_pos c17, if_pos c18, if_pos c19, if_pos c20, if_pos c21]; try rfl), ht⟩, hS.F ht⟩) hS.2.2 dMo_isJump_188
    refine lv_lookup (tgt := 189) (off := 170) hx hb dMo_isJump_19 (by decide) (by rw [lv_osw c2 (by decide), lv_osw c9 (by decide), lv_osw c15 (by decide)]; rfl) (by decide) ?_
    refine lv_aload_n hx hb dMo_isJump_189 rfl (lv_at hl 1 rfl) ?_
    have hPc := hP.sub (ws' := [(m0, .inr (5, [.int vth, .ref qt, .int vtp, .ref qp, .int vpl, .ref qr, .ref qm, .int vpc, .int vst, .int vc, .int vd, .int vs, .int vo, .int vi, .int vn]))]) [0] rfl
    refine va_calli (va_runV (As := []) (rest := []) ⟨hx, hb, hml, hown, hT⟩ (c_Mo_n l G cB cL cI s.heap m0 vth qt vtp qp vpl qr qm vpc vst vc vd vs vo vi vn hPc ) (cwV 0 hT (gB_V mw_651 mw_653 ms_6 mw_6 mw_654) rfl rfl rfl (by decide +kernel) ⟨Nat.le_of_ble_eq_true rfl, Nat.le_of_ble_eq_true rfl⟩) ⟨fun a U g mk q => ⟨q.1, q.2.1, va_K.moved (u := U) (U := U.calling g mk a) (Vm.Alike.refl U.vm) q.2.2⟩, va_recv hK hPc (ci := 5) (q0 := 0) rfl rfl, fun U hU hW => ⟨rfl, hU, va_K.moved hW.alike hK⟩⟩ rfl rfl hl.1 rfl (lv_room (Nat.le_of_ble_eq_true rfl)) dMo_isJump_190 ⟨Nat.zero_le _, Nat.zero_le _⟩) hS (fun _ _ h => h.elim) (fun _ h => h.elim) (fun r u t H1 locs ht hvm hw hB hz8 hk8 hS => ?_)
    obtain rfl : s.heap = H1 := hB.symm.trans ht
    subst hw
    refine lv_bipush (v := (14 : Int32)) hx hb dMo_isJump_193 (by decide) ?_
    refine lv_icmp_ge (tgt := 218) hx hb dMo_isJump_195 (by decide) (fun c22 => ?_) (fun c22 => ?_)
    · skip
      refine lv_iconst (v := (0 : Int32)) hx hb dMo_isJump_218 (by decide) ?_
      exact W.zret (v := (0 : Int32)) hx hb hr rfl (fun t ht hW => ⟨⟨(0 : Int32), (), rfl, (by unfold f_Mo_isJump; rw [if_neg c2, if_neg c9, if_neg c15, if_pos c22]; try rfl), ht⟩, hS.F ht⟩) hS.2.2 dMo_isJump_219
    · skip
      refine lv_aload_n hx hb dMo_isJump_198 rfl (lv_at hl 1 rfl) ?_
      refine va_get (D := G) (ci := 5) (v := .int vd) (C := RMo) (T := TMo) (N := 15) hx hb hT inMo hown hK hP 0 rfl rfl 10 (by decide) (hT _ mw_575) (fun _ h9 => h9) rfl dMo_isJump_199 ?_
      refine lv_bipush (v := (11 : Int32)) hx hb dMo_isJump_202 (by decide) ?_
      refine lv_icmp_ge (tgt := 218) hx hb dMo_isJump_204 (by decide) (fun c23 => ?_) (fun c23 => ?_)
      · skip
        refine lv_iconst (v := (0 : Int32)) hx hb dMo_isJump_218 (by decide) ?_
        exact W.zret (v := (0 : Int32)) hx hb hr rfl (fun t ht hW => ⟨⟨(0 : Int32), (), rfl, (by unfold f_Mo_isJump; rw [if_neg c2, if_neg c9, if_neg c15, if_neg c22, if_pos c23]; try rfl), ht⟩, hS.F ht⟩) hS.2.2 dMo_isJump_219
      · skip
        refine lv_aload_n hx hb dMo_isJump_207 rfl (lv_at hl 1 rfl) ?_
        have hPc := hP.sub (ws' := [(m0, .inr (5, [.int vth, .ref qt, .int vtp, .ref qp, .int vpl, .ref qr, .ref qm, .int vpc, .int vst, .int vc, .int vd, .int vs, .int vo, .int vi, .int vn]))]) [0] rfl
        refine va_calli (va_runV (As := []) (rest := []) ⟨hx, hb, hml, hown, hT⟩ (c_Mo_hasSource l G cB cL cI s.heap m0 vth qt vtp qp vpl qr qm vpc vst vc vd vs vo vi vn hPc ) (cwV 0 hT (gB_V mw_659 mw_661 ms_8 mw_6 mw_662) rfl rfl rfl (by decide +kernel) ⟨Nat.le_of_ble_eq_true rfl, Nat.le_of_ble_eq_true rfl⟩) ⟨fun a U g mk q => ⟨q.1, q.2.1, va_K.moved (u := U) (U := U.calling g mk a) (Vm.Alike.refl U.vm) q.2.2⟩, va_recv hK hPc (ci := 5) (q0 := 0) rfl rfl, fun U hU hW => ⟨rfl, hU, va_K.moved hW.alike hK⟩⟩ rfl rfl hl.1 rfl (lv_room (Nat.le_of_ble_eq_true rfl)) dMo_isJump_208 ⟨Nat.zero_le _, Nat.zero_le _⟩) hS (fun _ _ h => h.elim) (fun _ h => h.elim) (fun r u t H1 locs ht hvm hw hB hz8 hk8 hS => ?_)
        obtain rfl : s.heap = H1 := hB.symm.trans ht
        subst hw
        refine lv_if_eq (tgt := 218) hx hb dMo_isJump_211 (by decide) (fun c24 => ?_) (fun c24 => ?_)
        · have c24 := bI_z c24
          refine lv_iconst (v := (0 : Int32)) hx hb dMo_isJump_218 (by decide) ?_
          exact W.zret (v := (0 : Int32)) hx hb hr rfl (fun t ht hW => ⟨⟨(0 : Int32), (), rfl, (by unfold f_Mo_isJump; rw [if_neg c2, if_neg c9, if_neg c15, if_neg c22, if_neg c23, if_neg c24]; try rfl), ht⟩, hS.F ht⟩) hS.2.2 dMo_isJump_219
        · have c24 := bI_n c24
          refine lv_iconst (v := (1 : Int32)) hx hb dMo_isJump_214 (by decide) ?_
          refine lv_goto (tgt := 219) hx hb dMo_isJump_215 (by decide) ?_
          exact W.zret (v := (1 : Int32)) hx hb hr rfl (fun t ht hW => ⟨⟨(1 : Int32), (), rfl, (by unfold f_Mo_isJump; rw [if_neg c2, if_neg c9, if_neg c15, if_neg c22, if_neg c23, if_pos c24]; try rfl), ht⟩, hS.F ht⟩) hS.2.2 dMo_isJump_219
  refine lv_icmp_ne (tgt := 13) hx hb dMo_isJump_6 (by decide) (fun c25 => ?_) (fun c25 => ?_)
  · skip
    refine lv_iconst (v := (0 : Int32)) hx hb dMo_isJump_13 (by decide) ?_
    exact jn1 false (by rw [if_neg c25]) _ hS
  · skip
    refine lv_iconst (v := (1 : Int32)) hx hb dMo_isJump_9 (by decide) ?_
    refine lv_goto (tgt := 14) hx hb dMo_isJump_10 (by decide) ?_
    exact jn1 true (by rw [if_pos c25]) _ hS

def f_Mo_isAtomic (vc : Int32) (vd : Int32) (vs : Int32) (vi : Int32) : Bool :=
  if (f_Mo_size vc) ≤ (2 : Int32) then
    false
  else
    if (11 : Int32) ≤ vd then
      false
    else
      if (if vi = (1 : Int32) then true else (if vi = (65 : Int32) then true else (if vi = (81 : Int32) then true else (if vi = (161 : Int32) then true else (if vi = (225 : Int32) then true else false))))) = true then
        if vs < (10 : Int32) then
          true
        else
          if (if vi = 0 then true else (if vi = (64 : Int32) then true else (if vi = (80 : Int32) then true else (if vi = (160 : Int32) then true else (if vi = (241 : Int32) then true else false))))) = true then
            if (11 : Int32) ≤ vs then
              false
            else
              true
          else
            false
      else
        if (if vi = 0 then true else (if vi = (64 : Int32) then true else (if vi = (80 : Int32) then true else (if vi = (160 : Int32) then true else (if vi = (241 : Int32) then true else false))))) = true then
          if (11 : Int32) ≤ vs then
            false
          else
            true
        else
          false
set_option maxHeartbeats 4000000 in
set_option maxRecDepth 100000 in
theorem c_Mo_isAtomic (l : Launch) (G : va_G) (cB cL cI : ClassId) (Hp : Heap) (m0 : Nat) (vth : Int32) (qt : Nat) (vtp : Int32) (qp : Nat) (vpl : Int32) (qr : Nat) (qm : Nat) (vpc : Int32) (vst : Int32) (vc : Int32) (vd : Int32) (vs : Int32) (vo : Int32) (vi : Int32) (vn : Int32) (hP : va_P G vwCl [(m0, .inr (5, [.int vth, .ref qt, .int vtp, .ref qp, .int vpl, .ref qr, .ref qm, .int vpc, .int vst, .int vc, .int vd, .int vs, .int vo, .int vi, .int vn]))] Hp) : Met l yMo_isAtomic wsMo_isAtomic ({ frames := 1, cells := 0, slots := 0, locals := 21 }) (va_Pc [.ref m0] (fun U => U.heap = Hp ∧ va_K G vwCl [(cB, .byte), (cL, .long), (cI, .int)] U)) (va_Qi (fun (r : Int32) (_ : Unit) => r = bI (f_Mo_isAtomic vc vd vs vi)) (fun _ t => t.heap = Hp) (fun _ => False)) 0 0 (fun _ => False) := by
  refine Met.ofW (cc := cMo_isAtomic) (maxL := 3) (ret := (some .boolean)) (by decide) rfl ?_
  intro p e s m args below meth c s₁ B hml hv
  obtain ⟨rfl, rfl, hK⟩ := hv
  have hx := B.exec
  have hb := B.bytes
  have hr := B.returns
  have hT : ∀ w ∈ tB, w.before _ s = true := fun w h => atoms_spec (ws := wsMo_isAtomic) B.pre w (List.mem_cons_of_mem _ h)
  have hown : s.vm.findClass "CompiledProgramModel" = some m.cls := findClass_of_methodNamed B.named
  have hlocks := B.notSynchronized
  have hA : ∀ q : Nat, (fun _ : Nat => False) q → False := fun _ h => h
  have hS : va_S (fun _ => False) s.heap s.heap [] := va_S.rf
  have hl := lv_entry ([.ref m0]) (n := 3) (Nat.le_of_ble_eq_true rfl)
  rw [lg_entry_eq]
  generalize (lg_sl ([.ref m0]) ++ List.replicate (3 - (lg_sl ([.ref m0])).length) Slot.unset).toArray = ls at hl ⊢
  have hl : lv_has ls 3 [(0, .ref m0)] := hl
  refine lv_aload_n hx hb dMo_isAtomic_0 rfl (lv_at hl 0 rfl) ?_
  refine va_get (D := G) (ci := 5) (v := .int vi) (C := RMo) (T := TMo) (N := 15) hx hb hT inMo hown hK hP 0 rfl rfl 13 (by decide) (hT _ mw_578) (fun _ h9 => h9) rfl dMo_isAtomic_1 ?_
  refine lv_iconst (v := (1 : Int32)) hx hb dMo_isAtomic_4 (by decide) ?_
  have jn1 : ∀ (x1 : Bool), x1 = (if vi = (1 : Int32) then true else (if vi = (65 : Int32) then true else (if vi = (81 : Int32) then true else (if vi = (161 : Int32) then true else (if vi = (225 : Int32) then true else false))))) → ∀ (locs : List Loc), va_S (fun _ => False) s.heap s.heap locs → W p l e (headSpec wsMo_isAtomic ({ frames := 1, cells := 0, slots := 0, locals := 21 })).room s m ([.ref m0] : List Value).toArray below meth c s.heap locs 0 0 (MQ below (va_Qi (fun (r : Int32) (_ : Unit) => r = bI (f_Mo_isAtomic vc vd vs vi)) (fun _ t => t.heap = s.heap) (fun _ => False)) ([.ref m0] : List Value).toArray s 0 0 (fun _ => False)) (F0 m 51 ls [.int (bI x1)]) := by
    intro x1 hx1 locs hS
    subst hx1
    refine lv_istore_n (lv' := [(1, .int (bI (if vi = (1 : Int32) then true else (if vi = (65 : Int32) then true else (if vi = (81 : Int32) then true else (if vi = (161 : Int32) then true else (if vi = (225 : Int32) then true else false))))))), (0, .ref m0)]) hx hb dMo_isAtomic_51 rfl hl (by decide) rfl (fun ls hl => ?_)
    refine lv_aload_n hx hb dMo_isAtomic_52 rfl (lv_at hl 1 rfl) ?_
    refine va_get (D := G) (ci := 5) (v := .int vi) (C := RMo) (T := TMo) (N := 15) hx hb hT inMo hown hK hP 0 rfl rfl 13 (by decide) (hT _ mw_578) (fun _ h9 => h9) rfl dMo_isAtomic_53 ?_
    have jn2 : ∀ (x2 : Bool), x2 = (if vi = 0 then true else (if vi = (64 : Int32) then true else (if vi = (80 : Int32) then true else (if vi = (160 : Int32) then true else (if vi = (241 : Int32) then true else false))))) → ∀ (locs : List Loc), va_S (fun _ => False) s.heap s.heap locs → W p l e (headSpec wsMo_isAtomic ({ frames := 1, cells := 0, slots := 0, locals := 21 })).room s m ([.ref m0] : List Value).toArray below meth c s.heap locs 0 0 (MQ below (va_Qi (fun (r : Int32) (_ : Unit) => r = bI (f_Mo_isAtomic vc vd vs vi)) (fun _ t => t.heap = s.heap) (fun _ => False)) ([.ref m0] : List Value).toArray s 0 0 (fun _ => False)) (F0 m 102 ls [.int (bI x2)]) := by
      intro x2 hx2 locs hS
      subst hx2
      refine lv_istore_n (lv' := [(2, .int (bI (if vi = 0 then true else (if vi = (64 : Int32) then true else (if vi = (80 : Int32) then true else (if vi = (160 : Int32) then true else (if vi = (241 : Int32) then true else false))))))), (1, .int (bI (if vi = (1 : Int32) then true else (if vi = (65 : Int32) then true else (if vi = (81 : Int32) then true else (if vi = (161 : Int32) then true else (if vi = (225 : Int32) then true else false))))))), (0, .ref m0)]) hx hb dMo_isAtomic_102 rfl hl (by decide) rfl (fun ls hl => ?_)
      refine lv_aload_n hx hb dMo_isAtomic_103 rfl (lv_at hl 2 rfl) ?_
      have hPc := hP.sub (ws' := [(m0, .inr (5, [.int vth, .ref qt, .int vtp, .ref qp, .int vpl, .ref qr, .ref qm, .int vpc, .int vst, .int vc, .int vd, .int vs, .int vo, .int vi, .int vn]))]) [0] rfl
      refine va_calli (va_runV (As := []) (rest := []) ⟨hx, hb, hml, hown, hT⟩ (c_Mo_size l G cB cL cI s.heap m0 vth qt vtp qp vpl qr qm vpc vst vc vd vs vo vi vn hPc ) (cwV 0 hT (gB_V mw_671 mw_673 ms_11 mw_6 mw_674) rfl rfl rfl (by decide +kernel) ⟨Nat.le_of_ble_eq_true rfl, Nat.le_of_ble_eq_true rfl⟩) ⟨fun a U g mk q => ⟨q.1, q.2.1, va_K.moved (u := U) (U := U.calling g mk a) (Vm.Alike.refl U.vm) q.2.2⟩, va_recv hK hPc (ci := 5) (q0 := 0) rfl rfl, fun U hU hW => ⟨rfl, hU, va_K.moved hW.alike hK⟩⟩ rfl rfl hl.1 rfl (lv_room (Nat.le_of_ble_eq_true rfl)) dMo_isAtomic_104 ⟨Nat.zero_le _, Nat.zero_le _⟩) hS (fun _ _ h => h.elim) (fun _ h => h.elim) (fun r u t H1 locs ht hvm hw hB hz8 hk8 hS => ?_)
      obtain rfl : s.heap = H1 := hB.symm.trans ht
      subst hw
      refine lv_iconst (v := (2 : Int32)) hx hb dMo_isAtomic_107 (by decide) ?_
      refine lv_icmp_le (tgt := 150) hx hb dMo_isAtomic_108 (by decide) (fun c3 => ?_) (fun c3 => ?_)
      · skip
        refine lv_iconst (v := (0 : Int32)) hx hb dMo_isAtomic_150 (by decide) ?_
        exact W.zret (v := (0 : Int32)) hx hb hr rfl (fun t ht hW => ⟨⟨(0 : Int32), (), rfl, (by unfold f_Mo_isAtomic; rw [if_pos c3]; try rfl), ht⟩, hS.F ht⟩) hS.2.2 dMo_isAtomic_151
      · skip
        refine lv_aload_n hx hb dMo_isAtomic_111 rfl (lv_at hl 2 rfl) ?_
        refine va_get (D := G) (ci := 5) (v := .int vd) (C := RMo) (T := TMo) (N := 15) hx hb hT inMo hown hK hP 0 rfl rfl 10 (by decide) (hT _ mw_575) (fun _ h9 => h9) rfl dMo_isAtomic_112 ?_
        refine lv_bipush (v := (11 : Int32)) hx hb dMo_isAtomic_115 (by decide) ?_
        refine lv_icmp_ge (tgt := 150) hx hb dMo_isAtomic_117 (by decide) (fun c4 => ?_) (fun c4 => ?_)
        · skip
          refine lv_iconst (v := (0 : Int32)) hx hb dMo_isAtomic_150 (by decide) ?_
          exact W.zret (v := (0 : Int32)) hx hb hr rfl (fun t ht hW => ⟨⟨(0 : Int32), (), rfl, (by unfold f_Mo_isAtomic; rw [if_neg c3, if_pos c4]; try rfl), ht⟩, hS.F ht⟩) hS.2.2 dMo_isAtomic_151
        · skip
          refine lv_iload_n hx hb dMo_isAtomic_120 rfl (lv_at hl 1 rfl) ?_
          refine lv_if_eq (tgt := 133) hx hb dMo_isAtomic_121 (by decide) (fun c5 => ?_) (fun c5 => ?_)
          · have c5 := bI_z c5
            refine lv_iload_n hx hb dMo_isAtomic_133 rfl (lv_at hl 0 rfl) ?_
            refine lv_if_eq (tgt := 150) hx hb dMo_isAtomic_134 (by decide) (fun c6 => ?_) (fun c6 => ?_)
            · have c6 := bI_z c6
              refine lv_iconst (v := (0 : Int32)) hx hb dMo_isAtomic_150 (by decide) ?_
              exact W.zret (v := (0 : Int32)) hx hb hr rfl (fun t ht hW => ⟨⟨(0 : Int32), (), rfl, (by unfold f_Mo_isAtomic; rw [if_neg c3, if_neg c4, if_neg c5, if_neg c6]; try rfl), ht⟩, hS.F ht⟩) hS.2.2 dMo_isAtomic_151
            · have c6 := bI_n c6
              refine lv_aload_n hx hb dMo_isAtomic_137 rfl (lv_at hl 2 rfl) ?_
              refine va_get (D := G) (ci := 5) (v := .int vs) (C := RMo) (T := TMo) (N := 15) hx hb hT inMo hown hK hP 0 rfl rfl 11 (by decide) (hT _ mw_576) (fun _ h9 => h9) rfl dMo_isAtomic_138 ?_
              refine lv_bipush (v := (11 : Int32)) hx hb dMo_isAtomic_141 (by decide) ?_
              refine lv_icmp_ge (tgt := 150) hx hb dMo_isAtomic_143 (by decide) (fun c7 => ?_) (fun c7 => ?_)
              · skip
                refine lv_iconst (v := (0 : Int32)) hx hb dMo_isAtomic_150 (by decide) ?_
                exact W.zret (v := (0 : Int32)) hx hb hr rfl (fun t ht hW => ⟨⟨(0 : Int32), (), rfl, (by unfold f_Mo_isAtomic; rw [if_neg c3, if_neg c4, if_neg c5, if_pos c6, if_pos c7]; try rfl), ht⟩, hS.F ht⟩) hS.2.2 dMo_isAtomic_151
              · skip
                refine lv_iconst (v := (1 : Int32)) hx hb dMo_isAtomic_146 (by decide) ?_
                refine lv_goto (tgt := 151) hx hb dMo_isAtomic_147 (by decide) ?_
                exact W.zret (v := (1 : Int32)) hx hb hr rfl (fun t ht hW => ⟨⟨(1 : Int32), (), rfl, (by unfold f_Mo_isAtomic; rw [if_neg c3, if_neg c4, if_neg c5, if_pos c6, if_neg c7]; try rfl), ht⟩, hS.F ht⟩) hS.2.2 dMo_isAtomic_151
          · have c5 := bI_n c5
            refine lv_aload_n hx hb dMo_isAtomic_124 rfl (lv_at hl 2 rfl) ?_
            refine va_get (D := G) (ci := 5) (v := .int vs) (C := RMo) (T := TMo) (N := 15) hx hb hT inMo hown hK hP 0 rfl rfl 11 (by decide) (hT _ mw_576) (fun _ h9 => h9) rfl dMo_isAtomic_125 ?_
            refine lv_bipush (v := (10 : Int32)) hx hb dMo_isAtomic_128 (by decide) ?_
            refine lv_icmp_lt (tgt := 146) hx hb dMo_isAtomic_130 (by decide) (fun c8 => ?_) (fun c8 => ?_)
            · skip
              refine lv_iconst (v := (1 : Int32)) hx hb dMo_isAtomic_146 (by decide) ?_
              refine lv_goto (tgt := 151) hx hb dMo_isAtomic_147 (by decide) ?_
              exact W.zret (v := (1 : Int32)) hx hb hr rfl (fun t ht hW => ⟨⟨(1 : Int32), (), rfl, (by unfold f_Mo_isAtomic; rw [if_neg c3, if_neg c4, if_pos c5, if_pos c8]; try rfl), ht⟩, hS.F ht⟩) hS.2.2 dMo_isAtomic_151
            · skip
              refine lv_iload_n hx hb dMo_isAtomic_133 rfl (lv_at hl 0 rfl) ?_
              refine lv_if_eq (tgt := 150) hx hb dMo_isAtomic_134 (by decide) (fun c9 => ?_) (fun c9 => ?_)
              · have c9 := bI_z c9
                refine lv_iconst (v := (0 : Int32)) hx hb dMo_isAtomic_150 (by decide) ?_
                exact W.zret (v := (0 : Int32)) hx hb hr rfl (fun t ht hW => ⟨⟨(0 : Int32), (), rfl, (by unfold f_Mo_isAtomic; rw [if_neg c3, if_neg c4, if_pos c5, if_neg c8, if_neg c9]; try rfl), ht⟩, hS.F ht⟩) hS.2.2 dMo_isAtomic_151
              · have c9 := bI_n c9
                refine lv_aload_n hx hb dMo_isAtomic_137 rfl (lv_at hl 2 rfl) ?_
                refine va_get (D := G) (ci := 5) (v := .int vs) (C := RMo) (T := TMo) (N := 15) hx hb hT inMo hown hK hP 0 rfl rfl 11 (by decide) (hT _ mw_576) (fun _ h9 => h9) rfl dMo_isAtomic_138 ?_
                refine lv_bipush (v := (11 : Int32)) hx hb dMo_isAtomic_141 (by decide) ?_
                refine lv_icmp_ge (tgt := 150) hx hb dMo_isAtomic_143 (by decide) (fun c10 => ?_) (fun c10 => ?_)
                · skip
                  refine lv_iconst (v := (0 : Int32)) hx hb dMo_isAtomic_150 (by decide) ?_
                  exact W.zret (v := (0 : Int32)) hx hb hr rfl (fun t ht hW => ⟨⟨(0 : Int32), (), rfl, (by unfold f_Mo_isAtomic; rw [if_neg c3, if_neg c4, if_pos c5, if_neg c8, if_pos c9, if_pos c10]; try rfl), ht⟩, hS.F ht⟩) hS.2.2 dMo_isAtomic_151
                · skip
                  refine lv_iconst (v := (1 : Int32)) hx hb dMo_isAtomic_146 (by decide) ?_
                  refine lv_goto (tgt := 151) hx hb dMo_isAtomic_147 (by decide) ?_
                  exact W.zret (v := (1 : Int32)) hx hb hr rfl (fun t ht hW => ⟨⟨(1 : Int32), (), rfl, (by unfold f_Mo_isAtomic; rw [if_neg c3, if_neg c4, if_pos c5, if_neg c8, if_pos c9, if_neg c10]; try rfl), ht⟩, hS.F ht⟩) hS.2.2 dMo_isAtomic_151
    refine lv_if_eq (tgt := 97) hx hb dMo_isAtomic_56 (by decide) (fun c11 => ?_) (fun c11 => ?_)
    · skip
      refine lv_iconst (v := (1 : Int32)) hx hb dMo_isAtomic_97 (by decide) ?_
      refine lv_goto (tgt := 102) hx hb dMo_isAtomic_98 (by decide) ?_
      exact jn2 true (by rw [if_pos c11]) _ hS
    · skip
      refine lv_aload_n hx hb dMo_isAtomic_59 rfl (lv_at hl 1 rfl) ?_
      refine va_get (D := G) (ci := 5) (v := .int vi) (C := RMo) (T := TMo) (N := 15) hx hb hT inMo hown hK hP 0 rfl rfl 13 (by decide) (hT _ mw_578) (fun _ h9 => h9) rfl dMo_isAtomic_60 ?_
      refine lv_bipush (v := (64 : Int32)) hx hb dMo_isAtomic_63 (by decide) ?_
      refine lv_icmp_eq (tgt := 97) hx hb dMo_isAtomic_65 (by decide) (fun c12 => ?_) (fun c12 => ?_)
      · skip
        refine lv_iconst (v := (1 : Int32)) hx hb dMo_isAtomic_97 (by decide) ?_
        refine lv_goto (tgt := 102) hx hb dMo_isAtomic_98 (by decide) ?_
        exact jn2 true (by rw [if_neg c11, if_pos c12]) _ hS
      · skip
        refine lv_aload_n hx hb dMo_isAtomic_68 rfl (lv_at hl 1 rfl) ?_
        refine va_get (D := G) (ci := 5) (v := .int vi) (C := RMo) (T := TMo) (N := 15) hx hb hT inMo hown hK hP 0 rfl rfl 13 (by decide) (hT _ mw_578) (fun _ h9 => h9) rfl dMo_isAtomic_69 ?_
        refine lv_bipush (v := (80 : Int32)) hx hb dMo_isAtomic_72 (by decide) ?_
        refine lv_icmp_eq (tgt := 97) hx hb dMo_isAtomic_74 (by decide) (fun c13 => ?_) (fun c13 => ?_)
        · skip
          refine lv_iconst (v := (1 : Int32)) hx hb dMo_isAtomic_97 (by decide) ?_
          refine lv_goto (tgt := 102) hx hb dMo_isAtomic_98 (by decide) ?_
          exact jn2 true (by rw [if_neg c11, if_neg c12, if_pos c13]) _ hS
        · skip
          refine lv_aload_n hx hb dMo_isAtomic_77 rfl (lv_at hl 1 rfl) ?_
          refine va_get (D := G) (ci := 5) (v := .int vi) (C := RMo) (T := TMo) (N := 15) hx hb hT inMo hown hK hP 0 rfl rfl 13 (by decide) (hT _ mw_578) (fun _ h9 => h9) rfl dMo_isAtomic_78 ?_
          refine lv_sipush (v := (160 : Int32)) hx hb dMo_isAtomic_81 (by decide) ?_
          refine lv_icmp_eq (tgt := 97) hx hb dMo_isAtomic_84 (by decide) (fun c14 => ?_) (fun c14 => ?_)
          · skip
            refine lv_iconst (v := (1 : Int32)) hx hb dMo_isAtomic_97 (by decide) ?_
            refine lv_goto (tgt := 102) hx hb dMo_isAtomic_98 (by decide) ?_
            exact jn2 true (by rw [if_neg c11, if_neg c12, if_neg c13, if_pos c14]) _ hS
          · skip
            refine lv_aload_n hx hb dMo_isAtomic_87 rfl (lv_at hl 1 rfl) ?_
            refine va_get (D := G) (ci := 5) (v := .int vi) (C := RMo) (T := TMo) (N := 15) hx hb hT inMo hown hK hP 0 rfl rfl 13 (by decide) (hT _ mw_578) (fun _ h9 => h9) rfl dMo_isAtomic_88 ?_
            refine lv_sipush (v := (241 : Int32)) hx hb dMo_isAtomic_91 (by decide) ?_
            refine lv_icmp_ne (tgt := 101) hx hb dMo_isAtomic_94 (by decide) (fun c15 => ?_) (fun c15 => ?_)
            · skip
              refine lv_iconst (v := (0 : Int32)) hx hb dMo_isAtomic_101 (by decide) ?_
              exact jn2 false (by rw [if_neg c11, if_neg c12, if_neg c13, if_neg c14, if_neg c15]) _ hS
            · skip
              refine lv_iconst (v := (1 : Int32)) hx hb dMo_isAtomic_97 (by decide) ?_
              refine lv_goto (tgt := 102) hx hb dMo_isAtomic_98 (by decide) ?_
              exact jn2 true (by rw [if_neg c11, if_neg c12, if_neg c13, if_neg c14, if_pos c15]) _ hS
  refine lv_icmp_eq (tgt := 46) hx hb dMo_isAtomic_5 (by decide) (fun c16 => ?_) (fun c16 => ?_)
  · skip
    refine lv_iconst (v := (1 : Int32)) hx hb dMo_isAtomic_46 (by decide) ?_
    refine lv_goto (tgt := 51) hx hb dMo_isAtomic_47 (by decide) ?_
    exact jn1 true (by rw [if_pos c16]) _ hS
  · skip
    refine lv_aload_n hx hb dMo_isAtomic_8 rfl (lv_at hl 0 rfl) ?_
    refine va_get (D := G) (ci := 5) (v := .int vi) (C := RMo) (T := TMo) (N := 15) hx hb hT inMo hown hK hP 0 rfl rfl 13 (by decide) (hT _ mw_578) (fun _ h9 => h9) rfl dMo_isAtomic_9 ?_
    refine lv_bipush (v := (65 : Int32)) hx hb dMo_isAtomic_12 (by decide) ?_
    refine lv_icmp_eq (tgt := 46) hx hb dMo_isAtomic_14 (by decide) (fun c17 => ?_) (fun c17 => ?_)
    · skip
      refine lv_iconst (v := (1 : Int32)) hx hb dMo_isAtomic_46 (by decide) ?_
      refine lv_goto (tgt := 51) hx hb dMo_isAtomic_47 (by decide) ?_
      exact jn1 true (by rw [if_neg c16, if_pos c17]) _ hS
    · skip
      refine lv_aload_n hx hb dMo_isAtomic_17 rfl (lv_at hl 0 rfl) ?_
      refine va_get (D := G) (ci := 5) (v := .int vi) (C := RMo) (T := TMo) (N := 15) hx hb hT inMo hown hK hP 0 rfl rfl 13 (by decide) (hT _ mw_578) (fun _ h9 => h9) rfl dMo_isAtomic_18 ?_
      refine lv_bipush (v := (81 : Int32)) hx hb dMo_isAtomic_21 (by decide) ?_
      refine lv_icmp_eq (tgt := 46) hx hb dMo_isAtomic_23 (by decide) (fun c18 => ?_) (fun c18 => ?_)
      · skip
        refine lv_iconst (v := (1 : Int32)) hx hb dMo_isAtomic_46 (by decide) ?_
        refine lv_goto (tgt := 51) hx hb dMo_isAtomic_47 (by decide) ?_
        exact jn1 true (by rw [if_neg c16, if_neg c17, if_pos c18]) _ hS
      · skip
        refine lv_aload_n hx hb dMo_isAtomic_26 rfl (lv_at hl 0 rfl) ?_
        refine va_get (D := G) (ci := 5) (v := .int vi) (C := RMo) (T := TMo) (N := 15) hx hb hT inMo hown hK hP 0 rfl rfl 13 (by decide) (hT _ mw_578) (fun _ h9 => h9) rfl dMo_isAtomic_27 ?_
        refine lv_sipush (v := (161 : Int32)) hx hb dMo_isAtomic_30 (by decide) ?_
        refine lv_icmp_eq (tgt := 46) hx hb dMo_isAtomic_33 (by decide) (fun c19 => ?_) (fun c19 => ?_)
        · skip
          refine lv_iconst (v := (1 : Int32)) hx hb dMo_isAtomic_46 (by decide) ?_
          refine lv_goto (tgt := 51) hx hb dMo_isAtomic_47 (by decide) ?_
          exact jn1 true (by rw [if_neg c16, if_neg c17, if_neg c18, if_pos c19]) _ hS
        · skip
          refine lv_aload_n hx hb dMo_isAtomic_36 rfl (lv_at hl 0 rfl) ?_
          refine va_get (D := G) (ci := 5) (v := .int vi) (C := RMo) (T := TMo) (N := 15) hx hb hT inMo hown hK hP 0 rfl rfl 13 (by decide) (hT _ mw_578) (fun _ h9 => h9) rfl dMo_isAtomic_37 ?_
          refine lv_sipush (v := (225 : Int32)) hx hb dMo_isAtomic_40 (by decide) ?_
          refine lv_icmp_ne (tgt := 50) hx hb dMo_isAtomic_43 (by decide) (fun c20 => ?_) (fun c20 => ?_)
          · skip
            refine lv_iconst (v := (0 : Int32)) hx hb dMo_isAtomic_50 (by decide) ?_
            exact jn1 false (by rw [if_neg c16, if_neg c17, if_neg c18, if_neg c19, if_neg c20]) _ hS
          · skip
            refine lv_iconst (v := (1 : Int32)) hx hb dMo_isAtomic_46 (by decide) ?_
            refine lv_goto (tgt := 51) hx hb dMo_isAtomic_47 (by decide) ?_
            exact jn1 true (by rw [if_neg c16, if_neg c17, if_neg c18, if_neg c19, if_pos c20]) _ hS
