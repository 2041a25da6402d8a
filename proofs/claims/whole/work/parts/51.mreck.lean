def f_Mo_reckoned (vc : Int32) (vo : Int32) (a0 : Int64) (a1 : Int64) (a2 : Int32) : Int64 :=
  if (f_Mo_n vc) = (0 : Int32) then
    (a0 + a1)
  else
    if (f_Mo_n vc) = (1 : Int32) then
      (a0 - a1)
    else
      if (f_Mo_n vc) = (2 : Int32) then
        (a0 * a1)
      else
        if (f_Mo_n vc) = (3 : Int32) then
          (f_Mo_quotient (if (if vo = (1 : Int32) then true else false) = true then a0 else (f_Mo_lowest a0 a2)) (if (if vo = (1 : Int32) then true else false) = true then a1 else (f_Mo_lowest a1 a2)) (if vo = (1 : Int32) then true else false))
        else
          if (f_Mo_n vc) = (4 : Int32) then
            (a0 ||| a1)
          else
            if (f_Mo_n vc) = (5 : Int32) then
              (a0 &&& a1)
            else
              if (f_Mo_n vc) = (6 : Int32) then
                (j_lshl a0 ((a1 &&& ((a2 - (1 : Int32)).toInt64)).toInt32))
              else
                if (f_Mo_n vc) = (7 : Int32) then
                  (j_lushr (f_Mo_lowest a0 a2) ((a1 &&& ((a2 - (1 : Int32)).toInt64)).toInt32))
                else
                  if (f_Mo_n vc) = (8 : Int32) then
                    (-a0)
                  else
                    if (f_Mo_n vc) = (9 : Int32) then
                      ((if (if vo = (1 : Int32) then true else false) = true then a0 else (f_Mo_lowest a0 a2)) - ((f_Mo_quotient (if (if vo = (1 : Int32) then true else false) = true then a0 else (f_Mo_lowest a0 a2)) (if (if vo = (1 : Int32) then true else false) = true then a1 else (f_Mo_lowest a1 a2)) (if vo = (1 : Int32) then true else false)) * (if (if vo = (1 : Int32) then true else false) = true then a1 else (f_Mo_lowest a1 a2))))
                    else
                      if (f_Mo_n vc) = (10 : Int32) then
                        (a0 ^^^ a1)
                      else
                        if (f_Mo_n vc) = (11 : Int32) then
                          if vo = 0 then
                            a1
                          else
                            (f_Mo_signed a1 vo)
                        else
                          (j_lshr a0 ((a1 &&& ((a2 - (1 : Int32)).toInt64)).toInt32))
set_option maxHeartbeats 4000000 in
set_option maxRecDepth 100000 in
theorem c_Mo_reckoned (l : Launch) (G : va_G) (cB cL cI : ClassId) (Hp : Heap) (m0 : Nat) (vth : Int32) (qt : Nat) (vtp : Int32) (qp : Nat) (vpl : Int32) (qr : Nat) (qm : Nat) (vpc : Int32) (vst : Int32) (vc : Int32) (vd : Int32) (vs : Int32) (vo : Int32) (vi : Int32) (vn : Int32) (a0 : Int64) (a1 : Int64) (a2 : Int32) (hP : va_P G vwCl [(m0, .inr (5, [.int vth, .ref qt, .int vtp, .ref qp, .int vpl, .ref qr, .ref qm, .int vpc, .int vst, .int vc, .int vd, .int vs, .int vo, .int vi, .int vn]))] Hp) : Met l yMo_reckoned wsMo_reckoned ({ frames := 3, cells := 0, slots := 0, locals := 80 }) (va_Pc [.ref m0, .long a0, .long a1, .int a2] (fun U => U.heap = Hp ∧ va_K G vwCl [(cB, .byte), (cL, .long), (cI, .int)] U)) (va_Ql (fun (r : Int64) (_ : Unit) => r = (f_Mo_reckoned vc vo a0 a1 a2)) (fun _ t => t.heap = Hp) (fun _ => False)) 0 0 (fun _ => False) := by
  refine Met.ofW (cc := cMo_reckoned) (maxL := 12) (ret := (some .long)) (by decide) rfl ?_
  intro p e s m args below meth c s₁ B hml hv
  obtain ⟨rfl, rfl, hK⟩ := hv
  have hx := B.exec
  have hb := B.bytes
  have hr := B.returns
  have hT : ∀ w ∈ tB, w.before _ s = true := fun w h => atoms_spec (ws := wsMo_reckoned) B.pre w (List.mem_cons_of_mem _ h)
  have hown : s.vm.findClass "CompiledProgramModel" = some m.cls := findClass_of_methodNamed B.named
  have hlocks := B.notSynchronized
  have hA : ∀ q : Nat, (fun _ : Nat => False) q → False := fun _ h => h
  have hS : va_S (fun _ => False) s.heap s.heap [] := va_S.rf
  have hl := lv_entry ([.ref m0, .long a0, .long a1, .int a2]) (n := 12) (Nat.le_of_ble_eq_true rfl)
  rw [lg_entry_eq]
  generalize (lg_sl ([.ref m0, .long a0, .long a1, .int a2]) ++ List.replicate (12 - (lg_sl ([.ref m0, .long a0, .long a1, .int a2])).length) Slot.unset).toArray = ls at hl ⊢
  have hl : lv_has ls 12 [(0, .ref m0), (1, .long a0), (3, .long a1), (5, .int a2)] := hl
  refine lv_aload_n hx hb dMo_reckoned_0 rfl (lv_at hl 0 rfl) ?_
  refine va_get (D := G) (ci := 5) (v := .int vo) (C := RMo) (T := TMo) (N := 15) hx hb hT inMo hown hK hP 0 rfl rfl 12 (by decide) (hT _ mw_577) (fun _ h9 => h9) rfl dMo_reckoned_1 ?_
  refine lv_iconst (v := (1 : Int32)) hx hb dMo_reckoned_4 (by decide) ?_
  have jn1 : ∀ (x1 : Bool), x1 = (if vo = (1 : Int32) then true else false) → ∀ (locs : List Loc), va_S (fun _ => False) s.heap s.heap locs → W p l e (headSpec wsMo_reckoned ({ frames := 3, cells := 0, slots := 0, locals := 80 })).room s m ([.ref m0, .long a0, .long a1, .int a2] : List Value).toArray below meth c s.heap locs 0 0 (MQ below (va_Ql (fun (r : Int64) (_ : Unit) => r = (f_Mo_reckoned vc vo a0 a1 a2)) (fun _ t => t.heap = s.heap) (fun _ => False)) ([.ref m0, .long a0, .long a1, .int a2] : List Value).toArray s 0 0 (fun _ => False)) (F0 m 13 ls [.int (bI x1)]) := by
    intro x1 hx1 locs hS
    subst hx1
    refine lv_istore (lv' := [(6, .int (bI (if vo = (1 : Int32) then true else false))), (0, .ref m0), (1, .long a0), (3, .long a1), (5, .int a2)]) hx hb dMo_reckoned_13 hl (by decide) rfl (fun ls hl => ?_)
    refine lv_iload hx hb dMo_reckoned_15 (lv_at hl 0 rfl) ?_
    have jn2 : ∀ (x2 : Int64), x2 = (if (if vo = (1 : Int32) then true else false) = true then a0 else (f_Mo_lowest a0 a2)) → ∀ (locs : List Loc), va_S (fun _ => False) s.heap s.heap locs → W p l e (headSpec wsMo_reckoned ({ frames := 3, cells := 0, slots := 0, locals := 80 })).room s m ([.ref m0, .long a0, .long a1, .int a2] : List Value).toArray below meth c s.heap locs 0 0 (MQ below (va_Ql (fun (r : Int64) (_ : Unit) => r = (f_Mo_reckoned vc vo a0 a1 a2)) (fun _ t => t.heap = s.heap) (fun _ => False)) ([.ref m0, .long a0, .long a1, .int a2] : List Value).toArray s 0 0 (fun _ => False)) (F0 m 30 ls [.long x2]) := by
      intro x2 hx2 locs hS
      subst hx2
      refine lv_lstore (lv' := [(7, .long (if (if vo = (1 : Int32) then true else false) = true then a0 else (f_Mo_lowest a0 a2))), (6, .int (bI (if vo = (1 : Int32) then true else false))), (0, .ref m0), (1, .long a0), (3, .long a1), (5, .int a2)]) hx hb dMo_reckoned_30 hl (by decide) rfl (fun ls hl => ?_)
      refine lv_iload hx hb dMo_reckoned_32 (lv_at hl 1 rfl) ?_
      have jn3 : ∀ (x3 : Int64), x3 = (if (if vo = (1 : Int32) then true else false) = true then a1 else (f_Mo_lowest a1 a2)) → ∀ (locs : List Loc), va_S (fun _ => False) s.heap s.heap locs → W p l e (headSpec wsMo_reckoned ({ frames := 3, cells := 0, slots := 0, locals := 80 })).room s m ([.ref m0, .long a0, .long a1, .int a2] : List Value).toArray below meth c s.heap locs 0 0 (MQ below (va_Ql (fun (r : Int64) (_ : Unit) => r = (f_Mo_reckoned vc vo a0 a1 a2)) (fun _ t => t.heap = s.heap) (fun _ => False)) ([.ref m0, .long a0, .long a1, .int a2] : List Value).toArray s 0 0 (fun _ => False)) (F0 m 47 ls [.long x3]) := by
        intro x3 hx3 locs hS
        subst hx3
        refine lv_lstore (lv' := [(9, .long (if (if vo = (1 : Int32) then true else false) = true then a1 else (f_Mo_lowest a1 a2))), (7, .long (if (if vo = (1 : Int32) then true else false) = true then a0 else (f_Mo_lowest a0 a2))), (6, .int (bI (if vo = (1 : Int32) then true else false))), (0, .ref m0), (1, .long a0), (3, .long a1), (5, .int a2)]) hx hb dMo_reckoned_47 hl (by decide) rfl (fun ls hl => ?_)
        refine lv_lload_n hx hb dMo_reckoned_49 rfl (lv_at hl 5 rfl) ?_
        refine lv_iload hx hb dMo_reckoned_50 (lv_at hl 6 rfl) ?_
        refine lv_iconst (v := (1 : Int32)) hx hb dMo_reckoned_52 (by decide) ?_
        refine lv_isub hx hb dMo_reckoned_53 ?_
        refine lv_i2l hx hb dMo_reckoned_54 rfl ?_
        refine lv_land hx hb dMo_reckoned_55 ?_
        refine lv_l2i hx hb dMo_reckoned_56 rfl ?_
        refine lv_istore (lv' := [(11, .int ((a1 &&& ((a2 - (1 : Int32)).toInt64)).toInt32)), (9, .long (if (if vo = (1 : Int32) then true else false) = true then a1 else (f_Mo_lowest a1 a2))), (7, .long (if (if vo = (1 : Int32) then true else false) = true then a0 else (f_Mo_lowest a0 a2))), (6, .int (bI (if vo = (1 : Int32) then true else false))), (0, .ref m0), (1, .long a0), (3, .long a1), (5, .int a2)]) hx hb dMo_reckoned_57 hl (by decide) rfl (fun ls hl => ?_)
        refine lv_aload_n hx hb dMo_reckoned_59 rfl (lv_at hl 4 rfl) ?_
        have hPc := hP.sub (ws' := [(m0, .inr (5, [.int vth, .ref qt, .int vtp, .ref qp, .int vpl, .ref qr, .ref qm, .int vpc, .int vst, .int vc, .int vd, .int vs, .int vo, .int vi, .int vn]))]) [0] rfl
        refine va_calli (va_runV (As := []) (rest := []) ⟨hx, hb, hml, hown, hT⟩ (c_Mo_n l G cB cL cI s.heap m0 vth qt vtp qp vpl qr qm vpc vst vc vd vs vo vi vn hPc ) (cwV 0 hT (gB_V mw_651 mw_653 ms_6 mw_6 mw_654) rfl rfl rfl (by decide +kernel) ⟨Nat.le_of_ble_eq_true rfl, Nat.le_of_ble_eq_true rfl⟩) ⟨fun a U g mk q => ⟨q.1, q.2.1, va_K.moved (u := U) (U := U.calling g mk a) (Vm.Alike.refl U.vm) q.2.2⟩, va_recv hK hPc (ci := 5) (q0 := 0) rfl rfl, fun U hU hW => ⟨rfl, hU, va_K.moved hW.alike hK⟩⟩ rfl rfl hl.1 rfl (lv_room (Nat.le_of_ble_eq_true rfl)) dMo_reckoned_60 ⟨Nat.zero_le _, Nat.zero_le _⟩) hS (fun _ _ h => h.elim) (fun _ h => h.elim) (fun r u t H1 locs ht hvm hw hB hz8 hk8 hS => ?_)
        obtain rfl : s.heap = H1 := hB.symm.trans ht
        subst hw
        by_cases c4 : (f_Mo_n vc) = (0 : Int32)
        · skip
          refine lv_tableIn (tgt := 124) (off := 61) hx hb dMo_reckoned_63 (by rw [c4]; decide) (by rw [c4]; decide) (by rw [c4]; rfl) (by decide) ?_
          refine lv_lload_n hx hb dMo_reckoned_124 rfl (lv_at hl 5 rfl) ?_
          refine lv_lload_n hx hb dMo_reckoned_125 rfl (lv_at hl 6 rfl) ?_
          refine lv_ladd hx hb dMo_reckoned_126 ?_
          exact W.lret (v := (a0 + a1)) hx hb hr (fun t ht hW => ⟨⟨(a0 + a1), (), rfl, (by unfold f_Mo_reckoned; rw [if_pos c4]; try rfl), ht⟩, hS.F ht⟩) hS.2.2 dMo_reckoned_127
        by_cases c5 : (f_Mo_n vc) = (1 : Int32)
        · skip
          refine lv_tableIn (tgt := 128) (off := 65) hx hb dMo_reckoned_63 (by rw [c5]; decide) (by rw [c5]; decide) (by rw [c5]; rfl) (by decide) ?_
          refine lv_lload_n hx hb dMo_reckoned_128 rfl (lv_at hl 5 rfl) ?_
          refine lv_lload_n hx hb dMo_reckoned_129 rfl (lv_at hl 6 rfl) ?_
          refine lv_lsub hx hb dMo_reckoned_130 ?_
          exact W.lret (v := (a0 - a1)) hx hb hr (fun t ht hW => ⟨⟨(a0 - a1), (), rfl, (by unfold f_Mo_reckoned; rw [if_neg c4, if_pos c5]; try rfl), ht⟩, hS.F ht⟩) hS.2.2 dMo_reckoned_131
        by_cases c6 : (f_Mo_n vc) = (2 : Int32)
        · skip
          refine lv_tableIn (tgt := 132) (off := 69) hx hb dMo_reckoned_63 (by rw [c6]; decide) (by rw [c6]; decide) (by rw [c6]; rfl) (by decide) ?_
          refine lv_lload_n hx hb dMo_reckoned_132 rfl (lv_at hl 5 rfl) ?_
          refine lv_lload_n hx hb dMo_reckoned_133 rfl (lv_at hl 6 rfl) ?_
          refine lv_lmul hx hb dMo_reckoned_134 ?_
          exact W.lret (v := (a0 * a1)) hx hb hr (fun t ht hW => ⟨⟨(a0 * a1), (), rfl, (by unfold f_Mo_reckoned; rw [if_neg c4, if_neg c5, if_pos c6]; try rfl), ht⟩, hS.F ht⟩) hS.2.2 dMo_reckoned_135
        by_cases c7 : (f_Mo_n vc) = (3 : Int32)
        · skip
          refine lv_tableIn (tgt := 136) (off := 73) hx hb dMo_reckoned_63 (by rw [c7]; decide) (by rw [c7]; decide) (by rw [c7]; rfl) (by decide) ?_
          refine lv_lload hx hb dMo_reckoned_136 (lv_at hl 2 rfl) ?_
          refine lv_lload hx hb dMo_reckoned_138 (lv_at hl 1 rfl) ?_
          refine lv_iload hx hb dMo_reckoned_140 (lv_at hl 3 rfl) ?_
          have hPc := hP.sub (ws' := []) [] rfl
          refine va_calll (va_runS (As := [.long (if (if vo = (1 : Int32) then true else false) = true then a0 else (f_Mo_lowest a0 a2)), .long (if (if vo = (1 : Int32) then true else false) = true then a1 else (f_Mo_lowest a1 a2)), .int (bI (if vo = (1 : Int32) then true else false))]) (rest := []) ⟨hx, hb, hml, hown, hT⟩ (c_Mo_quotient l G cB cL cI s.heap (if (if vo = (1 : Int32) then true else false) = true then a0 else (f_Mo_lowest a0 a2)) (if (if vo = (1 : Int32) then true else false) = true then a1 else (f_Mo_lowest a1 a2)) (if vo = (1 : Int32) then true else false) hPc ) (cwS 3 hT (gB_S mw_749 mw_750 mw_6 mw_751) rfl rfl rfl (by decide +kernel) ⟨Nat.le_of_ble_eq_true rfl, Nat.le_of_ble_eq_true rfl⟩) ⟨fun a U g mk q => ⟨q.1, q.2.1, va_K.moved (u := U) (U := U.calling g mk a) (Vm.Alike.refl U.vm) q.2.2⟩, fun U hU hW => ⟨rfl, hU, va_K.moved hW.alike hK⟩⟩ rfl rfl hl.1 rfl (lv_room (Nat.le_of_ble_eq_true rfl)) dMo_reckoned_142 ⟨Nat.zero_le _, Nat.zero_le _⟩) hS (fun _ _ h => h.elim) (fun _ h => h.elim) (fun r u t H1 locs ht hvm hw hB hz8 hk8 hS => ?_)
          obtain rfl : s.heap = H1 := hB.symm.trans ht
          subst hw
          exact W.lret (v := (f_Mo_quotient (if (if vo = (1 : Int32) then true else false) = true then a0 else (f_Mo_lowest a0 a2)) (if (if vo = (1 : Int32) then true else false) = true then a1 else (f_Mo_lowest a1 a2)) (if vo = (1 : Int32) then true else false))) hx hb hr (fun t ht hW => ⟨⟨(f_Mo_quotient (if (if vo = (1 : Int32) then true else false) = true then a0 else (f_Mo_lowest a0 a2)) (if (if vo = (1 : Int32) then true else false) = true then a1 else (f_Mo_lowest a1 a2)) (if vo = (1 : Int32) then true else false)), (), rfl, (by unfold f_Mo_reckoned; rw [if_neg c4, if_neg c5, if_neg c6, if_pos c7]; try rfl), ht⟩, hS.F ht⟩) hS.2.2 dMo_reckoned_145
        by_cases c8 : (f_Mo_n vc) = (4 : Int32)
        · skip
          refine lv_tableIn (tgt := 146) (off := 83) hx hb dMo_reckoned_63 (by rw [c8]; decide) (by rw [c8]; decide) (by rw [c8]; rfl) (by decide) ?_
          refine lv_lload_n hx hb dMo_reckoned_146 rfl (lv_at hl 5 rfl) ?_
          refine lv_lload_n hx hb dMo_reckoned_147 rfl (lv_at hl 6 rfl) ?_
          refine lv_lor hx hb dMo_reckoned_148 ?_
          exact W.lret (v := (a0 ||| a1)) hx hb hr (fun t ht hW => ⟨⟨(a0 ||| a1), (), rfl, (by unfold f_Mo_reckoned; rw [if_neg c4, if_neg c5, if_neg c6, if_neg c7, if_pos c8]; try rfl), ht⟩, hS.F ht⟩) hS.2.2 dMo_reckoned_149
        by_cases c9 : (f_Mo_n vc) = (5 : Int32)
        · skip
          refine lv_tableIn (tgt := 150) (off := 87) hx hb dMo_reckoned_63 (by rw [c9]; decide) (by rw [c9]; decide) (by rw [c9]; rfl) (by decide) ?_
          refine lv_lload_n hx hb dMo_reckoned_150 rfl (lv_at hl 5 rfl) ?_
          refine lv_lload_n hx hb dMo_reckoned_151 rfl (lv_at hl 6 rfl) ?_
          refine lv_land hx hb dMo_reckoned_152 ?_
          exact W.lret (v := (a0 &&& a1)) hx hb hr (fun t ht hW => ⟨⟨(a0 &&& a1), (), rfl, (by unfold f_Mo_reckoned; rw [if_neg c4, if_neg c5, if_neg c6, if_neg c7, if_neg c8, if_pos c9]; try rfl), ht⟩, hS.F ht⟩) hS.2.2 dMo_reckoned_153
        by_cases c10 : (f_Mo_n vc) = (6 : Int32)
        · skip
          refine lv_tableIn (tgt := 154) (off := 91) hx hb dMo_reckoned_63 (by rw [c10]; decide) (by rw [c10]; decide) (by rw [c10]; rfl) (by decide) ?_
          refine lv_lload_n hx hb dMo_reckoned_154 rfl (lv_at hl 5 rfl) ?_
          refine lv_iload hx hb dMo_reckoned_155 (lv_at hl 0 rfl) ?_
          refine lv_lshl (v := (j_lshl a0 ((a1 &&& ((a2 - (1 : Int32)).toInt64)).toInt32))) hx hb dMo_reckoned_157 rfl ?_
          exact W.lret (v := (j_lshl a0 ((a1 &&& ((a2 - (1 : Int32)).toInt64)).toInt32))) hx hb hr (fun t ht hW => ⟨⟨(j_lshl a0 ((a1 &&& ((a2 - (1 : Int32)).toInt64)).toInt32)), (), rfl, (by unfold f_Mo_reckoned; rw [if_neg c4, if_neg c5, if_neg c6, if_neg c7, if_neg c8, if_neg c9, if_pos c10]; try rfl), ht⟩, hS.F ht⟩) hS.2.2 dMo_reckoned_158
        by_cases c11 : (f_Mo_n vc) = (7 : Int32)
        · skip
          refine lv_tableIn (tgt := 159) (off := 96) hx hb dMo_reckoned_63 (by rw [c11]; decide) (by rw [c11]; decide) (by rw [c11]; rfl) (by decide) ?_
          refine lv_lload_n hx hb dMo_reckoned_159 rfl (lv_at hl 5 rfl) ?_
          refine lv_iload hx hb dMo_reckoned_160 (lv_at hl 7 rfl) ?_
          have hPc := hP.sub (ws' := []) [] rfl
          refine va_calll (va_runS (As := [.long a0, .int a2]) (rest := []) ⟨hx, hb, hml, hown, hT⟩ (c_Mo_lowest l G cB cL cI s.heap a0 a2 hPc ) (cwS 2 hT (gB_S mw_742 mw_743 mw_6 mw_744) rfl rfl rfl (by decide +kernel) ⟨Nat.le_of_ble_eq_true rfl, Nat.le_of_ble_eq_true rfl⟩) ⟨fun a U g mk q => ⟨q.1, q.2.1, va_K.moved (u := U) (U := U.calling g mk a) (Vm.Alike.refl U.vm) q.2.2⟩, fun U hU hW => ⟨rfl, hU, va_K.moved hW.alike hK⟩⟩ rfl rfl hl.1 rfl (lv_room (Nat.le_of_ble_eq_true rfl)) dMo_reckoned_162 ⟨Nat.zero_le _, Nat.zero_le _⟩) hS (fun _ _ h => h.elim) (fun _ h => h.elim) (fun r u t H1 locs ht hvm hw hB hz8 hk8 hS => ?_)
          obtain rfl : s.heap = H1 := hB.symm.trans ht
          subst hw
          refine lv_iload hx hb dMo_reckoned_165 (lv_at hl 0 rfl) ?_
          refine lv_lushr (v := (j_lushr (f_Mo_lowest a0 a2) ((a1 &&& ((a2 - (1 : Int32)).toInt64)).toInt32))) hx hb dMo_reckoned_167 rfl ?_
          exact W.lret (v := (j_lushr (f_Mo_lowest a0 a2) ((a1 &&& ((a2 - (1 : Int32)).toInt64)).toInt32))) hx hb hr (fun t ht hW => ⟨⟨(j_lushr (f_Mo_lowest a0 a2) ((a1 &&& ((a2 - (1 : Int32)).toInt64)).toInt32)), (), rfl, (by unfold f_Mo_reckoned; rw [if_neg c4, if_neg c5, if_neg c6, if_neg c7, if_neg c8, if_neg c9, if_neg c10, if_pos c11]; try rfl), ht⟩, hS.F ht⟩) hS.2.2 dMo_reckoned_168
        by_cases c12 : (f_Mo_n vc) = (8 : Int32)
        · skip
          refine lv_tableIn (tgt := 169) (off := 106) hx hb dMo_reckoned_63 (by rw [c12]; decide) (by rw [c12]; decide) (by rw [c12]; rfl) (by decide) ?_
          refine lv_lload_n hx hb dMo_reckoned_169 rfl (lv_at hl 5 rfl) ?_
          refine lv_lneg hx hb dMo_reckoned_170 ?_
          exact W.lret (v := (-a0)) hx hb hr (fun t ht hW => ⟨⟨(-a0), (), rfl, (by unfold f_Mo_reckoned; rw [if_neg c4, if_neg c5, if_neg c6, if_neg c7, if_neg c8, if_neg c9, if_neg c10, if_neg c11, if_pos c12]; try rfl), ht⟩, hS.F ht⟩) hS.2.2 dMo_reckoned_171
        by_cases c13 : (f_Mo_n vc) = (9 : Int32)
        · skip
          refine lv_tableIn (tgt := 172) (off := 109) hx hb dMo_reckoned_63 (by rw [c13]; decide) (by rw [c13]; decide) (by rw [c13]; rfl) (by decide) ?_
          refine lv_lload hx hb dMo_reckoned_172 (lv_at hl 2 rfl) ?_
          refine lv_lload hx hb dMo_reckoned_174 (lv_at hl 2 rfl) ?_
          refine lv_lload hx hb dMo_reckoned_176 (lv_at hl 1 rfl) ?_
          refine lv_iload hx hb dMo_reckoned_178 (lv_at hl 3 rfl) ?_
          have hPc := hP.sub (ws' := []) [] rfl
          refine va_calll (va_runS (As := [.long (if (if vo = (1 : Int32) then true else false) = true then a0 else (f_Mo_lowest a0 a2)), .long (if (if vo = (1 : Int32) then true else false) = true then a1 else (f_Mo_lowest a1 a2)), .int (bI (if vo = (1 : Int32) then true else false))]) (rest := [.long (if (if vo = (1 : Int32) then true else false) = true then a0 else (f_Mo_lowest a0 a2))]) ⟨hx, hb, hml, hown, hT⟩ (c_Mo_quotient l G cB cL cI s.heap (if (if vo = (1 : Int32) then true else false) = true then a0 else (f_Mo_lowest a0 a2)) (if (if vo = (1 : Int32) then true else false) = true then a1 else (f_Mo_lowest a1 a2)) (if vo = (1 : Int32) then true else false) hPc ) (cwS 3 hT (gB_S mw_749 mw_750 mw_6 mw_751) rfl rfl rfl (by decide +kernel) ⟨Nat.le_of_ble_eq_true rfl, Nat.le_of_ble_eq_true rfl⟩) ⟨fun a U g mk q => ⟨q.1, q.2.1, va_K.moved (u := U) (U := U.calling g mk a) (Vm.Alike.refl U.vm) q.2.2⟩, fun U hU hW => ⟨rfl, hU, va_K.moved hW.alike hK⟩⟩ rfl rfl hl.1 rfl (lv_room (Nat.le_of_ble_eq_true rfl)) dMo_reckoned_180 ⟨Nat.zero_le _, Nat.zero_le _⟩) hS (fun _ _ h => h.elim) (fun _ h => h.elim) (fun r u t H1 locs ht hvm hw hB hz8 hk8 hS => ?_)
          obtain rfl : s.heap = H1 := hB.symm.trans ht
          subst hw
          refine lv_lload hx hb dMo_reckoned_183 (lv_at hl 1 rfl) ?_
          refine lv_lmul hx hb dMo_reckoned_185 ?_
          refine lv_lsub hx hb dMo_reckoned_186 ?_
          exact W.lret (v := ((if (if vo = (1 : Int32) then true else false) = true then a0 else (f_Mo_lowest a0 a2)) - ((f_Mo_quotient (if (if vo = (1 : Int32) then true else false) = true then a0 else (f_Mo_lowest a0 a2)) (if (if vo = (1 : Int32) then true else false) = true then a1 else (f_Mo_lowest a1 a2)) (if vo = (1 : Int32) then true else false)) * (if (if vo = (1 : Int32) then true else false) = true then a1 else (f_Mo_lowest a1 a2))))) hx hb hr (fun t ht hW => ⟨⟨((if (if vo = (1 : Int32) then true else false) = true then a0 else (f_Mo_lowest a0 a2)) - ((f_Mo_quotient (if (if vo = (1 : Int32) then true else false) = true then a0 else (f_Mo_lowest a0 a2)) (if (if vo = (1 : Int32) then true else false) = true then a1 else (f_Mo_lowest a1 a2)) (if vo = (1 : Int32) then true else false)) * (if (if vo = (1 : Int32) then true else false) = true then a1 else (f_Mo_lowest a1 a2)))), (), rfl, (by unfold f_Mo_reckoned; rw [if_neg c4, if_neg c5, if_neg c6, if_neg c7, if_neg c8, if_neg c9, if_neg c10, if_neg c11, if_neg c12, if_pos c13]; try rfl), ht⟩, hS.F ht⟩) hS.2.2 dMo_reckoned_187
        by_cases c14 : (f_Mo_n vc) = (10 : Int32)
        · skip
          refine lv_tableIn (tgt := 188) (off := 125) hx hb dMo_reckoned_63 (by rw [c14]; decide) (by rw [c14]; decide) (by rw [c14]; rfl) (by decide) ?_
          refine lv_lload_n hx hb dMo_reckoned_188 rfl (lv_at hl 5 rfl) ?_
          refine lv_lload_n hx hb dMo_reckoned_189 rfl (lv_at hl 6 rfl) ?_
          refine lv_lxor hx hb dMo_reckoned_190 ?_
          exact W.lret (v := (a0 ^^^ a1)) hx hb hr (fun t ht hW => ⟨⟨(a0 ^^^ a1), (), rfl, (by unfold f_Mo_reckoned; rw [if_neg c4, if_neg c5, if_neg c6, if_neg c7, if_neg c8, if_neg c9, if_neg c10, if_neg c11, if_neg c12, if_neg c13, if_pos c14]; try rfl), ht⟩, hS.F ht⟩) hS.2.2 dMo_reckoned_191
        by_cases c15 : (f_Mo_n vc) = (11 : Int32)
        · skip
          refine lv_tableIn (tgt := 192) (off := 129) hx hb dMo_reckoned_63 (by rw [c15]; decide) (by rw [c15]; decide) (by rw [c15]; rfl) (by decide) ?_
          refine lv_aload_n hx hb dMo_reckoned_192 rfl (lv_at hl 4 rfl) ?_
          refine va_get (D := G) (ci := 5) (v := .int vo) (C := RMo) (T := TMo) (N := 15) hx hb hT inMo hown hK hP 0 rfl rfl 12 (by decide) (hT _ mw_577) (fun _ h9 => h9) rfl dMo_reckoned_193 ?_
          refine lv_if_ne (tgt := 203) hx hb dMo_reckoned_196 (by decide) (fun c16 => ?_) (fun c16 => ?_)
          · skip
            refine lv_lload_n hx hb dMo_reckoned_203 rfl (lv_at hl 6 rfl) ?_
            refine lv_aload_n hx hb dMo_reckoned_204 rfl (lv_at hl 4 rfl) ?_
            refine va_get (D := G) (ci := 5) (v := .int vo) (C := RMo) (T := TMo) (N := 15) hx hb hT inMo hown hK hP 0 rfl rfl 12 (by decide) (hT _ mw_577) (fun _ h9 => h9) rfl dMo_reckoned_205 ?_
            have hPc := hP.sub (ws' := []) [] rfl
            refine va_calll (va_runS (As := [.long a1, .int vo]) (rest := []) ⟨hx, hb, hml, hown, hT⟩ (c_Mo_signed l G cB cL cI s.heap a1 vo hPc ) (cwS 2 hT (gB_S mw_759 mw_760 mw_6 mw_761) rfl rfl rfl (by decide +kernel) ⟨Nat.le_of_ble_eq_true rfl, Nat.le_of_ble_eq_true rfl⟩) ⟨fun a U g mk q => ⟨q.1, q.2.1, va_K.moved (u := U) (U := U.calling g mk a) (Vm.Alike.refl U.vm) q.2.2⟩, fun U hU hW => ⟨rfl, hU, va_K.moved hW.alike hK⟩⟩ rfl rfl hl.1 rfl (lv_room (Nat.le_of_ble_eq_true rfl)) dMo_reckoned_208 ⟨Nat.zero_le _, Nat.zero_le _⟩) hS (fun _ _ h => h.elim) (fun _ h => h.elim) (fun r u t H1 locs ht hvm hw hB hz8 hk8 hS => ?_)
            obtain rfl : s.heap = H1 := hB.symm.trans ht
            subst hw
            exact W.lret (v := (f_Mo_signed a1 vo)) hx hb hr (fun t ht hW => ⟨⟨(f_Mo_signed a1 vo), (), rfl, (by unfold f_Mo_reckoned; rw [if_neg c4, if_neg c5, if_neg c6, if_neg c7, if_neg c8, if_neg c9, if_neg c10, if_neg c11, if_neg c12, if_neg c13, if_neg c14, if_pos c15, if_neg c16]; try rfl), ht⟩, hS.F ht⟩) hS.2.2 dMo_reckoned_211
          · skip
            refine lv_lload_n hx hb dMo_reckoned_199 rfl (lv_at hl 6 rfl) ?_
            refine lv_goto (tgt := 211) hx hb dMo_reckoned_200 (by decide) ?_
            exact W.lret (v := a1) hx hb hr (fun t ht hW => ⟨⟨a1, (), rfl, (by unfold f_Mo_reckoned; rw [if_neg c4, if_neg c5, if_neg c6, if_neg c7, if_neg c8, if_neg c9, if_neg c10, if_neg c11, if_neg c12, if_neg c13, if_neg c14, if_pos c15, if_pos c16]; try rfl), ht⟩, hS.F ht⟩) hS.2.2 dMo_reckoned_211
        refine lv_tableOut (tgt := 212) hx hb dMo_reckoned_63 (by have h0 := lv_neT c4 (a := 0) (by decide); have h1 := lv_neT c5 (a := 1) (by decide); have h2 := lv_neT c6 (a := 2) (by decide); have h3 := lv_neT c7 (a := 3) (by decide); have h4 := lv_neT c8 (a := 4) (by decide); have h5 := lv_neT c9 (a := 5) (by decide); have h6 := lv_neT c10 (a := 6) (by decide); have h7 := lv_neT c11 (a := 7) (by decide); have h8 := lv_neT c12 (a := 8) (by decide); have h9 := lv_neT c13 (a := 9) (by decide); have h10 := lv_neT c14 (a := 10) (by decide); have h11 := lv_neT c15 (a := 11) (by decide); omega) (by decide) ?_
        refine lv_lload_n hx hb dMo_reckoned_212 rfl (lv_at hl 5 rfl) ?_
        refine lv_iload hx hb dMo_reckoned_213 (lv_at hl 0 rfl) ?_
        refine lv_lshr (v := (j_lshr a0 ((a1 &&& ((a2 - (1 : Int32)).toInt64)).toInt32))) hx hb dMo_reckoned_215 rfl ?_
        exact W.lret (v := (j_lshr a0 ((a1 &&& ((a2 - (1 : Int32)).toInt64)).toInt32))) hx hb hr (fun t ht hW => ⟨⟨(j_lshr a0 ((a1 &&& ((a2 - (1 : Int32)).toInt64)).toInt32)), (), rfl, (by unfold f_Mo_reckoned; rw [if_neg c4, if_neg c5, if_neg c6, if_neg c7, if_neg c8, if_neg c9, if_neg c10, if_neg c11, if_neg c12, if_neg c13, if_neg c14, if_neg c15]; try rfl), ht⟩, hS.F ht⟩) hS.2.2 dMo_reckoned_216
      refine lv_if_eq (tgt := 41) hx hb dMo_reckoned_34 (by decide) (fun c17 => ?_) (fun c17 => ?_)
      · have c17 := bI_z c17
        refine lv_lload_n hx hb dMo_reckoned_41 rfl (lv_at hl 4 rfl) ?_
        refine lv_iload hx hb dMo_reckoned_42 (lv_at hl 5 rfl) ?_
        have hPc := hP.sub (ws' := []) [] rfl
        refine va_calll (va_runS (As := [.long a1, .int a2]) (rest := []) ⟨hx, hb, hml, hown, hT⟩ (c_Mo_lowest l G cB cL cI s.heap a1 a2 hPc ) (cwS 2 hT (gB_S mw_742 mw_743 mw_6 mw_744) rfl rfl rfl (by decide +kernel) ⟨Nat.le_of_ble_eq_true rfl, Nat.le_of_ble_eq_true rfl⟩) ⟨fun a U g mk q => ⟨q.1, q.2.1, va_K.moved (u := U) (U := U.calling g mk a) (Vm.Alike.refl U.vm) q.2.2⟩, fun U hU hW => ⟨rfl, hU, va_K.moved hW.alike hK⟩⟩ rfl rfl hl.1 rfl (lv_room (Nat.le_of_ble_eq_true rfl)) dMo_reckoned_44 ⟨Nat.zero_le _, Nat.zero_le _⟩) hS (fun _ _ h => h.elim) (fun _ h => h.elim) (fun r u t H1 locs ht hvm hw hB hz8 hk8 hS => ?_)
        obtain rfl : s.heap = H1 := hB.symm.trans ht
        subst hw
        exact jn3 (f_Mo_lowest a1 a2) (by rw [if_neg c17]) _ hS
      · have c17 := bI_n c17
        refine lv_lload_n hx hb dMo_reckoned_37 rfl (lv_at hl 4 rfl) ?_
        refine lv_goto (tgt := 47) hx hb dMo_reckoned_38 (by decide) ?_
        exact jn3 a1 (by rw [if_pos c17]) _ hS
    refine lv_if_eq (tgt := 24) hx hb dMo_reckoned_17 (by decide) (fun c18 => ?_) (fun c18 => ?_)
    · have c18 := bI_z c18
      refine lv_lload_n hx hb dMo_reckoned_24 rfl (lv_at hl 2 rfl) ?_
      refine lv_iload hx hb dMo_reckoned_25 (lv_at hl 4 rfl) ?_
      have hPc := hP.sub (ws' := []) [] rfl
      refine va_calll (va_runS (As := [.long a0, .int a2]) (rest := []) ⟨hx, hb, hml, hown, hT⟩ (c_Mo_lowest l G cB cL cI s.heap a0 a2 hPc ) (cwS 2 hT (gB_S mw_742 mw_743 mw_6 mw_744) rfl rfl rfl (by decide +kernel) ⟨Nat.le_of_ble_eq_true rfl, Nat.le_of_ble_eq_true rfl⟩) ⟨fun a U g mk q => ⟨q.1, q.2.1, va_K.moved (u := U) (U := U.calling g mk a) (Vm.Alike.refl U.vm) q.2.2⟩, fun U hU hW => ⟨rfl, hU, va_K.moved hW.alike hK⟩⟩ rfl rfl hl.1 rfl (lv_room (Nat.le_of_ble_eq_true rfl)) dMo_reckoned_27 ⟨Nat.zero_le _, Nat.zero_le _⟩) hS (fun _ _ h => h.elim) (fun _ h => h.elim) (fun r u t H1 locs ht hvm hw hB hz8 hk8 hS => ?_)
      obtain rfl : s.heap = H1 := hB.symm.trans ht
      subst hw
      exact jn2 (f_Mo_lowest a0 a2) (by rw [if_neg c18]) _ hS
    · have c18 := bI_n c18
      refine lv_lload_n hx hb dMo_reckoned_20 rfl (lv_at hl 2 rfl) ?_
      refine lv_goto (tgt := 30) hx hb dMo_reckoned_21 (by decide) ?_
      exact jn2 a0 (by rw [if_pos c18]) _ hS
  refine lv_icmp_ne (tgt := 12) hx hb dMo_reckoned_5 (by decide) (fun c19 => ?_) (fun c19 => ?_)
  · skip
    refine lv_iconst (v := (0 : Int32)) hx hb dMo_reckoned_12 (by decide) ?_
    exact jn1 false (by rw [if_neg c19]) _ hS
  · skip
    refine lv_iconst (v := (1 : Int32)) hx hb dMo_reckoned_8 (by decide) ?_
    refine lv_goto (tgt := 13) hx hb dMo_reckoned_9 (by decide) ?_
    exact jn1 true (by rw [if_pos c19]) _ hS

def f_Mo_isSo (vc : Int32) (a0 : Int64) (a1 : Int64) : Bool :=
  if (f_Mo_n vc) = (1 : Int32) then
    if a0 = a1 then
      true
    else
      false
  else
    if (f_Mo_n vc) = (2 : Int32) then
      (f_Mo_isLess a1 a0)
    else
      if (f_Mo_n vc) = (3 : Int32) then
        if (f_Mo_isLess a0 a1) = true then
          false
        else
          true
      else
        if (f_Mo_n vc) = (4 : Int32) then
          if (a0 &&& a1) = (0 : Int64) then
            false
          else
            true
        else
          if (f_Mo_n vc) = (5 : Int32) then
            if a0 = a1 then
              false
            else
              true
          else
            if (f_Mo_n vc) = (6 : Int32) then
              if a0 ≤ a1 then
                false
              else
                true
            else
              if (f_Mo_n vc) = (7 : Int32) then
                if a0 < a1 then
                  false
                else
                  true
              else
                if (f_Mo_n vc) = (8 : Int32) then
                  if a1 < a0 then
                    false
                  else
                    true
                else
                  if (f_Mo_n vc) = (9 : Int32) then
                    if a1 < a0 then
                      false
                    else
                      true
                  else
                    if (f_Mo_n vc) = (10 : Int32) then
                      (f_Mo_isLess a0 a1)
                    else
                      if (f_Mo_n vc) = (11 : Int32) then
                        if (f_Mo_isLess a1 a0) = true then
                          false
                        else
                          true
                      else
                        if (f_Mo_n vc) = (12 : Int32) then
                          if a1 ≤ a0 then
                            false
                          else
                            true
                        else
                          if a1 < a0 then
                            false
                          else
                            true
set_option maxHeartbeats 4000000 in
set_option maxRecDepth 100000 in
theorem c_Mo_isSo (l : Launch) (G : va_G) (cB cL cI : ClassId) (Hp : Heap) (m0 : Nat) (vth : Int32) (qt : Nat) (vtp : Int32) (qp : Nat) (vpl : Int32) (qr : Nat) (qm : Nat) (vpc : Int32) (vst : Int32) (vc : Int32) (vd : Int32) (vs : Int32) (vo : Int32) (vi : Int32) (vn : Int32) (a0 : Int64) (a1 : Int64) (hP : va_P G vwCl [(m0, .inr (5, [.int vth, .ref qt, .int vtp, .ref qp, .int vpl, .ref qr, .ref qm, .int vpc, .int vst, .int vc, .int vd, .int vs, .int vo, .int vi, .int vn]))] Hp) : Met l yMo_isSo wsMo_isSo ({ frames := 1, cells := 0, slots := 0, locals := 23 }) (va_Pc [.ref m0, .long a0, .long a1] (fun U => U.heap = Hp ∧ va_K G vwCl [(cB, .byte), (cL, .long), (cI, .int)] U)) (va_Qi (fun (r : Int32) (_ : Unit) => r = bI (f_Mo_isSo vc a0 a1)) (fun _ t => t.heap = Hp) (fun _ => False)) 0 0 (fun _ => False) := by
  refine Met.ofW (cc := cMo_isSo) (maxL := 5) (ret := (some .boolean)) (by decide) rfl ?_
  intro p e s m args below meth c s₁ B hml hv
  obtain ⟨rfl, rfl, hK⟩ := hv
  have hx := B.exec
  have hb := B.bytes
  have hr := B.returns
  have hT : ∀ w ∈ tB, w.before _ s = true := fun w h => atoms_spec (ws := wsMo_isSo) B.pre w (List.mem_cons_of_mem _ h)
  have hown : s.vm.findClass "CompiledProgramModel" = some m.cls := findClass_of_methodNamed B.named
  have hlocks := B.notSynchronized
  have hA : ∀ q : Nat, (fun _ : Nat => False) q → False := fun _ h => h
  have hS : va_S (fun _ => False) s.heap s.heap [] := va_S.rf
  have hl := lv_entry ([.ref m0, .long a0, .long a1]) (n := 5) (Nat.le_of_ble_eq_true rfl)
  rw [lg_entry_eq]
  generalize (lg_sl ([.ref m0, .long a0, .long a1]) ++ List.replicate (5 - (lg_sl ([.ref m0, .long a0, .long a1])).length) Slot.unset).toArray = ls at hl ⊢
  have hl : lv_has ls 5 [(0, .ref m0), (1, .long a0), (3, .long a1)] := hl
  refine lv_aload_n hx hb dMo_isSo_0 rfl (lv_at hl 0 rfl) ?_
  have hPc := hP.sub (ws' := [(m0, .inr (5, [.int vth, .ref qt, .int vtp, .ref qp, .int vpl, .ref qr, .ref qm, .int vpc, .int vst, .int vc, .int vd, .int vs, .int vo, .int vi, .int vn]))]) [0] rfl
  refine va_calli (va_runV (As := []) (rest := []) ⟨hx, hb, hml, hown, hT⟩ (c_Mo_n l G cB cL cI s.heap m0 vth qt vtp qp vpl qr qm vpc vst vc vd vs vo vi vn hPc ) (cwV 0 hT (gB_V mw_651 mw_653 ms_6 mw_6 mw_654) rfl rfl rfl (by decide +kernel) ⟨Nat.le_of_ble_eq_true rfl, Nat.le_of_ble_eq_true rfl⟩) ⟨fun a U g mk q => ⟨q.1, q.2.1, va_K.moved (u := U) (U := U.calling g mk a) (Vm.Alike.refl U.vm) q.2.2⟩, va_recv hK hPc (ci := 5) (q0 := 0) rfl rfl, fun U hU hW => ⟨rfl, hU, va_K.moved hW.alike hK⟩⟩ rfl rfl hl.1 rfl (lv_room (Nat.le_of_ble_eq_true rfl)) dMo_isSo_1 ⟨Nat.zero_le _, Nat.zero_le _⟩) hS (fun _ _ h => h.elim) (fun _ h => h.elim) (fun r u t H1 locs ht hvm hw hB hz8 hk8 hS => ?_)
  obtain rfl : s.heap = H1 := hB.symm.trans ht
  subst hw
  by_cases c1 : (f_Mo_n vc) = (1 : Int32)
  · skip
    refine lv_tableIn (tgt := 68) (off := 64) hx hb dMo_isSo_4 (by rw [c1]; decide) (by rw [c1]; decide) (by rw [c1]; rfl) (by decide) ?_
    refine lv_lload_n hx hb dMo_isSo_68 rfl (lv_at hl 1 rfl) ?_
    refine lv_lload_n hx hb dMo_isSo_69 rfl (lv_at hl 2 rfl) ?_
    refine W.lcmp hx hb dMo_isSo_70 ?_
    refine lv_if_ne (tgt := 78) hx hb dMo_isSo_71 (by decide) (fun c2 => ?_) (fun c2 => ?_)
    · have c2 := mt (lg_cmp_eq _ _).mpr c2
      refine lv_iconst (v := (0 : Int32)) hx hb dMo_isSo_78 (by decide) ?_
      exact W.zret (v := (0 : Int32)) hx hb hr rfl (fun t ht hW => ⟨⟨(0 : Int32), (), rfl, (by unfold f_Mo_isSo; rw [if_pos c1, if_neg c2]; try rfl), ht⟩, hS.F ht⟩) hS.2.2 dMo_isSo_79
    · have c2 := (lg_cmp_eq _ _).mp c2
      refine lv_iconst (v := (1 : Int32)) hx hb dMo_isSo_74 (by decide) ?_
      refine lv_goto (tgt := 79) hx hb dMo_isSo_75 (by decide) ?_
      exact W.zret (v := (1 : Int32)) hx hb hr rfl (fun t ht hW => ⟨⟨(1 : Int32), (), rfl, (by unfold f_Mo_isSo; rw [if_pos c1, if_pos c2]; try rfl), ht⟩, hS.F ht⟩) hS.2.2 dMo_isSo_79
  by_cases c3 : (f_Mo_n vc) = (2 : Int32)
  · skip
    refine lv_tableIn (tgt := 80) (off := 76) hx hb dMo_isSo_4 (by rw [c3]; decide) (by rw [c3]; decide) (by rw [c3]; rfl) (by decide) ?_
    refine lv_lload_n hx hb dMo_isSo_80 rfl (lv_at hl 2 rfl) ?_
    refine lv_lload_n hx hb dMo_isSo_81 rfl (lv_at hl 1 rfl) ?_
    have hPc := hP.sub (ws' := []) [] rfl
    refine va_calli (va_runS (As := [.long a1, .long a0]) (rest := []) ⟨hx, hb, hml, hown, hT⟩ (c_Mo_isLess l G cB cL cI s.heap a1 a0 hPc ) (cwS 2 hT (gB_S mw_756 mw_757 mw_6 mw_758) rfl rfl rfl (by decide +kernel) ⟨Nat.le_of_ble_eq_true rfl, Nat.le_of_ble_eq_true rfl⟩) ⟨fun a U g mk q => ⟨q.1, q.2.1, va_K.moved (u := U) (U := U.calling g mk a) (Vm.Alike.refl U.vm) q.2.2⟩, fun U hU hW => ⟨rfl, hU, va_K.moved hW.alike hK⟩⟩ rfl rfl hl.1 rfl (lv_room (Nat.le_of_ble_eq_true rfl)) dMo_isSo_82 ⟨Nat.zero_le _, Nat.zero_le _⟩) hS (fun _ _ h => h.elim) (fun _ h => h.elim) (fun r u t H1 locs ht hvm hw hB hz8 hk8 hS => ?_)
    obtain rfl : s.heap = H1 := hB.symm.trans ht
    subst hw
    exact W.zret (v := (bI (f_Mo_isLess a1 a0))) hx hb hr (bI_nar _) (fun t ht hW => ⟨⟨(bI (f_Mo_isLess a1 a0)), (), rfl, (by unfold f_Mo_isSo; rw [if_neg c1, if_pos c3]; try rfl), ht⟩, hS.F ht⟩) hS.2.2 dMo_isSo_85
  by_cases c4 : (f_Mo_n vc) = (3 : Int32)
  · skip
    refine lv_tableIn (tgt := 86) (off := 82) hx hb dMo_isSo_4 (by rw [c4]; decide) (by rw [c4]; decide) (by rw [c4]; rfl) (by decide) ?_
    refine lv_lload_n hx hb dMo_isSo_86 rfl (lv_at hl 1 rfl) ?_
    refine lv_lload_n hx hb dMo_isSo_87 rfl (lv_at hl 2 rfl) ?_
    have hPc := hP.sub (ws' := []) [] rfl
    refine va_calli (va_runS (As := [.long a0, .long a1]) (rest := []) ⟨hx, hb, hml, hown, hT⟩ (c_Mo_isLess l G cB cL cI s.heap a0 a1 hPc ) (cwS 2 hT (gB_S mw_756 mw_757 mw_6 mw_758) rfl rfl rfl (by decide +kernel) ⟨Nat.le_of_ble_eq_true rfl, Nat.le_of_ble_eq_true rfl⟩) ⟨fun a U g mk q => ⟨q.1, q.2.1, va_K.moved (u := U) (U := U.calling g mk a) (Vm.Alike.refl U.vm) q.2.2⟩, fun U hU hW => ⟨rfl, hU, va_K.moved hW.alike hK⟩⟩ rfl rfl hl.1 rfl (lv_room (Nat.le_of_ble_eq_true rfl)) dMo_isSo_88 ⟨Nat.zero_le _, Nat.zero_le _⟩) hS (fun _ _ h => h.elim) (fun _ h => h.elim) (fun r u t H1 locs ht hvm hw hB hz8 hk8 hS => ?_)
    obtain rfl : s.heap = H1 := hB.symm.trans ht
    subst hw
    refine lv_if_ne (tgt := 98) hx hb dMo_isSo_91 (by decide) (fun c5 => ?_) (fun c5 => ?_)
    · have c5 := bI_n c5
      refine lv_iconst (v := (0 : Int32)) hx hb dMo_isSo_98 (by decide) ?_
      exact W.zret (v := (0 : Int32)) hx hb hr rfl (fun t ht hW => ⟨⟨(0 : Int32), (), rfl, (by unfold f_Mo_isSo; rw [if_neg c1, if_neg c3, if_pos c4, if_pos c5]; try rfl), ht⟩, hS.F ht⟩) hS.2.2 dMo_isSo_99
    · have c5 := bI_z c5
      refine lv_iconst (v := (1 : Int32)) hx hb dMo_isSo_94 (by decide) ?_
      refine lv_goto (tgt := 99) hx hb dMo_isSo_95 (by decide) ?_
      exact W.zret (v := (1 : Int32)) hx hb hr rfl (fun t ht hW => ⟨⟨(1 : Int32), (), rfl, (by unfold f_Mo_isSo; rw [if_neg c1, if_neg c3, if_pos c4, if_neg c5]; try rfl), ht⟩, hS.F ht⟩) hS.2.2 dMo_isSo_99
  by_cases c6 : (f_Mo_n vc) = (4 : Int32)
  · skip
    refine lv_tableIn (tgt := 100) (off := 96) hx hb dMo_isSo_4 (by rw [c6]; decide) (by rw [c6]; decide) (by rw [c6]; rfl) (by decide) ?_
    refine lv_lload_n hx hb dMo_isSo_100 rfl (lv_at hl 1 rfl) ?_
    refine lv_lload_n hx hb dMo_isSo_101 rfl (lv_at hl 2 rfl) ?_
    refine lv_land hx hb dMo_isSo_102 ?_
    refine lv_lconst (v := (0 : Int64)) hx hb dMo_isSo_103 (by decide) ?_
    refine W.lcmp hx hb dMo_isSo_104 ?_
    refine lv_if_eq (tgt := 112) hx hb dMo_isSo_105 (by decide) (fun c7 => ?_) (fun c7 => ?_)
    · have c7 := (lg_cmp_eq _ _).mp c7
      refine lv_iconst (v := (0 : Int32)) hx hb dMo_isSo_112 (by decide) ?_
      exact W.zret (v := (0 : Int32)) hx hb hr rfl (fun t ht hW => ⟨⟨(0 : Int32), (), rfl, (by unfold f_Mo_isSo; rw [if_neg c1, if_neg c3, if_neg c4, if_pos c6, if_pos c7]; try rfl), ht⟩, hS.F ht⟩) hS.2.2 dMo_isSo_113
    · have c7 := mt (lg_cmp_eq _ _).mpr c7
      refine lv_iconst (v := (1 : Int32)) hx hb dMo_isSo_108 (by decide) ?_
      refine lv_goto (tgt := 113) hx hb dMo_isSo_109 (by decide) ?_
      exact W.zret (v := (1 : Int32)) hx hb hr rfl (fun t ht hW => ⟨⟨(1 : Int32), (), rfl, (by unfold f_Mo_isSo; rw [if_neg c1, if_neg c3, if_neg c4, if_pos c6, if_neg c7]; try rfl), ht⟩, hS.F ht⟩) hS.2.2 dMo_isSo_113
  by_cases c8 : (f_Mo_n vc) = (5 : Int32)
  · skip
    refine lv_tableIn (tgt := 114) (off := 110) hx hb dMo_isSo_4 (by rw [c8]; decide) (by rw [c8]; decide) (by rw [c8]; rfl) (by decide) ?_
    refine lv_lload_n hx hb dMo_isSo_114 rfl (lv_at hl 1 rfl) ?_
    refine lv_lload_n hx hb dMo_isSo_115 rfl (lv_at hl 2 rfl) ?_
    refine W.lcmp hx hb dMo_isSo_116 ?_
    refine lv_if_eq (tgt := 124) hx hb dMo_isSo_117 (by decide) (fun c9 => ?_) (fun c9 => ?_)
    · have c9 := (lg_cmp_eq _ _).mp c9
      refine lv_iconst (v := (0 : Int32)) hx hb dMo_isSo_124 (by decide) ?_
      exact W.zret (v := (0 : Int32)) hx hb hr rfl (fun t ht hW => ⟨⟨(0 : Int32), (), rfl, (by unfold f_Mo_isSo; rw [if_neg c1, if_neg c3, if_neg c4, if_neg c6, if_pos c8, if_pos c9]; try rfl), ht⟩, hS.F ht⟩) hS.2.2 dMo_isSo_125
    · have c9 := mt (lg_cmp_eq _ _).mpr c9
      refine lv_iconst (v := (1 : Int32)) hx hb dMo_isSo_120 (by decide) ?_
      refine lv_goto (tgt := 125) hx hb dMo_isSo_121 (by decide) ?_
      exact W.zret (v := (1 : Int32)) hx hb hr rfl (fun t ht hW => ⟨⟨(1 : Int32), (), rfl, (by unfold f_Mo_isSo; rw [if_neg c1, if_neg c3, if_neg c4, if_neg c6, if_pos c8, if_neg c9]; try rfl), ht⟩, hS.F ht⟩) hS.2.2 dMo_isSo_125
  by_cases c10 : (f_Mo_n vc) = (6 : Int32)
  · skip
    refine lv_tableIn (tgt := 126) (off := 122) hx hb dMo_isSo_4 (by rw [c10]; decide) (by rw [c10]; decide) (by rw [c10]; rfl) (by decide) ?_
    refine lv_lload_n hx hb dMo_isSo_126 rfl (lv_at hl 1 rfl) ?_
    refine lv_lload_n hx hb dMo_isSo_127 rfl (lv_at hl 2 rfl) ?_
    refine W.lcmp hx hb dMo_isSo_128 ?_
    refine lv_if_le (tgt := 136) hx hb dMo_isSo_129 (by decide) (fun c11 => ?_) (fun c11 => ?_)
    · have c11 := (lg_cmp_le _ _).mp c11
      refine lv_iconst (v := (0 : Int32)) hx hb dMo_isSo_136 (by decide) ?_
      exact W.zret (v := (0 : Int32)) hx hb hr rfl (fun t ht hW => ⟨⟨(0 : Int32), (), rfl, (by unfold f_Mo_isSo; rw [if_neg c1, if_neg c3, if_neg c4, if_neg c6, if_neg c8, if_pos c10, if_pos c11]; try rfl), ht⟩, hS.F ht⟩) hS.2.2 dMo_isSo_137
    · have c11 := mt (lg_cmp_le _ _).mpr c11
      refine lv_iconst (v := (1 : Int32)) hx hb dMo_isSo_132 (by decide) ?_
      refine lv_goto (tgt := 137) hx hb dMo_isSo_133 (by decide) ?_
      exact W.zret (v := (1 : Int32)) hx hb hr rfl (fun t ht hW => ⟨⟨(1 : Int32), (), rfl, (by unfold f_Mo_isSo; rw [if_neg c1, if_neg c3, if_neg c4, if_neg c6, if_neg c8, if_pos c10, if_neg c11]; try rfl), ht⟩, hS.F ht⟩) hS.2.2 dMo_isSo_137
  by_cases c12 : (f_Mo_n vc) = (7 : Int32)
  · skip
    refine lv_tableIn (tgt := 138) (off := 134) hx hb dMo_isSo_4 (by rw [c12]; decide) (by rw [c12]; decide) (by rw [c12]; rfl) (by decide) ?_
    refine lv_lload_n hx hb dMo_isSo_138 rfl (lv_at hl 1 rfl) ?_
    refine lv_lload_n hx hb dMo_isSo_139 rfl (lv_at hl 2 rfl) ?_
    refine W.lcmp hx hb dMo_isSo_140 ?_
    refine lv_if_lt (tgt := 148) hx hb dMo_isSo_141 (by decide) (fun c13 => ?_) (fun c13 => ?_)
    · have c13 := (lg_cmp_lt _ _).mp c13
      refine lv_iconst (v := (0 : Int32)) hx hb dMo_isSo_148 (by decide) ?_
      exact W.zret (v := (0 : Int32)) hx hb hr rfl (fun t ht hW => ⟨⟨(0 : Int32), (), rfl, (by unfold f_Mo_isSo; rw [if_neg c1, if_neg c3, if_neg c4, if_neg c6, if_neg c8, if_neg c10, if_pos c12, if_pos c13]; try rfl), ht⟩, hS.F ht⟩) hS.2.2 dMo_isSo_149
    · have c13 := mt (lg_cmp_lt _ _).mpr c13
      refine lv_iconst (v := (1 : Int32)) hx hb dMo_isSo_144 (by decide) ?_
      refine lv_goto (tgt := 149) hx hb dMo_isSo_145 (by decide) ?_
      exact W.zret (v := (1 : Int32)) hx hb hr rfl (fun t ht hW => ⟨⟨(1 : Int32), (), rfl, (by unfold f_Mo_isSo; rw [if_neg c1, if_neg c3, if_neg c4, if_neg c6, if_neg c8, if_neg c10, if_pos c12, if_neg c13]; try rfl), ht⟩, hS.F ht⟩) hS.2.2 dMo_isSo_149
  by_cases c14 : (f_Mo_n vc) = (8 : Int32)
  · skip
    refine lv_tableIn (tgt := 182) (off := 178) hx hb dMo_isSo_4 (by rw [c14]; decide) (by rw [c14]; decide) (by rw [c14]; rfl) (by decide) ?_
    refine lv_lload_n hx hb dMo_isSo_182 rfl (lv_at hl 1 rfl) ?_
    refine lv_lload_n hx hb dMo_isSo_183 rfl (lv_at hl 2 rfl) ?_
    refine W.lcmp hx hb dMo_isSo_184 ?_
    refine lv_if_gt (tgt := 192) hx hb dMo_isSo_185 (by decide) (fun c15 => ?_) (fun c15 => ?_)
    · have c15 := (lg_cmp_gt _ _).mp c15
      refine lv_iconst (v := (0 : Int32)) hx hb dMo_isSo_192 (by decide) ?_
      exact W.zret (v := (0 : Int32)) hx hb hr rfl (fun t ht hW => ⟨⟨(0 : Int32), (), rfl, (by unfold f_Mo_isSo; rw [if_neg c1, if_neg c3, if_neg c4, if_neg c6, if_neg c8, if_neg c10, if_neg c12, if_pos c14, if_pos c15]; try rfl), ht⟩, hS.F ht⟩) hS.2.2 dMo_isSo_193
    · have c15 := mt (lg_cmp_gt _ _).mpr c15
      refine lv_iconst (v := (1 : Int32)) hx hb dMo_isSo_188 (by decide) ?_
      refine lv_goto (tgt := 193) hx hb dMo_isSo_189 (by decide) ?_
      exact W.zret (v := (1 : Int32)) hx hb hr rfl (fun t ht hW => ⟨⟨(1 : Int32), (), rfl, (by unfold f_Mo_isSo; rw [if_neg c1, if_neg c3, if_neg c4, if_neg c6, if_neg c8, if_neg c10, if_neg c12, if_pos c14, if_neg c15]; try rfl), ht⟩, hS.F ht⟩) hS.2.2 dMo_isSo_193
  by_cases c16 : (f_Mo_n vc) = (9 : Int32)
  · skip
    refine lv_tableIn (tgt := 182) (off := 178) hx hb dMo_isSo_4 (by rw [c16]; decide) (by rw [c16]; decide) (by rw [c16]; rfl) (by decide) ?_
    refine lv_lload_n hx hb dMo_isSo_182 rfl (lv_at hl 1 rfl) ?_
    refine lv_lload_n hx hb dMo_isSo_183 rfl (lv_at hl 2 rfl) ?_
    refine W.lcmp hx hb dMo_isSo_184 ?_
    refine lv_if_gt (tgt := 192) hx hb dMo_isSo_185 (by decide) (fun c17 => ?_) (fun c17 => ?_)
    · have c17 := (lg_cmp_gt _ _).mp c17
      refine lv_iconst (v := (0 : Int32)) hx hb dMo_isSo_192 (by decide) ?_
      exact W.zret (v := (0 : Int32)) hx hb hr rfl (fun t ht hW => ⟨⟨(0 : Int32), (), rfl, (by unfold f_Mo_isSo; rw [if_neg c1, if_neg c3, if_neg c4, if_neg c6, if_neg c8, if_neg c10, if_neg c12, if_neg c14, if_pos c16, if_pos c17]; try rfl), ht⟩, hS.F ht⟩) hS.2.2 dMo_isSo_193
    · have c17 := mt (lg_cmp_gt _ _).mpr c17
      refine lv_iconst (v := (1 : Int32)) hx hb dMo_isSo_188 (by decide) ?_
      refine lv_goto (tgt := 193) hx hb dMo_isSo_189 (by decide) ?_
      exact W.zret (v := (1 : Int32)) hx hb hr rfl (fun t ht hW => ⟨⟨(1 : Int32), (), rfl, (by unfold f_Mo_isSo; rw [if_neg c1, if_neg c3, if_neg c4, if_neg c6, if_neg c8, if_neg c10, if_neg c12, if_neg c14, if_pos c16, if_neg c17]; try rfl), ht⟩, hS.F ht⟩) hS.2.2 dMo_isSo_193
  by_cases c18 : (f_Mo_n vc) = (10 : Int32)
  · skip
    refine lv_tableIn (tgt := 150) (off := 146) hx hb dMo_isSo_4 (by rw [c18]; decide) (by rw [c18]; decide) (by rw [c18]; rfl) (by decide) ?_
    refine lv_lload_n hx hb dMo_isSo_150 rfl (lv_at hl 1 rfl) ?_
    refine lv_lload_n hx hb dMo_isSo_151 rfl (lv_at hl 2 rfl) ?_
    have hPc := hP.sub (ws' := []) [] rfl
    refine va_calli (va_runS (As := [.long a0, .long a1]) (rest := []) ⟨hx, hb, hml, hown, hT⟩ (c_Mo_isLess l G cB cL cI s.heap a0 a1 hPc ) (cwS 2 hT (gB_S mw_756 mw_757 mw_6 mw_758) rfl rfl rfl (by decide +kernel) ⟨Nat.le_of_ble_eq_true rfl, Nat.le_of_ble_eq_true rfl⟩) ⟨fun a U g mk q => ⟨q.1, q.2.1, va_K.moved (u := U) (U := U.calling g mk a) (Vm.Alike.refl U.vm) q.2.2⟩, fun U hU hW => ⟨rfl, hU, va_K.moved hW.alike hK⟩⟩ rfl rfl hl.1 rfl (lv_room (Nat.le_of_ble_eq_true rfl)) dMo_isSo_152 ⟨Nat.zero_le _, Nat.zero_le _⟩) hS (fun _ _ h => h.elim) (fun _ h => h.elim) (fun r u t H1 locs ht hvm hw hB hz8 hk8 hS => ?_)
    obtain rfl : s.heap = H1 := hB.symm.trans ht
    subst hw
    exact W.zret (v := (bI (f_Mo_isLess a0 a1))) hx hb hr (bI_nar _) (fun t ht hW => ⟨⟨(bI (f_Mo_isLess a0 a1)), (), rfl, (by unfold f_Mo_isSo; rw [if_neg c1, if_neg c3, if_neg c4, if_neg c6, if_neg c8, if_neg c10, if_neg c12, if_neg c14, if_neg c16, if_pos c18]; try rfl), ht⟩, hS.F ht⟩) hS.2.2 dMo_isSo_155
  by_cases c19 : (f_Mo_n vc) = (11 : Int32)
  · skip
    refine lv_tableIn (tgt := 156) (off := 152) hx hb dMo_isSo_4 (by rw [c19]; decide) (by rw [c19]; decide) (by rw [c19]; rfl) (by decide) ?_
    refine lv_lload_n hx hb dMo_isSo_156 rfl (lv_at hl 2 rfl) ?_
    refine lv_lload_n hx hb dMo_isSo_157 rfl (lv_at hl 1 rfl) ?_
    have hPc := hP.sub (ws' := []) [] rfl
    refine va_calli (va_runS (As := [.long a1, .long a0]) (rest := []) ⟨hx, hb, hml, hown, hT⟩ (c_Mo_isLess l G cB cL cI s.heap a1 a0 hPc ) (cwS 2 hT (gB_S mw_756 mw_757 mw_6 mw_758) rfl rfl rfl (by decide +kernel) ⟨Nat.le_of_ble_eq_true rfl, Nat.le_of_ble_eq_true rfl⟩) ⟨fun a U g mk q => ⟨q.1, q.2.1, va_K.moved (u := U) (U := U.calling g mk a) (Vm.Alike.refl U.vm) q.2.2⟩, fun U hU hW => ⟨rfl, hU, va_K.moved hW.alike hK⟩⟩ rfl rfl hl.1 rfl (lv_room (Nat.le_of_ble_eq_true rfl)) dMo_isSo_158 ⟨Nat.zero_le _, Nat.zero_le _⟩) hS (fun _ _ h => h.elim) (fun _ h => h.elim) (fun r u t H1 locs ht hvm hw hB hz8 hk8 hS => ?_)
    obtain rfl : s.heap = H1 := hB.symm.trans ht
    subst hw
    refine lv_if_ne (tgt := 168) hx hb dMo_isSo_161 (by decide) (fun c20 => ?_) (fun c20 => ?_)
    · have c20 := bI_n c20
      refine lv_iconst (v := (0 : Int32)) hx hb dMo_isSo_168 (by decide) ?_
      exact W.zret (v := (0 : Int32)) hx hb hr rfl (fun t ht hW => ⟨⟨(0 : Int32), (), rfl, (by unfold f_Mo_isSo; rw [if_neg c1, if_neg c3, if_neg c4, if_neg c6, if_neg c8, if_neg c10, if_neg c12, if_neg c14, if_neg c16, if_neg c18, if_pos c19, if_pos c20]; try rfl), ht⟩, hS.F ht⟩) hS.2.2 dMo_isSo_169
    · have c20 := bI_z c20
      refine lv_iconst (v := (1 : Int32)) hx hb dMo_isSo_164 (by decide) ?_
      refine lv_goto (tgt := 169) hx hb dMo_isSo_165 (by decide) ?_
      exact W.zret (v := (1 : Int32)) hx hb hr rfl (fun t ht hW => ⟨⟨(1 : Int32), (), rfl, (by unfold f_Mo_isSo; rw [if_neg c1, if_neg c3, if_neg c4, if_neg c6, if_neg c8, if_neg c10, if_neg c12, if_neg c14, if_neg c16, if_neg c18, if_pos c19, if_neg c20]; try rfl), ht⟩, hS.F ht⟩) hS.2.2 dMo_isSo_169
  by_cases c21 : (f_Mo_n vc) = (12 : Int32)
  · skip
    refine lv_tableIn (tgt := 170) (off := 166) hx hb dMo_isSo_4 (by rw [c21]; decide) (by rw [c21]; decide) (by rw [c21]; rfl) (by decide) ?_
    refine lv_lload_n hx hb dMo_isSo_170 rfl (lv_at hl 1 rfl) ?_
    refine lv_lload_n hx hb dMo_isSo_171 rfl (lv_at hl 2 rfl) ?_
    refine W.lcmp hx hb dMo_isSo_172 ?_
    refine lv_if_ge (tgt := 180) hx hb dMo_isSo_173 (by decide) (fun c22 => ?_) (fun c22 => ?_)
    · have c22 := (lg_cmp_ge _ _).mp c22
      refine lv_iconst (v := (0 : Int32)) hx hb dMo_isSo_180 (by decide) ?_
      exact W.zret (v := (0 : Int32)) hx hb hr rfl (fun t ht hW => ⟨⟨(0 : Int32), (), rfl, (by unfold f_Mo_isSo; rw [if_neg c1, if_neg c3, if_neg c4, if_neg c6, if_neg c8, if_neg c10, if_neg c12, if_neg c14, if_neg c16, if_neg c18, if_neg c19, if_pos c21, if_pos c22]; try rfl), ht⟩, hS.F ht⟩) hS.2.2 dMo_isSo_181
    · have c22 := mt (lg_cmp_ge _ _).mpr c22
      refine lv_iconst (v := (1 : Int32)) hx hb dMo_isSo_176 (by decide) ?_
      refine lv_goto (tgt := 181) hx hb dMo_isSo_177 (by decide) ?_
      exact W.zret (v := (1 : Int32)) hx hb hr rfl (fun t ht hW => ⟨⟨(1 : Int32), (), rfl, (by unfold f_Mo_isSo; rw [if_neg c1, if_neg c3, if_neg c4, if_neg c6, if_neg c8, if_neg c10, if_neg c12, if_neg c14, if_neg c16, if_neg c18, if_neg c19, if_pos c21, if_neg c22]; try rfl), ht⟩, hS.F ht⟩) hS.2.2 dMo_isSo_181
  refine lv_tableOut (tgt := 182) hx hb dMo_isSo_4 (by have h0 := lv_neT c1 (a := 1) (by decide); have h1 := lv_neT c3 (a := 2) (by decide); have h2 := lv_neT c4 (a := 3) (by decide); have h3 := lv_neT c6 (a := 4) (by decide); have h4 := lv_neT c8 (a := 5) (by decide); have h5 := lv_neT c10 (a := 6) (by decide); have h6 := lv_neT c12 (a := 7) (by decide); have h7 := lv_neT c14 (a := 8) (by decide); have h8 := lv_neT c16 (a := 9) (by decide); have h9 := lv_neT c18 (a := 10) (by decide); have h10 := lv_neT c19 (a := 11) (by decide); have h11 := lv_neT c21 (a := 12) (by decide); omega) (by decide) ?_
  refine lv_lload_n hx hb dMo_isSo_182 rfl (lv_at hl 1 rfl) ?_
  refine lv_lload_n hx hb dMo_isSo_183 rfl (lv_at hl 2 rfl) ?_
  refine W.lcmp hx hb dMo_isSo_184 ?_
  refine lv_if_gt (tgt := 192) hx hb dMo_isSo_185 (by decide) (fun c23 => ?_) (fun c23 => ?_)
  · have c23 := (lg_cmp_gt _ _).mp c23
    refine lv_iconst (v := (0 : Int32)) hx hb dMo_isSo_192 (by decide) ?_
    exact W.zret (v := (0 : Int32)) hx hb hr rfl (fun t ht hW => ⟨⟨(0 : Int32), (), rfl, (by unfold f_Mo_isSo; rw [if_neg c1, if_neg c3, if_neg c4, if_neg c6, if_neg c8, if_neg c10, if_neg c12, if_neg c14, if_neg c16, if_neg c18, if_neg c19, if_neg c21, if_pos c23]; try rfl), ht⟩, hS.F ht⟩) hS.2.2 dMo_isSo_193
  · have c23 := mt (lg_cmp_gt _ _).mpr c23
    refine lv_iconst (v := (1 : Int32)) hx hb dMo_isSo_188 (by decide) ?_
    refine lv_goto (tgt := 193) hx hb dMo_isSo_189 (by decide) ?_
    exact W.zret (v := (1 : Int32)) hx hb hr rfl (fun t ht hW => ⟨⟨(1 : Int32), (), rfl, (by unfold f_Mo_isSo; rw [if_neg c1, if_neg c3, if_neg c4, if_neg c6, if_neg c8, if_neg c10, if_neg c12, if_neg c14, if_neg c16, if_neg c18, if_neg c19, if_neg c21, if_neg c23]; try rfl), ht⟩, hS.F ht⟩) hS.2.2 dMo_isSo_193
