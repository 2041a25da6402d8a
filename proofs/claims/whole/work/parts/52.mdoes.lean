def f_Mo_arithmetic (vc : Int32) (vd : Int32) (vs : Int32) (vo : Int32) (vi : Int32) (gr : Nat → Int64) : (Nat → Int64) :=
  if (f_Mo_n vc) = (13 : Int32) then
    ((vp_updL gr vd.toNatClampNeg (if (if (f_Mo_kind vc) = (7 : Int32) then true else false) = true then (f_Mo_turned (gr vd.toNatClampNeg) vi) else (if (f_Mo_bit3 vc) = true then (f_Mo_turned (gr vd.toNatClampNeg) vi) else (f_Mo_lowest (gr vd.toNatClampNeg) vi)))))
  else
    if (if (f_Mo_kind vc) = (7 : Int32) then true else false) = true then
      ((vp_updL gr vd.toNatClampNeg (f_Mo_reckoned vc vo (gr vd.toNatClampNeg) (if (f_Mo_bit3 vc) = true then (gr vs.toNatClampNeg) else ((vi).toInt64)) (64 : Int32))))
    else
      ((vp_updL gr vd.toNatClampNeg (f_Mo_lowest (f_Mo_reckoned vc vo (f_Mo_signed (gr vd.toNatClampNeg) (32 : Int32)) (f_Mo_signed (if (f_Mo_bit3 vc) = true then (gr vs.toNatClampNeg) else ((vi).toInt64)) (32 : Int32)) (32 : Int32)) (32 : Int32))))
set_option maxHeartbeats 4000000 in
set_option maxRecDepth 100000 in
theorem c_Mo_arithmetic (l : Launch) (G : va_G) (cB cL cI : ClassId) (Hp : Heap) (m0 : Nat) (vth : Int32) (qt : Nat) (vtp : Int32) (qp : Nat) (vpl : Int32) (qr : Nat) (qm : Nat) (vpc : Int32) (vst : Int32) (vc : Int32) (vd : Int32) (vs : Int32) (vo : Int32) (vi : Int32) (vn : Int32) (gr : Nat → Int64) (hP : va_P G vwCl [(m0, .inr (5, [.int vth, .ref qt, .int vtp, .ref qp, .int vpl, .ref qr, .ref qm, .int vpc, .int vst, .int vc, .int vd, .int vs, .int vo, .int vi, .int vn])), (qr, .inl (cL, 11, .inr (.inl gr)))] Hp) (hD : va_D (fun _ => True) [(m0, .inr (5, [.int vth, .ref qt, .int vtp, .ref qp, .int vpl, .ref qr, .ref qm, .int vpc, .int vst, .int vc, .int vd, .int vs, .int vo, .int vi, .int vn])), (qr, .inl (cL, 11, .inr (.inl gr)))]) (hd : vp_in vd 11) (hs : vp_in vs 11) (hi : (f_Mo_n vc) = (13 : Int32) → (vi = 16 ∨ vi = 32 ∨ vi = 64)) : Met l yMo_arithmetic wsMo_arithmetic ({ frames := 4, cells := 0, slots := 0, locals := 111 }) (va_Pc [.ref m0] (fun U => U.heap = Hp ∧ va_K G vwCl [(cB, .byte), (cL, .long), (cI, .int)] U)) (va_Qv (fun (u : (Nat → Int64)) => u = (f_Mo_arithmetic vc vd vs vo vi gr)) (fun (u : (Nat → Int64)) t => va_P G vwCl [(m0, .inr (5, [.int vth, .ref qt, .int vtp, .ref qp, .int vpl, .ref qr, .ref qm, .int vpc, .int vst, .int vc, .int vd, .int vs, .int vo, .int vi, .int vn])), (qr, .inl (cL, 11, .inr (.inl (u))))] t.heap ∧ va_D (va_A [(m0, .inr (5, [.int vth, .ref qt, .int vtp, .ref qp, .int vpl, .ref qr, .ref qm, .int vpc, .int vst, .int vc, .int vd, .int vs, .int vo, .int vi, .int vn])), (qr, .inl (cL, 11, .inr (.inl gr)))] Hp.size) [(m0, .inr (5, [.int vth, .ref qt, .int vtp, .ref qp, .int vpl, .ref qr, .ref qm, .int vpc, .int vst, .int vc, .int vd, .int vs, .int vo, .int vi, .int vn])), (qr, .inl (cL, 11, .inr (.inl (u))))]) (va_A [(m0, .inr (5, [.int vth, .ref qt, .int vtp, .ref qp, .int vpl, .ref qr, .ref qm, .int vpc, .int vst, .int vc, .int vd, .int vs, .int vo, .int vi, .int vn])), (qr, .inl (cL, 11, .inr (.inl gr)))] Hp.size)) 0 0 (va_A [(m0, .inr (5, [.int vth, .ref qt, .int vtp, .ref qp, .int vpl, .ref qr, .ref qm, .int vpc, .int vst, .int vc, .int vd, .int vs, .int vo, .int vi, .int vn])), (qr, .inl (cL, 11, .inr (.inl gr)))] Hp.size) := by
  refine Met.ofW (cc := cMo_arithmetic) (maxL := 6) (ret := none) (by decide) rfl ?_
  intro p e s m args below meth c s₁ B hml hv
  obtain ⟨rfl, rfl, hK⟩ := hv
  have hx := B.exec
  have hb := B.bytes
  have hr := B.returns
  have hT : ∀ w ∈ tB, w.before _ s = true := fun w h => atoms_spec (ws := wsMo_arithmetic) B.pre w (List.mem_cons_of_mem _ h)
  have hown : s.vm.findClass "CompiledProgramModel" = some m.cls := findClass_of_methodNamed B.named
  have hlocks := B.notSynchronized
  have hD := hD.self (sz := s.heap.size)
  generalize hAe : va_A [(m0, .inr (5, [.int vth, .ref qt, .int vtp, .ref qp, .int vpl, .ref qr, .ref qm, .int vpc, .int vst, .int vc, .int vd, .int vs, .int vo, .int vi, .int vn])), (qr, .inl (cL, 11, .inr (.inl gr)))] s.heap.size = A at hD ⊢
  have hA : ∀ q : Nat, s.heap.size ≤ q → A q := fun q h => by rw [← hAe]; exact Or.inr h
  have hS : va_S A s.heap s.heap [] := va_S.rf
  have hl := lv_entry ([.ref m0]) (n := 6) (Nat.le_of_ble_eq_true rfl)
  rw [lg_entry_eq]
  generalize (lg_sl ([.ref m0]) ++ List.replicate (6 - (lg_sl ([.ref m0])).length) Slot.unset).toArray = ls at hl ⊢
  have hl : lv_has ls 6 [(0, .ref m0)] := hl
  refine lv_aload_n hx hb dMo_arithmetic_0 rfl (lv_at hl 0 rfl) ?_
  have hPc := hP.sub (ws' := [(m0, .inr (5, [.int vth, .ref qt, .int vtp, .ref qp, .int vpl, .ref qr, .ref qm, .int vpc, .int vst, .int vc, .int vd, .int vs, .int vo, .int vi, .int vn]))]) [0] rfl
  refine va_calli (va_runV (As := []) (rest := []) ⟨hx, hb, hml, hown, hT⟩ (c_Mo_kind l G cB cL cI s.heap m0 vth qt vtp qp vpl qr qm vpc vst vc vd vs vo vi vn hPc ) (cwV 0 hT (gB_V mw_643 mw_645 ms_4 mw_6 mw_646) rfl rfl rfl (by decide +kernel) ⟨Nat.le_of_ble_eq_true rfl, Nat.le_of_ble_eq_true rfl⟩) ⟨fun a U g mk q => ⟨q.1, q.2.1, va_K.moved (u := U) (U := U.calling g mk a) (Vm.Alike.refl U.vm) q.2.2⟩, va_recv hK hPc (ci := 5) (q0 := 0) rfl rfl, fun U hU hW => ⟨rfl, hU, va_K.moved hW.alike hK⟩⟩ rfl rfl hl.1 rfl (lv_room (Nat.le_of_ble_eq_true rfl)) dMo_arithmetic_1 ⟨Nat.zero_le _, Nat.zero_le _⟩) hS (fun _ _ h => h.elim) (fun _ h => h.elim) (fun r u t H1 locs ht hvm hw hB hz8 hk8 hS => ?_)
  obtain rfl : s.heap = H1 := hB.symm.trans ht
  subst hw
  refine lv_bipush (v := (7 : Int32)) hx hb dMo_arithmetic_4 (by decide) ?_
  have jn1 : ∀ (x1 : Bool), x1 = (if (f_Mo_kind vc) = (7 : Int32) then true else false) → ∀ (locs : List Loc), va_S A s.heap s.heap locs → W p l e (headSpec wsMo_arithmetic ({ frames := 4, cells := 0, slots := 0, locals := 111 })).room s m ([.ref m0] : List Value).toArray below meth c s.heap locs 0 0 (MQ below (va_Qv (fun (u : (Nat → Int64)) => u = (f_Mo_arithmetic vc vd vs vo vi gr)) (fun (u : (Nat → Int64)) t => va_P G vwCl [(m0, .inr (5, [.int vth, .ref qt, .int vtp, .ref qp, .int vpl, .ref qr, .ref qm, .int vpc, .int vst, .int vc, .int vd, .int vs, .int vo, .int vi, .int vn])), (qr, .inl (cL, 11, .inr (.inl (u))))] t.heap ∧ va_D (A) [(m0, .inr (5, [.int vth, .ref qt, .int vtp, .ref qp, .int vpl, .ref qr, .ref qm, .int vpc, .int vst, .int vc, .int vd, .int vs, .int vo, .int vi, .int vn])), (qr, .inl (cL, 11, .inr (.inl (u))))]) (A)) ([.ref m0] : List Value).toArray s 0 0 A) (F0 m 14 ls [.int (bI x1)]) := by
    intro x1 hx1 locs hS
    subst hx1
    refine lv_istore_n (lv' := [(1, .int (bI (if (f_Mo_kind vc) = (7 : Int32) then true else false))), (0, .ref m0)]) hx hb dMo_arithmetic_14 rfl hl (by decide) rfl (fun ls hl => ?_)
    refine lv_aload_n hx hb dMo_arithmetic_15 rfl (lv_at hl 1 rfl) ?_
    refine va_get (D := G) (ci := 5) (v := .ref qr) (C := RMo) (T := TMo) (N := 15) hx hb hT inMo hown hK hP 0 rfl rfl 5 (by decide) (hT _ mw_570) (fun _ h9 => h9) rfl dMo_arithmetic_16 ?_
    refine lv_aload_n hx hb dMo_arithmetic_19 rfl (lv_at hl 1 rfl) ?_
    refine va_get (D := G) (ci := 5) (v := .int vd) (C := RMo) (T := TMo) (N := 15) hx hb hT inMo hown hK hP 0 rfl rfl 10 (by decide) (hT _ mw_575) (fun _ h9 => h9) rfl dMo_arithmetic_20 ?_
    refine va_lald hx hb hK hP 1 1 rfl rfl hd dMo_arithmetic_23 ?_
    refine lv_lstore_n (lv' := [(2, .long (gr vd.toNatClampNeg)), (1, .int (bI (if (f_Mo_kind vc) = (7 : Int32) then true else false))), (0, .ref m0)]) hx hb dMo_arithmetic_24 rfl hl (by decide) rfl (fun ls hl => ?_)
    refine lv_aload_n hx hb dMo_arithmetic_25 rfl (lv_at hl 2 rfl) ?_
    have hPc := hP.sub (ws' := [(m0, .inr (5, [.int vth, .ref qt, .int vtp, .ref qp, .int vpl, .ref qr, .ref qm, .int vpc, .int vst, .int vc, .int vd, .int vs, .int vo, .int vi, .int vn]))]) [0] rfl
    refine va_calli (va_runV (As := []) (rest := []) ⟨hx, hb, hml, hown, hT⟩ (c_Mo_bit3 l G cB cL cI s.heap m0 vth qt vtp qp vpl qr qm vpc vst vc vd vs vo vi vn hPc ) (cwV 0 hT (gB_V mw_655 mw_657 ms_7 mw_6 mw_658) rfl rfl rfl (by decide +kernel) ⟨Nat.le_of_ble_eq_true rfl, Nat.le_of_ble_eq_true rfl⟩) ⟨fun a U g mk q => ⟨q.1, q.2.1, va_K.moved (u := U) (U := U.calling g mk a) (Vm.Alike.refl U.vm) q.2.2⟩, va_recv hK hPc (ci := 5) (q0 := 0) rfl rfl, fun U hU hW => ⟨rfl, hU, va_K.moved hW.alike hK⟩⟩ rfl rfl hl.1 rfl (lv_room (Nat.le_of_ble_eq_true rfl)) dMo_arithmetic_26 ⟨Nat.zero_le _, Nat.zero_le _⟩) hS (fun _ _ h => h.elim) (fun _ h => h.elim) (fun r u t H1 locs ht hvm hw hB hz8 hk8 hS => ?_)
    obtain rfl : s.heap = H1 := hB.symm.trans ht
    subst hw
    have jn2 : ∀ (x2 : Int64), x2 = (if (f_Mo_bit3 vc) = true then (gr vs.toNatClampNeg) else ((vi).toInt64)) → ∀ (locs : List Loc), va_S A s.heap s.heap locs → W p l e (headSpec wsMo_arithmetic ({ frames := 4, cells := 0, slots := 0, locals := 111 })).room s m ([.ref m0] : List Value).toArray below meth c s.heap locs 0 0 (MQ below (va_Qv (fun (u : (Nat → Int64)) => u = (f_Mo_arithmetic vc vd vs vo vi gr)) (fun (u : (Nat → Int64)) t => va_P G vwCl [(m0, .inr (5, [.int vth, .ref qt, .int vtp, .ref qp, .int vpl, .ref qr, .ref qm, .int vpc, .int vst, .int vc, .int vd, .int vs, .int vo, .int vi, .int vn])), (qr, .inl (cL, 11, .inr (.inl (u))))] t.heap ∧ va_D (A) [(m0, .inr (5, [.int vth, .ref qt, .int vtp, .ref qp, .int vpl, .ref qr, .ref qm, .int vpc, .int vst, .int vc, .int vd, .int vs, .int vo, .int vi, .int vn])), (qr, .inl (cL, 11, .inr (.inl (u))))]) (A)) ([.ref m0] : List Value).toArray s 0 0 A) (F0 m 49 ls [.long x2]) := by
      intro x2 hx2 locs hS
      subst hx2
      refine lv_lstore (lv' := [(4, .long (if (f_Mo_bit3 vc) = true then (gr vs.toNatClampNeg) else ((vi).toInt64))), (2, .long (gr vd.toNatClampNeg)), (1, .int (bI (if (f_Mo_kind vc) = (7 : Int32) then true else false))), (0, .ref m0)]) hx hb dMo_arithmetic_49 hl (by decide) rfl (fun ls hl => ?_)
      refine lv_aload_n hx hb dMo_arithmetic_51 rfl (lv_at hl 3 rfl) ?_
      have hPc := hP.sub (ws' := [(m0, .inr (5, [.int vth, .ref qt, .int vtp, .ref qp, .int vpl, .ref qr, .ref qm, .int vpc, .int vst, .int vc, .int vd, .int vs, .int vo, .int vi, .int vn]))]) [0] rfl
      refine va_calli (va_runV (As := []) (rest := []) ⟨hx, hb, hml, hown, hT⟩ (c_Mo_n l G cB cL cI s.heap m0 vth qt vtp qp vpl qr qm vpc vst vc vd vs vo vi vn hPc ) (cwV 0 hT (gB_V mw_651 mw_653 ms_6 mw_6 mw_654) rfl rfl rfl (by decide +kernel) ⟨Nat.le_of_ble_eq_true rfl, Nat.le_of_ble_eq_true rfl⟩) ⟨fun a U g mk q => ⟨q.1, q.2.1, va_K.moved (u := U) (U := U.calling g mk a) (Vm.Alike.refl U.vm) q.2.2⟩, va_recv hK hPc (ci := 5) (q0 := 0) rfl rfl, fun U hU hW => ⟨rfl, hU, va_K.moved hW.alike hK⟩⟩ rfl rfl hl.1 rfl (lv_room (Nat.le_of_ble_eq_true rfl)) dMo_arithmetic_52 ⟨Nat.zero_le _, Nat.zero_le _⟩) hS (fun _ _ h => h.elim) (fun _ h => h.elim) (fun r u t H1 locs ht hvm hw hB hz8 hk8 hS => ?_)
      obtain rfl : s.heap = H1 := hB.symm.trans ht
      subst hw
      refine lv_bipush (v := (13 : Int32)) hx hb dMo_arithmetic_55 (by decide) ?_
      refine lv_icmp_ne (tgt := 102) hx hb dMo_arithmetic_57 (by decide) (fun c3 => ?_) (fun c3 => ?_)
      · skip
        refine lv_iload_n hx hb dMo_arithmetic_102 rfl (lv_at hl 2 rfl) ?_
        refine lv_if_eq (tgt := 127) hx hb dMo_arithmetic_103 (by decide) (fun c4 => ?_) (fun c4 => ?_)
        · have c4 := bI_z c4
          refine lv_aload_n hx hb dMo_arithmetic_127 rfl (lv_at hl 3 rfl) ?_
          refine va_get (D := G) (ci := 5) (v := .ref qr) (C := RMo) (T := TMo) (N := 15) hx hb hT inMo hown hK hP 0 rfl rfl 5 (by decide) (hT _ mw_570) (fun _ h9 => h9) rfl dMo_arithmetic_128 ?_
          refine lv_aload_n hx hb dMo_arithmetic_131 rfl (lv_at hl 3 rfl) ?_
          refine va_get (D := G) (ci := 5) (v := .int vd) (C := RMo) (T := TMo) (N := 15) hx hb hT inMo hown hK hP 0 rfl rfl 10 (by decide) (hT _ mw_575) (fun _ h9 => h9) rfl dMo_arithmetic_132 ?_
          refine lv_aload_n hx hb dMo_arithmetic_135 rfl (lv_at hl 3 rfl) ?_
          refine lv_lload_n hx hb dMo_arithmetic_136 rfl (lv_at hl 1 rfl) ?_
          refine lv_bipush (v := (32 : Int32)) hx hb dMo_arithmetic_137 (by decide) ?_
          have hPc := hP.sub (ws' := []) [] rfl
          refine va_calll (va_runS (As := [.long (gr vd.toNatClampNeg), .int (32 : Int32)]) (rest := [.ref m0, .int vd, .ref qr]) ⟨hx, hb, hml, hown, hT⟩ (c_Mo_signed l G cB cL cI s.heap (gr vd.toNatClampNeg) (32 : Int32) hPc ) (cwS 2 hT (gB_S mw_759 mw_760 mw_6 mw_761) rfl rfl rfl (by decide +kernel) ⟨Nat.le_of_ble_eq_true rfl, Nat.le_of_ble_eq_true rfl⟩) ⟨fun a U g mk q => ⟨q.1, q.2.1, va_K.moved (u := U) (U := U.calling g mk a) (Vm.Alike.refl U.vm) q.2.2⟩, fun U hU hW => ⟨rfl, hU, va_K.moved hW.alike hK⟩⟩ rfl rfl hl.1 rfl (lv_room (Nat.le_of_ble_eq_true rfl)) dMo_arithmetic_139 ⟨Nat.zero_le _, Nat.zero_le _⟩) hS (fun _ _ h => h.elim) (fun _ h => h.elim) (fun r u t H1 locs ht hvm hw hB hz8 hk8 hS => ?_)
          obtain rfl : s.heap = H1 := hB.symm.trans ht
          subst hw
          refine lv_lload hx hb dMo_arithmetic_142 (lv_at hl 0 rfl) ?_
          refine lv_bipush (v := (32 : Int32)) hx hb dMo_arithmetic_144 (by decide) ?_
          have hPc := hP.sub (ws' := []) [] rfl
          refine va_calll (va_runS (As := [.long (if (f_Mo_bit3 vc) = true then (gr vs.toNatClampNeg) else ((vi).toInt64)), .int (32 : Int32)]) (rest := [.long (f_Mo_signed (gr vd.toNatClampNeg) (32 : Int32)), .ref m0, .int vd, .ref qr]) ⟨hx, hb, hml, hown, hT⟩ (c_Mo_signed l G cB cL cI s.heap (if (f_Mo_bit3 vc) = true then (gr vs.toNatClampNeg) else ((vi).toInt64)) (32 : Int32) hPc ) (cwS 2 hT (gB_S mw_759 mw_760 mw_6 mw_761) rfl rfl rfl (by decide +kernel) ⟨Nat.le_of_ble_eq_true rfl, Nat.le_of_ble_eq_true rfl⟩) ⟨fun a U g mk q => ⟨q.1, q.2.1, va_K.moved (u := U) (U := U.calling g mk a) (Vm.Alike.refl U.vm) q.2.2⟩, fun U hU hW => ⟨rfl, hU, va_K.moved hW.alike hK⟩⟩ rfl rfl hl.1 rfl (lv_room (Nat.le_of_ble_eq_true rfl)) dMo_arithmetic_146 ⟨Nat.zero_le _, Nat.zero_le _⟩) hS (fun _ _ h => h.elim) (fun _ h => h.elim) (fun r u t H1 locs ht hvm hw hB hz8 hk8 hS => ?_)
          obtain rfl : s.heap = H1 := hB.symm.trans ht
          subst hw
          refine lv_bipush (v := (32 : Int32)) hx hb dMo_arithmetic_149 (by decide) ?_
          have hPc := hP.sub (ws' := [(m0, .inr (5, [.int vth, .ref qt, .int vtp, .ref qp, .int vpl, .ref qr, .ref qm, .int vpc, .int vst, .int vc, .int vd, .int vs, .int vo, .int vi, .int vn]))]) [0] rfl
          refine va_calll (va_runV (As := [.long (f_Mo_signed (gr vd.toNatClampNeg) (32 : Int32)), .long (f_Mo_signed (if (f_Mo_bit3 vc) = true then (gr vs.toNatClampNeg) else ((vi).toInt64)) (32 : Int32)), .int (32 : Int32)]) (rest := [.int vd, .ref qr]) ⟨hx, hb, hml, hown, hT⟩ (c_Mo_reckoned l G cB cL cI s.heap m0 vth qt vtp qp vpl qr qm vpc vst vc vd vs vo vi vn (f_Mo_signed (gr vd.toNatClampNeg) (32 : Int32)) (f_Mo_signed (if (f_Mo_bit3 vc) = true then (gr vs.toNatClampNeg) else ((vi).toInt64)) (32 : Int32)) (32 : Int32) hPc ) (cwV 3 hT (gB_V mw_745 mw_747 ms_20 mw_6 mw_748) rfl rfl rfl (by decide +kernel) ⟨Nat.le_of_ble_eq_true rfl, Nat.le_of_ble_eq_true rfl⟩) ⟨fun a U g mk q => ⟨q.1, q.2.1, va_K.moved (u := U) (U := U.calling g mk a) (Vm.Alike.refl U.vm) q.2.2⟩, va_recv hK hPc (ci := 5) (q0 := 0) rfl rfl, fun U hU hW => ⟨rfl, hU, va_K.moved hW.alike hK⟩⟩ rfl rfl hl.1 rfl (lv_room (Nat.le_of_ble_eq_true rfl)) dMo_arithmetic_151 ⟨Nat.zero_le _, Nat.zero_le _⟩) hS (fun _ _ h => h.elim) (fun _ h => h.elim) (fun r u t H1 locs ht hvm hw hB hz8 hk8 hS => ?_)
          obtain rfl : s.heap = H1 := hB.symm.trans ht
          subst hw
          refine lv_bipush (v := (32 : Int32)) hx hb dMo_arithmetic_154 (by decide) ?_
          have hPc := hP.sub (ws' := []) [] rfl
          refine va_calll (va_runS (As := [.long (f_Mo_reckoned vc vo (f_Mo_signed (gr vd.toNatClampNeg) (32 : Int32)) (f_Mo_signed (if (f_Mo_bit3 vc) = true then (gr vs.toNatClampNeg) else ((vi).toInt64)) (32 : Int32)) (32 : Int32)), .int (32 : Int32)]) (rest := [.int vd, .ref qr]) ⟨hx, hb, hml, hown, hT⟩ (c_Mo_lowest l G cB cL cI s.heap (f_Mo_reckoned vc vo (f_Mo_signed (gr vd.toNatClampNeg) (32 : Int32)) (f_Mo_signed (if (f_Mo_bit3 vc) = true then (gr vs.toNatClampNeg) else ((vi).toInt64)) (32 : Int32)) (32 : Int32)) (32 : Int32) hPc ) (cwS 2 hT (gB_S mw_742 mw_743 mw_6 mw_744) rfl rfl rfl (by decide +kernel) ⟨Nat.le_of_ble_eq_true rfl, Nat.le_of_ble_eq_true rfl⟩) ⟨fun a U g mk q => ⟨q.1, q.2.1, va_K.moved (u := U) (U := U.calling g mk a) (Vm.Alike.refl U.vm) q.2.2⟩, fun U hU hW => ⟨rfl, hU, va_K.moved hW.alike hK⟩⟩ rfl rfl hl.1 rfl (lv_room (Nat.le_of_ble_eq_true rfl)) dMo_arithmetic_156 ⟨Nat.zero_le _, Nat.zero_le _⟩) hS (fun _ _ h => h.elim) (fun _ h => h.elim) (fun r u t H1 locs ht hvm hw hB hz8 hk8 hS => ?_)
          obtain rfl : s.heap = H1 := hB.symm.trans ht
          subst hw
          refine va_last hx hb hK hP hD hS 1 1 rfl rfl hd dMo_arithmetic_159 (fun H locs hP hD hS => ?_)
          have hP : va_P G vwCl [(m0, .inr (5, [.int vth, .ref qt, .int vtp, .ref qp, .int vpl, .ref qr, .ref qm, .int vpc, .int vst, .int vc, .int vd, .int vs, .int vo, .int vi, .int vn])), (qr, .inl (cL, 11, .inr (.inl (vp_updL gr vd.toNatClampNeg (f_Mo_lowest (f_Mo_reckoned vc vo (f_Mo_signed (gr vd.toNatClampNeg) (32 : Int32)) (f_Mo_signed (if (f_Mo_bit3 vc) = true then (gr vs.toNatClampNeg) else ((vi).toInt64)) (32 : Int32)) (32 : Int32)) (32 : Int32))))))] H := hP
          have hD : va_D A [(m0, .inr (5, [.int vth, .ref qt, .int vtp, .ref qp, .int vpl, .ref qr, .ref qm, .int vpc, .int vst, .int vc, .int vd, .int vs, .int vo, .int vi, .int vn])), (qr, .inl (cL, 11, .inr (.inl (vp_updL gr vd.toNatClampNeg (f_Mo_lowest (f_Mo_reckoned vc vo (f_Mo_signed (gr vd.toNatClampNeg) (32 : Int32)) (f_Mo_signed (if (f_Mo_bit3 vc) = true then (gr vs.toNatClampNeg) else ((vi).toInt64)) (32 : Int32)) (32 : Int32)) (32 : Int32))))))] := hD
          have hP9 := hP.sub (ws' := [(m0, .inr (5, [.int vth, .ref qt, .int vtp, .ref qp, .int vpl, .ref qr, .ref qm, .int vpc, .int vst, .int vc, .int vd, .int vs, .int vo, .int vi, .int vn])), (qr, .inl (cL, 11, .inr (.inl (vp_updL gr vd.toNatClampNeg (f_Mo_lowest (f_Mo_reckoned vc vo (f_Mo_signed (gr vd.toNatClampNeg) (32 : Int32)) (f_Mo_signed (if (f_Mo_bit3 vc) = true then (gr vs.toNatClampNeg) else ((vi).toInt64)) (32 : Int32)) (32 : Int32)) (32 : Int32))))))]) [0, 1] rfl
          have hD9 := hD.sub (ws' := [(m0, .inr (5, [.int vth, .ref qt, .int vtp, .ref qp, .int vpl, .ref qr, .ref qm, .int vpc, .int vst, .int vc, .int vd, .int vs, .int vo, .int vi, .int vn])), (qr, .inl (cL, 11, .inr (.inl (vp_updL gr vd.toNatClampNeg (f_Mo_lowest (f_Mo_reckoned vc vo (f_Mo_signed (gr vd.toNatClampNeg) (32 : Int32)) (f_Mo_signed (if (f_Mo_bit3 vc) = true then (gr vs.toNatClampNeg) else ((vi).toInt64)) (32 : Int32)) (32 : Int32)) (32 : Int32))))))]) [0, 1] (by decide) rfl
          exact W.vret hx hb hr (fun t ht hW => ⟨⟨((vp_updL gr vd.toNatClampNeg (f_Mo_lowest (f_Mo_reckoned vc vo (f_Mo_signed (gr vd.toNatClampNeg) (32 : Int32)) (f_Mo_signed (if (f_Mo_bit3 vc) = true then (gr vs.toNatClampNeg) else ((vi).toInt64)) (32 : Int32)) (32 : Int32)) (32 : Int32)))), rfl, (by unfold f_Mo_arithmetic; rw [if_neg c3, if_neg c4]; try rfl), by rw [ht]; exact hP9, hD9⟩, hS.F ht⟩) hS.2.2 dMo_arithmetic_160
        · have c4 := bI_n c4
          refine lv_aload_n hx hb dMo_arithmetic_106 rfl (lv_at hl 3 rfl) ?_
          refine va_get (D := G) (ci := 5) (v := .ref qr) (C := RMo) (T := TMo) (N := 15) hx hb hT inMo hown hK hP 0 rfl rfl 5 (by decide) (hT _ mw_570) (fun _ h9 => h9) rfl dMo_arithmetic_107 ?_
          refine lv_aload_n hx hb dMo_arithmetic_110 rfl (lv_at hl 3 rfl) ?_
          refine va_get (D := G) (ci := 5) (v := .int vd) (C := RMo) (T := TMo) (N := 15) hx hb hT inMo hown hK hP 0 rfl rfl 10 (by decide) (hT _ mw_575) (fun _ h9 => h9) rfl dMo_arithmetic_111 ?_
          refine lv_aload_n hx hb dMo_arithmetic_114 rfl (lv_at hl 3 rfl) ?_
          refine lv_lload_n hx hb dMo_arithmetic_115 rfl (lv_at hl 1 rfl) ?_
          refine lv_lload hx hb dMo_arithmetic_116 (lv_at hl 0 rfl) ?_
          refine lv_bipush (v := (64 : Int32)) hx hb dMo_arithmetic_118 (by decide) ?_
          have hPc := hP.sub (ws' := [(m0, .inr (5, [.int vth, .ref qt, .int vtp, .ref qp, .int vpl, .ref qr, .ref qm, .int vpc, .int vst, .int vc, .int vd, .int vs, .int vo, .int vi, .int vn]))]) [0] rfl
          refine va_calll (va_runV (As := [.long (gr vd.toNatClampNeg), .long (if (f_Mo_bit3 vc) = true then (gr vs.toNatClampNeg) else ((vi).toInt64)), .int (64 : Int32)]) (rest := [.int vd, .ref qr]) ⟨hx, hb, hml, hown, hT⟩ (c_Mo_reckoned l G cB cL cI s.heap m0 vth qt vtp qp vpl qr qm vpc vst vc vd vs vo vi vn (gr vd.toNatClampNeg) (if (f_Mo_bit3 vc) = true then (gr vs.toNatClampNeg) else ((vi).toInt64)) (64 : Int32) hPc ) (cwV 3 hT (gB_V mw_745 mw_747 ms_20 mw_6 mw_748) rfl rfl rfl (by decide +kernel) ⟨Nat.le_of_ble_eq_true rfl, Nat.le_of_ble_eq_true rfl⟩) ⟨fun a U g mk q => ⟨q.1, q.2.1, va_K.moved (u := U) (U := U.calling g mk a) (Vm.Alike.refl U.vm) q.2.2⟩, va_recv hK hPc (ci := 5) (q0 := 0) rfl rfl, fun U hU hW => ⟨rfl, hU, va_K.moved hW.alike hK⟩⟩ rfl rfl hl.1 rfl (lv_room (Nat.le_of_ble_eq_true rfl)) dMo_arithmetic_120 ⟨Nat.zero_le _, Nat.zero_le _⟩) hS (fun _ _ h => h.elim) (fun _ h => h.elim) (fun r u t H1 locs ht hvm hw hB hz8 hk8 hS => ?_)
          obtain rfl : s.heap = H1 := hB.symm.trans ht
          subst hw
          refine va_last hx hb hK hP hD hS 1 1 rfl rfl hd dMo_arithmetic_123 (fun H locs hP hD hS => ?_)
          have hP : va_P G vwCl [(m0, .inr (5, [.int vth, .ref qt, .int vtp, .ref qp, .int vpl, .ref qr, .ref qm, .int vpc, .int vst, .int vc, .int vd, .int vs, .int vo, .int vi, .int vn])), (qr, .inl (cL, 11, .inr (.inl (vp_updL gr vd.toNatClampNeg (f_Mo_reckoned vc vo (gr vd.toNatClampNeg) (if (f_Mo_bit3 vc) = true then (gr vs.toNatClampNeg) else ((vi).toInt64)) (64 : Int32))))))] H := hP
          have hD : va_D A [(m0, .inr (5, [.int vth, .ref qt, .int vtp, .ref qp, .int vpl, .ref qr, .ref qm, .int vpc, .int vst, .int vc, .int vd, .int vs, .int vo, .int vi, .int vn])), (qr, .inl (cL, 11, .inr (.inl (vp_updL gr vd.toNatClampNeg (f_Mo_reckoned vc vo (gr vd.toNatClampNeg) (if (f_Mo_bit3 vc) = true then (gr vs.toNatClampNeg) else ((vi).toInt64)) (64 : Int32))))))] := hD
          refine lv_goto (tgt := 160) hx hb dMo_arithmetic_124 (by decide) ?_
          have hP9 := hP.sub (ws' := [(m0, .inr (5, [.int vth, .ref qt, .int vtp, .ref qp, .int vpl, .ref qr, .ref qm, .int vpc, .int vst, .int vc, .int vd, .int vs, .int vo, .int vi, .int vn])), (qr, .inl (cL, 11, .inr (.inl (vp_updL gr vd.toNatClampNeg (f_Mo_reckoned vc vo (gr vd.toNatClampNeg) (if (f_Mo_bit3 vc) = true then (gr vs.toNatClampNeg) else ((vi).toInt64)) (64 : Int32))))))]) [0, 1] rfl
          have hD9 := hD.sub (ws' := [(m0, .inr (5, [.int vth, .ref qt, .int vtp, .ref qp, .int vpl, .ref qr, .ref qm, .int vpc, .int vst, .int vc, .int vd, .int vs, .int vo, .int vi, .int vn])), (qr, .inl (cL, 11, .inr (.inl (vp_updL gr vd.toNatClampNeg (f_Mo_reckoned vc vo (gr vd.toNatClampNeg) (if (f_Mo_bit3 vc) = true then (gr vs.toNatClampNeg) else ((vi).toInt64)) (64 : Int32))))))]) [0, 1] (by decide) rfl
          exact W.vret hx hb hr (fun t ht hW => ⟨⟨((vp_updL gr vd.toNatClampNeg (f_Mo_reckoned vc vo (gr vd.toNatClampNeg) (if (f_Mo_bit3 vc) = true then (gr vs.toNatClampNeg) else ((vi).toInt64)) (64 : Int32)))), rfl, (by unfold f_Mo_arithmetic; rw [if_neg c3, if_pos c4]; try rfl), by rw [ht]; exact hP9, hD9⟩, hS.F ht⟩) hS.2.2 dMo_arithmetic_160
      · skip
        refine lv_aload_n hx hb dMo_arithmetic_60 rfl (lv_at hl 3 rfl) ?_
        refine va_get (D := G) (ci := 5) (v := .ref qr) (C := RMo) (T := TMo) (N := 15) hx hb hT inMo hown hK hP 0 rfl rfl 5 (by decide) (hT _ mw_570) (fun _ h9 => h9) rfl dMo_arithmetic_61 ?_
        refine lv_aload_n hx hb dMo_arithmetic_64 rfl (lv_at hl 3 rfl) ?_
        refine va_get (D := G) (ci := 5) (v := .int vd) (C := RMo) (T := TMo) (N := 15) hx hb hT inMo hown hK hP 0 rfl rfl 10 (by decide) (hT _ mw_575) (fun _ h9 => h9) rfl dMo_arithmetic_65 ?_
        refine lv_iload_n hx hb dMo_arithmetic_68 rfl (lv_at hl 2 rfl) ?_
        have jn5 : ∀ (x5 : Int64), x5 = (if (if (f_Mo_kind vc) = (7 : Int32) then true else false) = true then (f_Mo_turned (gr vd.toNatClampNeg) vi) else (if (f_Mo_bit3 vc) = true then (f_Mo_turned (gr vd.toNatClampNeg) vi) else (f_Mo_lowest (gr vd.toNatClampNeg) vi))) → ∀ (locs : List Loc), va_S A s.heap s.heap locs → W p l e (headSpec wsMo_arithmetic ({ frames := 4, cells := 0, slots := 0, locals := 111 })).room s m ([.ref m0] : List Value).toArray below meth c s.heap locs 0 0 (MQ below (va_Qv (fun (u : (Nat → Int64)) => u = (f_Mo_arithmetic vc vd vs vo vi gr)) (fun (u : (Nat → Int64)) t => va_P G vwCl [(m0, .inr (5, [.int vth, .ref qt, .int vtp, .ref qp, .int vpl, .ref qr, .ref qm, .int vpc, .int vst, .int vc, .int vd, .int vs, .int vo, .int vi, .int vn])), (qr, .inl (cL, 11, .inr (.inl (u))))] t.heap ∧ va_D (A) [(m0, .inr (5, [.int vth, .ref qt, .int vtp, .ref qp, .int vpl, .ref qr, .ref qm, .int vpc, .int vst, .int vc, .int vd, .int vs, .int vo, .int vi, .int vn])), (qr, .inl (cL, 11, .inr (.inl (u))))]) (A)) ([.ref m0] : List Value).toArray s 0 0 A) (F0 m 98 ls [.long x5, .int vd, .ref qr]) := by
          intro x5 hx5 locs hS
          subst hx5
          refine va_last hx hb hK hP hD hS 1 1 rfl rfl hd dMo_arithmetic_98 (fun H locs hP hD hS => ?_)
          have hP : va_P G vwCl [(m0, .inr (5, [.int vth, .ref qt, .int vtp, .ref qp, .int vpl, .ref qr, .ref qm, .int vpc, .int vst, .int vc, .int vd, .int vs, .int vo, .int vi, .int vn])), (qr, .inl (cL, 11, .inr (.inl (vp_updL gr vd.toNatClampNeg (if (if (f_Mo_kind vc) = (7 : Int32) then true else false) = true then (f_Mo_turned (gr vd.toNatClampNeg) vi) else (if (f_Mo_bit3 vc) = true then (f_Mo_turned (gr vd.toNatClampNeg) vi) else (f_Mo_lowest (gr vd.toNatClampNeg) vi)))))))] H := hP
          have hD : va_D A [(m0, .inr (5, [.int vth, .ref qt, .int vtp, .ref qp, .int vpl, .ref qr, .ref qm, .int vpc, .int vst, .int vc, .int vd, .int vs, .int vo, .int vi, .int vn])), (qr, .inl (cL, 11, .inr (.inl (vp_updL gr vd.toNatClampNeg (if (if (f_Mo_kind vc) = (7 : Int32) then true else false) = true then (f_Mo_turned (gr vd.toNatClampNeg) vi) else (if (f_Mo_bit3 vc) = true then (f_Mo_turned (gr vd.toNatClampNeg) vi) else (f_Mo_lowest (gr vd.toNatClampNeg) vi)))))))] := hD
          refine lv_goto (tgt := 160) hx hb dMo_arithmetic_99 (by decide) ?_
          have hP9 := hP.sub (ws' := [(m0, .inr (5, [.int vth, .ref qt, .int vtp, .ref qp, .int vpl, .ref qr, .ref qm, .int vpc, .int vst, .int vc, .int vd, .int vs, .int vo, .int vi, .int vn])), (qr, .inl (cL, 11, .inr (.inl (vp_updL gr vd.toNatClampNeg (if (if (f_Mo_kind vc) = (7 : Int32) then true else false) = true then (f_Mo_turned (gr vd.toNatClampNeg) vi) else (if (f_Mo_bit3 vc) = true then (f_Mo_turned (gr vd.toNatClampNeg) vi) else (f_Mo_lowest (gr vd.toNatClampNeg) vi)))))))]) [0, 1] rfl
          have hD9 := hD.sub (ws' := [(m0, .inr (5, [.int vth, .ref qt, .int vtp, .ref qp, .int vpl, .ref qr, .ref qm, .int vpc, .int vst, .int vc, .int vd, .int vs, .int vo, .int vi, .int vn])), (qr, .inl (cL, 11, .inr (.inl (vp_updL gr vd.toNatClampNeg (if (if (f_Mo_kind vc) = (7 : Int32) then true else false) = true then (f_Mo_turned (gr vd.toNatClampNeg) vi) else (if (f_Mo_bit3 vc) = true then (f_Mo_turned (gr vd.toNatClampNeg) vi) else (f_Mo_lowest (gr vd.toNatClampNeg) vi)))))))]) [0, 1] (by decide) rfl
          exact W.vret hx hb hr (fun t ht hW => ⟨⟨((vp_updL gr vd.toNatClampNeg (if (if (f_Mo_kind vc) = (7 : Int32) then true else false) = true then (f_Mo_turned (gr vd.toNatClampNeg) vi) else (if (f_Mo_bit3 vc) = true then (f_Mo_turned (gr vd.toNatClampNeg) vi) else (f_Mo_lowest (gr vd.toNatClampNeg) vi))))), rfl, (by unfold f_Mo_arithmetic; rw [if_pos c3]; try rfl), by rw [ht]; exact hP9, hD9⟩, hS.F ht⟩) hS.2.2 dMo_arithmetic_160
        refine lv_if_ne (tgt := 79) hx hb dMo_arithmetic_69 (by decide) (fun c6 => ?_) (fun c6 => ?_)
        · have c6 := bI_n c6
          refine lv_lload_n hx hb dMo_arithmetic_79 rfl (lv_at hl 1 rfl) ?_
          refine lv_aload_n hx hb dMo_arithmetic_80 rfl (lv_at hl 3 rfl) ?_
          refine va_get (D := G) (ci := 5) (v := .int vi) (C := RMo) (T := TMo) (N := 15) hx hb hT inMo hown hK hP 0 rfl rfl 13 (by decide) (hT _ mw_578) (fun _ h9 => h9) rfl dMo_arithmetic_81 ?_
          have hPc := hP.sub (ws' := []) [] rfl
          refine va_calll (va_runS (As := [.long (gr vd.toNatClampNeg), .int vi]) (rest := [.int vd, .ref qr]) ⟨hx, hb, hml, hown, hT⟩ (c_Mo_turned l G cB cL cI s.heap (gr vd.toNatClampNeg) vi hPc (hi c3)) (cwS 2 hT (gB_S mw_738 mw_739 mw_6 mw_740) rfl rfl rfl (by decide +kernel) ⟨Nat.le_of_ble_eq_true rfl, Nat.le_of_ble_eq_true rfl⟩) ⟨fun a U g mk q => ⟨q.1, q.2.1, va_K.moved (u := U) (U := U.calling g mk a) (Vm.Alike.refl U.vm) q.2.2⟩, fun U hU hW => ⟨rfl, hU, va_K.moved hW.alike hK⟩⟩ rfl rfl hl.1 rfl (lv_room (Nat.le_of_ble_eq_true rfl)) dMo_arithmetic_84 ⟨Nat.zero_le _, Nat.zero_le _⟩) hS (fun _ _ h => h.elim) (fun _ h => h.elim) (fun r u t H1 locs ht hvm hw hB hz8 hk8 hS => ?_)
          obtain rfl : s.heap = H1 := hB.symm.trans ht
          subst hw
          refine lv_goto (tgt := 98) hx hb dMo_arithmetic_87 (by decide) ?_
          exact jn5 (f_Mo_turned (gr vd.toNatClampNeg) vi) (by rw [if_pos c6]) _ hS
        · have c6 := bI_z c6
          refine lv_aload_n hx hb dMo_arithmetic_72 rfl (lv_at hl 3 rfl) ?_
          have hPc := hP.sub (ws' := [(m0, .inr (5, [.int vth, .ref qt, .int vtp, .ref qp, .int vpl, .ref qr, .ref qm, .int vpc, .int vst, .int vc, .int vd, .int vs, .int vo, .int vi, .int vn]))]) [0] rfl
          refine va_calli (va_runV (As := []) (rest := [.int vd, .ref qr]) ⟨hx, hb, hml, hown, hT⟩ (c_Mo_bit3 l G cB cL cI s.heap m0 vth qt vtp qp vpl qr qm vpc vst vc vd vs vo vi vn hPc ) (cwV 0 hT (gB_V mw_655 mw_657 ms_7 mw_6 mw_658) rfl rfl rfl (by decide +kernel) ⟨Nat.le_of_ble_eq_true rfl, Nat.le_of_ble_eq_true rfl⟩) ⟨fun a U g mk q => ⟨q.1, q.2.1, va_K.moved (u := U) (U := U.calling g mk a) (Vm.Alike.refl U.vm) q.2.2⟩, va_recv hK hPc (ci := 5) (q0 := 0) rfl rfl, fun U hU hW => ⟨rfl, hU, va_K.moved hW.alike hK⟩⟩ rfl rfl hl.1 rfl (lv_room (Nat.le_of_ble_eq_true rfl)) dMo_arithmetic_73 ⟨Nat.zero_le _, Nat.zero_le _⟩) hS (fun _ _ h => h.elim) (fun _ h => h.elim) (fun r u t H1 locs ht hvm hw hB hz8 hk8 hS => ?_)
          obtain rfl : s.heap = H1 := hB.symm.trans ht
          subst hw
          refine lv_if_eq (tgt := 90) hx hb dMo_arithmetic_76 (by decide) (fun c7 => ?_) (fun c7 => ?_)
          · have c7 := bI_z c7
            refine lv_lload_n hx hb dMo_arithmetic_90 rfl (lv_at hl 1 rfl) ?_
            refine lv_aload_n hx hb dMo_arithmetic_91 rfl (lv_at hl 3 rfl) ?_
            refine va_get (D := G) (ci := 5) (v := .int vi) (C := RMo) (T := TMo) (N := 15) hx hb hT inMo hown hK hP 0 rfl rfl 13 (by decide) (hT _ mw_578) (fun _ h9 => h9) rfl dMo_arithmetic_92 ?_
            have hPc := hP.sub (ws' := []) [] rfl
            refine va_calll (va_runS (As := [.long (gr vd.toNatClampNeg), .int vi]) (rest := [.int vd, .ref qr]) ⟨hx, hb, hml, hown, hT⟩ (c_Mo_lowest l G cB cL cI s.heap (gr vd.toNatClampNeg) vi hPc ) (cwS 2 hT (gB_S mw_742 mw_743 mw_6 mw_744) rfl rfl rfl (by decide +kernel) ⟨Nat.le_of_ble_eq_true rfl, Nat.le_of_ble_eq_true rfl⟩) ⟨fun a U g mk q => ⟨q.1, q.2.1, va_K.moved (u := U) (U := U.calling g mk a) (Vm.Alike.refl U.vm) q.2.2⟩, fun U hU hW => ⟨rfl, hU, va_K.moved hW.alike hK⟩⟩ rfl rfl hl.1 rfl (lv_room (Nat.le_of_ble_eq_true rfl)) dMo_arithmetic_95 ⟨Nat.zero_le _, Nat.zero_le _⟩) hS (fun _ _ h => h.elim) (fun _ h => h.elim) (fun r u t H1 locs ht hvm hw hB hz8 hk8 hS => ?_)
            obtain rfl : s.heap = H1 := hB.symm.trans ht
            subst hw
            exact jn5 (f_Mo_lowest (gr vd.toNatClampNeg) vi) (by rw [if_neg c6, if_neg c7]) _ hS
          · have c7 := bI_n c7
            refine lv_lload_n hx hb dMo_arithmetic_79 rfl (lv_at hl 1 rfl) ?_
            refine lv_aload_n hx hb dMo_arithmetic_80 rfl (lv_at hl 3 rfl) ?_
            refine va_get (D := G) (ci := 5) (v := .int vi) (C := RMo) (T := TMo) (N := 15) hx hb hT inMo hown hK hP 0 rfl rfl 13 (by decide) (hT _ mw_578) (fun _ h9 => h9) rfl dMo_arithmetic_81 ?_
            have hPc := hP.sub (ws' := []) [] rfl
            refine va_calll (va_runS (As := [.long (gr vd.toNatClampNeg), .int vi]) (rest := [.int vd, .ref qr]) ⟨hx, hb, hml, hown, hT⟩ (c_Mo_turned l G cB cL cI s.heap (gr vd.toNatClampNeg) vi hPc (hi c3)) (cwS 2 hT (gB_S mw_738 mw_739 mw_6 mw_740) rfl rfl rfl (by decide +kernel) ⟨Nat.le_of_ble_eq_true rfl, Nat.le_of_ble_eq_true rfl⟩) ⟨fun a U g mk q => ⟨q.1, q.2.1, va_K.moved (u := U) (U := U.calling g mk a) (Vm.Alike.refl U.vm) q.2.2⟩, fun U hU hW => ⟨rfl, hU, va_K.moved hW.alike hK⟩⟩ rfl rfl hl.1 rfl (lv_room (Nat.le_of_ble_eq_true rfl)) dMo_arithmetic_84 ⟨Nat.zero_le _, Nat.zero_le _⟩) hS (fun _ _ h => h.elim) (fun _ h => h.elim) (fun r u t H1 locs ht hvm hw hB hz8 hk8 hS => ?_)
            obtain rfl : s.heap = H1 := hB.symm.trans ht
            subst hw
            refine lv_goto (tgt := 98) hx hb dMo_arithmetic_87 (by decide) ?_
            exact jn5 (f_Mo_turned (gr vd.toNatClampNeg) vi) (by rw [if_neg c6, if_pos c7]) _ hS
    refine lv_if_eq (tgt := 44) hx hb dMo_arithmetic_29 (by decide) (fun c8 => ?_) (fun c8 => ?_)
    · have c8 := bI_z c8
      refine lv_aload_n hx hb dMo_arithmetic_44 rfl (lv_at hl 2 rfl) ?_
      refine va_get (D := G) (ci := 5) (v := .int vi) (C := RMo) (T := TMo) (N := 15) hx hb hT inMo hown hK hP 0 rfl rfl 13 (by decide) (hT _ mw_578) (fun _ h9 => h9) rfl dMo_arithmetic_45 ?_
      refine lv_i2l hx hb dMo_arithmetic_48 rfl ?_
      exact jn2 ((vi).toInt64) (by rw [if_neg c8]) _ hS
    · have c8 := bI_n c8
      refine lv_aload_n hx hb dMo_arithmetic_32 rfl (lv_at hl 2 rfl) ?_
      refine va_get (D := G) (ci := 5) (v := .ref qr) (C := RMo) (T := TMo) (N := 15) hx hb hT inMo hown hK hP 0 rfl rfl 5 (by decide) (hT _ mw_570) (fun _ h9 => h9) rfl dMo_arithmetic_33 ?_
      refine lv_aload_n hx hb dMo_arithmetic_36 rfl (lv_at hl 2 rfl) ?_
      refine va_get (D := G) (ci := 5) (v := .int vs) (C := RMo) (T := TMo) (N := 15) hx hb hT inMo hown hK hP 0 rfl rfl 11 (by decide) (hT _ mw_576) (fun _ h9 => h9) rfl dMo_arithmetic_37 ?_
      refine va_lald hx hb hK hP 1 1 rfl rfl hs dMo_arithmetic_40 ?_
      refine lv_goto (tgt := 49) hx hb dMo_arithmetic_41 (by decide) ?_
      exact jn2 (gr vs.toNatClampNeg) (by rw [if_pos c8]) _ hS
  refine lv_icmp_ne (tgt := 13) hx hb dMo_arithmetic_6 (by decide) (fun c9 => ?_) (fun c9 => ?_)
  · skip
    refine lv_iconst (v := (0 : Int32)) hx hb dMo_arithmetic_13 (by decide) ?_
    exact jn1 false (by rw [if_neg c9]) _ hS
  · skip
    refine lv_iconst (v := (1 : Int32)) hx hb dMo_arithmetic_9 (by decide) ?_
    refine lv_goto (tgt := 14) hx hb dMo_arithmetic_10 (by decide) ?_
    exact jn1 true (by rw [if_pos c9]) _ hS

def l_Mo_call_8 (vi : Int32) (gr : Nat → Int64) : Nat → (Int32) → (Int64) → (Nat → Int64) → (Nat → Int64)
  | 0, _, _, _ => default
  | n + 1, r9, v, g =>
    if (6 : Int32) ≤ r9 then
      ((vp_updL g (0 : Int32).toNatClampNeg v))
    else
      l_Mo_call_8 vi gr n (r9 + (1 : Int32)) (((31 : Int64) * v) + (g r9.toNatClampNeg)) (vp_updL g r9.toNatClampNeg (0 : Int64))
def f_Mo_call (vi : Int32) (gr : Nat → Int64) : (Nat → Int64) :=
  l_Mo_call_8 vi gr 6 (1 : Int32) ((vi).toInt64) gr
set_option maxHeartbeats 4000000 in
set_option maxRecDepth 100000 in
theorem c_Mo_call (l : Launch) (G : va_G) (cB cL cI : ClassId) (Hp : Heap) (m0 : Nat) (vth : Int32) (qt : Nat) (vtp : Int32) (qp : Nat) (vpl : Int32) (qr : Nat) (qm : Nat) (vpc : Int32) (vst : Int32) (vc : Int32) (vd : Int32) (vs : Int32) (vo : Int32) (vi : Int32) (vn : Int32) (gr : Nat → Int64) (hP : va_P G vwCl [(m0, .inr (5, [.int vth, .ref qt, .int vtp, .ref qp, .int vpl, .ref qr, .ref qm, .int vpc, .int vst, .int vc, .int vd, .int vs, .int vo, .int vi, .int vn])), (qr, .inl (cL, 11, .inr (.inl gr)))] Hp) (hD : va_D (fun _ => True) [(m0, .inr (5, [.int vth, .ref qt, .int vtp, .ref qp, .int vpl, .ref qr, .ref qm, .int vpc, .int vst, .int vc, .int vd, .int vs, .int vo, .int vi, .int vn])), (qr, .inl (cL, 11, .inr (.inl gr)))]) : Met l yMo_call wsMo_call ({ frames := 0, cells := 0, slots := 0, locals := 0 }) (va_Pc [.ref m0] (fun U => U.heap = Hp ∧ va_K G vwCl [(cB, .byte), (cL, .long), (cI, .int)] U)) (va_Qv (fun (u : (Nat → Int64)) => u = (f_Mo_call vi gr)) (fun (u : (Nat → Int64)) t => va_P G vwCl [(m0, .inr (5, [.int vth, .ref qt, .int vtp, .ref qp, .int vpl, .ref qr, .ref qm, .int vpc, .int vst, .int vc, .int vd, .int vs, .int vo, .int vi, .int vn])), (qr, .inl (cL, 11, .inr (.inl (u))))] t.heap ∧ va_D (va_A [(m0, .inr (5, [.int vth, .ref qt, .int vtp, .ref qp, .int vpl, .ref qr, .ref qm, .int vpc, .int vst, .int vc, .int vd, .int vs, .int vo, .int vi, .int vn])), (qr, .inl (cL, 11, .inr (.inl gr)))] Hp.size) [(m0, .inr (5, [.int vth, .ref qt, .int vtp, .ref qp, .int vpl, .ref qr, .ref qm, .int vpc, .int vst, .int vc, .int vd, .int vs, .int vo, .int vi, .int vn])), (qr, .inl (cL, 11, .inr (.inl (u))))]) (va_A [(m0, .inr (5, [.int vth, .ref qt, .int vtp, .ref qp, .int vpl, .ref qr, .ref qm, .int vpc, .int vst, .int vc, .int vd, .int vs, .int vo, .int vi, .int vn])), (qr, .inl (cL, 11, .inr (.inl gr)))] Hp.size)) 0 0 (va_A [(m0, .inr (5, [.int vth, .ref qt, .int vtp, .ref qp, .int vpl, .ref qr, .ref qm, .int vpc, .int vst, .int vc, .int vd, .int vs, .int vo, .int vi, .int vn])), (qr, .inl (cL, 11, .inr (.inl gr)))] Hp.size) := by
  refine Met.ofW (cc := cMo_call) (maxL := 4) (ret := none) (by decide) rfl ?_
  intro p e s m args below meth c s₁ B hml hv
  obtain ⟨rfl, rfl, hK⟩ := hv
  have hx := B.exec
  have hb := B.bytes
  have hr := B.returns
  have hT : ∀ w ∈ tB, w.before _ s = true := fun w h => atoms_spec (ws := wsMo_call) B.pre w (List.mem_cons_of_mem _ h)
  have hown : s.vm.findClass "CompiledProgramModel" = some m.cls := findClass_of_methodNamed B.named
  have hlocks := B.notSynchronized
  have hD := hD.self (sz := s.heap.size)
  generalize hAe : va_A [(m0, .inr (5, [.int vth, .ref qt, .int vtp, .ref qp, .int vpl, .ref qr, .ref qm, .int vpc, .int vst, .int vc, .int vd, .int vs, .int vo, .int vi, .int vn])), (qr, .inl (cL, 11, .inr (.inl gr)))] s.heap.size = A at hD ⊢
  have hA : ∀ q : Nat, s.heap.size ≤ q → A q := fun q h => by rw [← hAe]; exact Or.inr h
  have hS : va_S A s.heap s.heap [] := va_S.rf
  have hl := lv_entry ([.ref m0]) (n := 4) (Nat.le_of_ble_eq_true rfl)
  rw [lg_entry_eq]
  generalize (lg_sl ([.ref m0]) ++ List.replicate (4 - (lg_sl ([.ref m0])).length) Slot.unset).toArray = ls at hl ⊢
  have hl : lv_has ls 4 [(0, .ref m0)] := hl
  refine lv_aload_n hx hb dMo_call_0 rfl (lv_at hl 0 rfl) ?_
  refine va_get (D := G) (ci := 5) (v := .int vi) (C := RMo) (T := TMo) (N := 15) hx hb hT inMo hown hK hP 0 rfl rfl 13 (by decide) (hT _ mw_578) (fun _ h9 => h9) rfl dMo_call_1 ?_
  refine lv_i2l hx hb dMo_call_4 rfl ?_
  refine lv_lstore_n (lv' := [(1, .long ((vi).toInt64)), (0, .ref m0)]) hx hb dMo_call_5 rfl hl (by decide) rfl (fun ls hl => ?_)
  refine lv_iconst (v := (1 : Int32)) hx hb dMo_call_6 (by decide) ?_
  refine lv_istore_n (lv' := [(3, .int (1 : Int32)), (1, .long ((vi).toInt64)), (0, .ref m0)]) hx hb dMo_call_7 rfl hl (by decide) rfl (fun ls hl => ?_)
  have loop : ∀ (n : Nat) (r9 : Int32) (v : Int64) (g : Nat → Int64), (1 ≤ r9.toInt) → (6 - r9.toInt).toNat < n → (f_Mo_call vi gr) = l_Mo_call_8 vi gr n r9 v g → ∀ (H : Heap), va_P G vwCl [(m0, .inr (5, [.int vth, .ref qt, .int vtp, .ref qp, .int vpl, .ref qr, .ref qm, .int vpc, .int vst, .int vc, .int vd, .int vs, .int vo, .int vi, .int vn])), (qr, .inl (cL, 11, .inr (.inl g)))] H → va_D A [(m0, .inr (5, [.int vth, .ref qt, .int vtp, .ref qp, .int vpl, .ref qr, .ref qm, .int vpc, .int vst, .int vc, .int vd, .int vs, .int vo, .int vi, .int vn])), (qr, .inl (cL, 11, .inr (.inl g)))] → ∀ (locs : List Loc), va_S A s.heap H locs → ∀ (ls : Array Slot), lv_has ls 4 [(3, .int r9), (1, .long v), (0, .ref m0)] → W p l e (headSpec wsMo_call ({ frames := 0, cells := 0, slots := 0, locals := 0 })).room s m ([.ref m0] : List Value).toArray below meth c H locs 0 0 (MQ below (va_Qv (fun (u : (Nat → Int64)) => u = (f_Mo_call vi gr)) (fun (u : (Nat → Int64)) t => va_P G vwCl [(m0, .inr (5, [.int vth, .ref qt, .int vtp, .ref qp, .int vpl, .ref qr, .ref qm, .int vpc, .int vst, .int vc, .int vd, .int vs, .int vo, .int vi, .int vn])), (qr, .inl (cL, 11, .inr (.inl (u))))] t.heap ∧ va_D (A) [(m0, .inr (5, [.int vth, .ref qt, .int vtp, .ref qp, .int vpl, .ref qr, .ref qm, .int vpc, .int vst, .int vc, .int vd, .int vs, .int vo, .int vi, .int vn])), (qr, .inl (cL, 11, .inr (.inl (u))))]) (A)) ([.ref m0] : List Value).toArray s 0 0 A) (F0 m 8 ls []) := by
    intro n
    induction n with
    | zero =>
      intro r9 v g hr1 hM
      exact absurd hM (Nat.not_lt_zero _)
    | succ n ih =>
      intro r9 v g hr1 hM hE H hP hD locs hS ls hl
      refine lv_iload_n hx hb dMo_call_8 rfl (lv_at hl 0 rfl) ?_
      refine lv_bipush (v := (6 : Int32)) hx hb dMo_call_9 (by decide) ?_
      refine lv_icmp_ge (tgt := 40) hx hb dMo_call_11 (by decide) (fun c1 => ?_) (fun c1 => ?_)
      · skip
        refine lv_aload_n hx hb dMo_call_40 rfl (lv_at hl 2 rfl) ?_
        refine va_get (D := G) (ci := 5) (v := .ref qr) (C := RMo) (T := TMo) (N := 15) hx hb hT inMo hown hK hP 0 rfl rfl 5 (by decide) (hT _ mw_570) (fun _ h9 => h9) rfl dMo_call_41 ?_
        refine lv_iconst (v := (0 : Int32)) hx hb dMo_call_44 (by decide) ?_
        refine lv_lload_n hx hb dMo_call_45 rfl (lv_at hl 1 rfl) ?_
        refine va_last hx hb hK hP hD hS 1 1 rfl rfl (by unfold vp_in; decide) dMo_call_46 (fun H locs hP hD hS => ?_)
        have hP : va_P G vwCl [(m0, .inr (5, [.int vth, .ref qt, .int vtp, .ref qp, .int vpl, .ref qr, .ref qm, .int vpc, .int vst, .int vc, .int vd, .int vs, .int vo, .int vi, .int vn])), (qr, .inl (cL, 11, .inr (.inl (vp_updL g (0 : Int32).toNatClampNeg v))))] H := hP
        have hD : va_D A [(m0, .inr (5, [.int vth, .ref qt, .int vtp, .ref qp, .int vpl, .ref qr, .ref qm, .int vpc, .int vst, .int vc, .int vd, .int vs, .int vo, .int vi, .int vn])), (qr, .inl (cL, 11, .inr (.inl (vp_updL g (0 : Int32).toNatClampNeg v))))] := hD
        have hP9 := hP.sub (ws' := [(m0, .inr (5, [.int vth, .ref qt, .int vtp, .ref qp, .int vpl, .ref qr, .ref qm, .int vpc, .int vst, .int vc, .int vd, .int vs, .int vo, .int vi, .int vn])), (qr, .inl (cL, 11, .inr (.inl (vp_updL g (0 : Int32).toNatClampNeg v))))]) [0, 1] rfl
        have hD9 := hD.sub (ws' := [(m0, .inr (5, [.int vth, .ref qt, .int vtp, .ref qp, .int vpl, .ref qr, .ref qm, .int vpc, .int vst, .int vc, .int vd, .int vs, .int vo, .int vi, .int vn])), (qr, .inl (cL, 11, .inr (.inl (vp_updL g (0 : Int32).toNatClampNeg v))))]) [0, 1] (by decide) rfl
        exact W.vret hx hb hr (fun t ht hW => ⟨⟨((vp_updL g (0 : Int32).toNatClampNeg v)), rfl, (by rw [hE, l_Mo_call_8, if_pos c1]; try rfl), by rw [ht]; exact hP9, hD9⟩, hS.F ht⟩) hS.2.2 dMo_call_47
      · skip
        refine lv_ldc2 (v := (31 : Int64)) hx hb hown (hT _ mw_770) dMo_call_14 ?_
        refine lv_lload_n hx hb dMo_call_17 rfl (lv_at hl 1 rfl) ?_
        refine lv_lmul hx hb dMo_call_18 ?_
        refine lv_aload_n hx hb dMo_call_19 rfl (lv_at hl 2 rfl) ?_
        refine va_get (D := G) (ci := 5) (v := .ref qr) (C := RMo) (T := TMo) (N := 15) hx hb hT inMo hown hK hP 0 rfl rfl 5 (by decide) (hT _ mw_570) (fun _ h9 => h9) rfl dMo_call_20 ?_
        refine lv_iload_n hx hb dMo_call_23 rfl (lv_at hl 0 rfl) ?_
        refine va_lald hx hb hK hP 1 1 rfl rfl (ca_in hr1 c1) dMo_call_24 ?_
        refine lv_ladd hx hb dMo_call_25 ?_
        refine lv_lstore_n (lv' := [(1, .long (((31 : Int64) * v) + (g r9.toNatClampNeg))), (3, .int r9), (0, .ref m0)]) hx hb dMo_call_26 rfl hl (by decide) rfl (fun ls hl => ?_)
        refine lv_aload_n hx hb dMo_call_27 rfl (lv_at hl 2 rfl) ?_
        refine va_get (D := G) (ci := 5) (v := .ref qr) (C := RMo) (T := TMo) (N := 15) hx hb hT inMo hown hK hP 0 rfl rfl 5 (by decide) (hT _ mw_570) (fun _ h9 => h9) rfl dMo_call_28 ?_
        refine lv_iload_n hx hb dMo_call_31 rfl (lv_at hl 1 rfl) ?_
        refine lv_lconst (v := (0 : Int64)) hx hb dMo_call_32 (by decide) ?_
        refine va_last hx hb hK hP hD hS 1 1 rfl rfl (ca_in hr1 c1) dMo_call_33 (fun H locs hP hD hS => ?_)
        have hP : va_P G vwCl [(m0, .inr (5, [.int vth, .ref qt, .int vtp, .ref qp, .int vpl, .ref qr, .ref qm, .int vpc, .int vst, .int vc, .int vd, .int vs, .int vo, .int vi, .int vn])), (qr, .inl (cL, 11, .inr (.inl (vp_updL g r9.toNatClampNeg (0 : Int64)))))] H := hP
        have hD : va_D A [(m0, .inr (5, [.int vth, .ref qt, .int vtp, .ref qp, .int vpl, .ref qr, .ref qm, .int vpc, .int vst, .int vc, .int vd, .int vs, .int vo, .int vi, .int vn])), (qr, .inl (cL, 11, .inr (.inl (vp_updL g r9.toNatClampNeg (0 : Int64)))))] := hD
        refine lv_iinc (v := (r9 + (1 : Int32))) (lv' := [(3, .int (r9 + (1 : Int32))), (1, .long (((31 : Int64) * v) + (g r9.toNatClampNeg))), (0, .ref m0)]) hx hb dMo_call_34 hl (k := 1) rfl (by first | rfl | decide) (by decide) rfl (fun ls hl => ?_)
        refine lv_goto (tgt := 8) hx hb dMo_call_37 (by decide) ?_
        exact ih (r9 + (1 : Int32)) (((31 : Int64) * v) + (g r9.toNatClampNeg)) (vp_updL g r9.toNatClampNeg (0 : Int64)) (ca_b1 hr1 c1) (ca_b2 hr1 c1 hM) (by rw [hE, l_Mo_call_8, if_neg c1]) _ hP hD _ hS ls (lv_sub hl [0, 1, 2] rfl)
  exact loop 6 (1 : Int32) ((vi).toInt64) gr (by decide) (by decide) rfl _ hP hD _ hS ls (lv_sub hl [0, 1, 2] rfl)

def f_Mo_jump (vc : Int32) (vd : Int32) (vs : Int32) (vo : Int32) (vi : Int32) (vn : Int32) (gr : Nat → Int64) (a0 : Int32) : (Nat → Int64) × (Int32) :=
  if (f_Mo_n vc) = (8 : Int32) then
    (((f_Mo_call vi gr)), vn)
  else
    if (f_Mo_n vc) = 0 then
      (gr, ((a0 + (1 : Int32)) + (if (f_Mo_kind vc) = (6 : Int32) then vi else vo)))
    else
      (gr, (if (f_Mo_isSo vc (f_Mo_signed (gr vd.toNatClampNeg) (if (f_Mo_kind vc) = (5 : Int32) then (64 : Int32) else (32 : Int32))) (f_Mo_signed (if (f_Mo_bit3 vc) = true then (gr vs.toNatClampNeg) else ((vi).toInt64)) (if (f_Mo_kind vc) = (5 : Int32) then (64 : Int32) else (32 : Int32)))) = true then ((a0 + (1 : Int32)) + vo) else vn))
set_option maxHeartbeats 4000000 in
set_option maxRecDepth 100000 in
theorem c_Mo_jump (l : Launch) (G : va_G) (cB cL cI : ClassId) (Hp : Heap) (m0 : Nat) (vth : Int32) (qt : Nat) (vtp : Int32) (qp : Nat) (vpl : Int32) (qr : Nat) (qm : Nat) (vpc : Int32) (vst : Int32) (vc : Int32) (vd : Int32) (vs : Int32) (vo : Int32) (vi : Int32) (vn : Int32) (gr : Nat → Int64) (a0 : Int32) (hP : va_P G vwCl [(m0, .inr (5, [.int vth, .ref qt, .int vtp, .ref qp, .int vpl, .ref qr, .ref qm, .int vpc, .int vst, .int vc, .int vd, .int vs, .int vo, .int vi, .int vn])), (qr, .inl (cL, 11, .inr (.inl gr)))] Hp) (hD : va_D (fun _ => True) [(m0, .inr (5, [.int vth, .ref qt, .int vtp, .ref qp, .int vpl, .ref qr, .ref qm, .int vpc, .int vst, .int vc, .int vd, .int vs, .int vo, .int vi, .int vn])), (qr, .inl (cL, 11, .inr (.inl gr)))]) (hd : vp_in vd 11) (hs : vp_in vs 11) : Met l yMo_jump wsMo_jump ({ frames := 2, cells := 0, slots := 0, locals := 47 }) (va_Pc [.ref m0, .int a0] (fun U => U.heap = Hp ∧ va_K G vwCl [(cB, .byte), (cL, .long), (cI, .int)] U)) (va_Qv (fun (u : (Nat → Int64) × (Int32)) => u = (f_Mo_jump vc vd vs vo vi vn gr a0)) (fun (u : (Nat → Int64) × (Int32)) t => va_P G vwCl [(m0, .inr (5, [.int vth, .ref qt, .int vtp, .ref qp, .int vpl, .ref qr, .ref qm, .int vpc, .int vst, .int vc, .int vd, .int vs, .int vo, .int vi, .int (u.2)])), (qr, .inl (cL, 11, .inr (.inl (u.1))))] t.heap ∧ va_D (va_A [(m0, .inr (5, [.int vth, .ref qt, .int vtp, .ref qp, .int vpl, .ref qr, .ref qm, .int vpc, .int vst, .int vc, .int vd, .int vs, .int vo, .int vi, .int vn])), (qr, .inl (cL, 11, .inr (.inl gr)))] Hp.size) [(m0, .inr (5, [.int vth, .ref qt, .int vtp, .ref qp, .int vpl, .ref qr, .ref qm, .int vpc, .int vst, .int vc, .int vd, .int vs, .int vo, .int vi, .int (u.2)])), (qr, .inl (cL, 11, .inr (.inl (u.1))))]) (va_A [(m0, .inr (5, [.int vth, .ref qt, .int vtp, .ref qp, .int vpl, .ref qr, .ref qm, .int vpc, .int vst, .int vc, .int vd, .int vs, .int vo, .int vi, .int vn])), (qr, .inl (cL, 11, .inr (.inl gr)))] Hp.size)) 0 0 (va_A [(m0, .inr (5, [.int vth, .ref qt, .int vtp, .ref qp, .int vpl, .ref qr, .ref qm, .int vpc, .int vst, .int vc, .int vd, .int vs, .int vo, .int vi, .int vn])), (qr, .inl (cL, 11, .inr (.inl gr)))] Hp.size) := by
  refine Met.ofW (cc := cMo_jump) (maxL := 7) (ret := none) (by decide) rfl ?_
  intro p e s m args below meth c s₁ B hml hv
  obtain ⟨rfl, rfl, hK⟩ := hv
  have hx := B.exec
  have hb := B.bytes
  have hr := B.returns
  have hT : ∀ w ∈ tB, w.before _ s = true := fun w h => atoms_spec (ws := wsMo_jump) B.pre w (List.mem_cons_of_mem _ h)
  have hown : s.vm.findClass "CompiledProgramModel" = some m.cls := findClass_of_methodNamed B.named
  have hlocks := B.notSynchronized
  have hD := hD.self (sz := s.heap.size)
  generalize hAe : va_A [(m0, .inr (5, [.int vth, .ref qt, .int vtp, .ref qp, .int vpl, .ref qr, .ref qm, .int vpc, .int vst, .int vc, .int vd, .int vs, .int vo, .int vi, .int vn])), (qr, .inl (cL, 11, .inr (.inl gr)))] s.heap.size = A at hD ⊢
  have hA : ∀ q : Nat, s.heap.size ≤ q → A q := fun q h => by rw [← hAe]; exact Or.inr h
  have hS : va_S A s.heap s.heap [] := va_S.rf
  have hl := lv_entry ([.ref m0, .int a0]) (n := 7) (Nat.le_of_ble_eq_true rfl)
  rw [lg_entry_eq]
  generalize (lg_sl ([.ref m0, .int a0]) ++ List.replicate (7 - (lg_sl ([.ref m0, .int a0])).length) Slot.unset).toArray = ls at hl ⊢
  have hl : lv_has ls 7 [(0, .ref m0), (1, .int a0)] := hl
  refine lv_aload_n hx hb dMo_jump_0 rfl (lv_at hl 0 rfl) ?_
  have hPc := hP.sub (ws' := [(m0, .inr (5, [.int vth, .ref qt, .int vtp, .ref qp, .int vpl, .ref qr, .ref qm, .int vpc, .int vst, .int vc, .int vd, .int vs, .int vo, .int vi, .int vn]))]) [0] rfl
  refine va_calli (va_runV (As := []) (rest := []) ⟨hx, hb, hml, hown, hT⟩ (c_Mo_n l G cB cL cI s.heap m0 vth qt vtp qp vpl qr qm vpc vst vc vd vs vo vi vn hPc ) (cwV 0 hT (gB_V mw_651 mw_653 ms_6 mw_6 mw_654) rfl rfl rfl (by decide +kernel) ⟨Nat.le_of_ble_eq_true rfl, Nat.le_of_ble_eq_true rfl⟩) ⟨fun a U g mk q => ⟨q.1, q.2.1, va_K.moved (u := U) (U := U.calling g mk a) (Vm.Alike.refl U.vm) q.2.2⟩, va_recv hK hPc (ci := 5) (q0 := 0) rfl rfl, fun U hU hW => ⟨rfl, hU, va_K.moved hW.alike hK⟩⟩ rfl rfl hl.1 rfl (lv_room (Nat.le_of_ble_eq_true rfl)) dMo_jump_1 ⟨Nat.zero_le _, Nat.zero_le _⟩) hS (fun _ _ h => h.elim) (fun _ h => h.elim) (fun r u t H1 locs ht hvm hw hB hz8 hk8 hS => ?_)
  obtain rfl : s.heap = H1 := hB.symm.trans ht
  subst hw
  refine lv_bipush (v := (8 : Int32)) hx hb dMo_jump_4 (by decide) ?_
  refine lv_icmp_ne (tgt := 14) hx hb dMo_jump_6 (by decide) (fun c1 => ?_) (fun c1 => ?_)
  · skip
    refine lv_aload_n hx hb dMo_jump_14 rfl (lv_at hl 0 rfl) ?_
    have hPc := hP.sub (ws' := [(m0, .inr (5, [.int vth, .ref qt, .int vtp, .ref qp, .int vpl, .ref qr, .ref qm, .int vpc, .int vst, .int vc, .int vd, .int vs, .int vo, .int vi, .int vn]))]) [0] rfl
    refine va_calli (va_runV (As := []) (rest := []) ⟨hx, hb, hml, hown, hT⟩ (c_Mo_n l G cB cL cI s.heap m0 vth qt vtp qp vpl qr qm vpc vst vc vd vs vo vi vn hPc ) (cwV 0 hT (gB_V mw_651 mw_653 ms_6 mw_6 mw_654) rfl rfl rfl (by decide +kernel) ⟨Nat.le_of_ble_eq_true rfl, Nat.le_of_ble_eq_true rfl⟩) ⟨fun a U g mk q => ⟨q.1, q.2.1, va_K.moved (u := U) (U := U.calling g mk a) (Vm.Alike.refl U.vm) q.2.2⟩, va_recv hK hPc (ci := 5) (q0 := 0) rfl rfl, fun U hU hW => ⟨rfl, hU, va_K.moved hW.alike hK⟩⟩ rfl rfl hl.1 rfl (lv_room (Nat.le_of_ble_eq_true rfl)) dMo_jump_15 ⟨Nat.zero_le _, Nat.zero_le _⟩) hS (fun _ _ h => h.elim) (fun _ h => h.elim) (fun r u t H1 locs ht hvm hw hB hz8 hk8 hS => ?_)
    obtain rfl : s.heap = H1 := hB.symm.trans ht
    subst hw
    refine lv_if_ne (tgt := 50) hx hb dMo_jump_18 (by decide) (fun c2 => ?_) (fun c2 => ?_)
    · skip
      refine lv_aload_n hx hb dMo_jump_50 rfl (lv_at hl 0 rfl) ?_
      have hPc := hP.sub (ws' := [(m0, .inr (5, [.int vth, .ref qt, .int vtp, .ref qp, .int vpl, .ref qr, .ref qm, .int vpc, .int vst, .int vc, .int vd, .int vs, .int vo, .int vi, .int vn]))]) [0] rfl
      refine va_calli (va_runV (As := []) (rest := []) ⟨hx, hb, hml, hown, hT⟩ (c_Mo_kind l G cB cL cI s.heap m0 vth qt vtp qp vpl qr qm vpc vst vc vd vs vo vi vn hPc ) (cwV 0 hT (gB_V mw_643 mw_645 ms_4 mw_6 mw_646) rfl rfl rfl (by decide +kernel) ⟨Nat.le_of_ble_eq_true rfl, Nat.le_of_ble_eq_true rfl⟩) ⟨fun a U g mk q => ⟨q.1, q.2.1, va_K.moved (u := U) (U := U.calling g mk a) (Vm.Alike.refl U.vm) q.2.2⟩, va_recv hK hPc (ci := 5) (q0 := 0) rfl rfl, fun U hU hW => ⟨rfl, hU, va_K.moved hW.alike hK⟩⟩ rfl rfl hl.1 rfl (lv_room (Nat.le_of_ble_eq_true rfl)) dMo_jump_51 ⟨Nat.zero_le _, Nat.zero_le _⟩) hS (fun _ _ h => h.elim) (fun _ h => h.elim) (fun r u t H1 locs ht hvm hw hB hz8 hk8 hS => ?_)
      obtain rfl : s.heap = H1 := hB.symm.trans ht
      subst hw
      refine lv_iconst (v := (5 : Int32)) hx hb dMo_jump_54 (by decide) ?_
      have jn3 : ∀ (x3 : Int32), x3 = (if (f_Mo_kind vc) = (5 : Int32) then (64 : Int32) else (32 : Int32)) → ∀ (locs : List Loc), va_S A s.heap s.heap locs → W p l e (headSpec wsMo_jump ({ frames := 2, cells := 0, slots := 0, locals := 47 })).room s m ([.ref m0, .int a0] : List Value).toArray below meth c s.heap locs 0 0 (MQ below (va_Qv (fun (u : (Nat → Int64) × (Int32)) => u = (f_Mo_jump vc vd vs vo vi vn gr a0)) (fun (u : (Nat → Int64) × (Int32)) t => va_P G vwCl [(m0, .inr (5, [.int vth, .ref qt, .int vtp, .ref qp, .int vpl, .ref qr, .ref qm, .int vpc, .int vst, .int vc, .int vd, .int vs, .int vo, .int vi, .int (u.2)])), (qr, .inl (cL, 11, .inr (.inl (u.1))))] t.heap ∧ va_D (A) [(m0, .inr (5, [.int vth, .ref qt, .int vtp, .ref qp, .int vpl, .ref qr, .ref qm, .int vpc, .int vst, .int vc, .int vd, .int vs, .int vo, .int vi, .int (u.2)])), (qr, .inl (cL, 11, .inr (.inl (u.1))))]) (A)) ([.ref m0, .int a0] : List Value).toArray s 0 0 A) (F0 m 65 ls [.int x3]) := by
        intro x3 hx3 locs hS
        subst hx3
        refine lv_istore_n (lv' := [(2, .int (if (f_Mo_kind vc) = (5 : Int32) then (64 : Int32) else (32 : Int32))), (0, .ref m0), (1, .int a0)]) hx hb dMo_jump_65 rfl hl (by decide) rfl (fun ls hl => ?_)
        refine lv_aload_n hx hb dMo_jump_66 rfl (lv_at hl 1 rfl) ?_
        refine va_get (D := G) (ci := 5) (v := .ref qr) (C := RMo) (T := TMo) (N := 15) hx hb hT inMo hown hK hP 0 rfl rfl 5 (by decide) (hT _ mw_570) (fun _ h9 => h9) rfl dMo_jump_67 ?_
        refine lv_aload_n hx hb dMo_jump_70 rfl (lv_at hl 1 rfl) ?_
        refine va_get (D := G) (ci := 5) (v := .int vd) (C := RMo) (T := TMo) (N := 15) hx hb hT inMo hown hK hP 0 rfl rfl 10 (by decide) (hT _ mw_575) (fun _ h9 => h9) rfl dMo_jump_71 ?_
        refine va_lald hx hb hK hP 1 1 rfl rfl hd dMo_jump_74 ?_
        refine lv_iload_n hx hb dMo_jump_75 rfl (lv_at hl 0 rfl) ?_
        have hPc := hP.sub (ws' := []) [] rfl
        refine va_calll (va_runS (As := [.long (gr vd.toNatClampNeg), .int (if (f_Mo_kind vc) = (5 : Int32) then (64 : Int32) else (32 : Int32))]) (rest := []) ⟨hx, hb, hml, hown, hT⟩ (c_Mo_signed l G cB cL cI s.heap (gr vd.toNatClampNeg) (if (f_Mo_kind vc) = (5 : Int32) then (64 : Int32) else (32 : Int32)) hPc ) (cwS 2 hT (gB_S mw_759 mw_760 mw_6 mw_761) rfl rfl rfl (by decide +kernel) ⟨Nat.le_of_ble_eq_true rfl, Nat.le_of_ble_eq_true rfl⟩) ⟨fun a U g mk q => ⟨q.1, q.2.1, va_K.moved (u := U) (U := U.calling g mk a) (Vm.Alike.refl U.vm) q.2.2⟩, fun U hU hW => ⟨rfl, hU, va_K.moved hW.alike hK⟩⟩ rfl rfl hl.1 rfl (lv_room (Nat.le_of_ble_eq_true rfl)) dMo_jump_76 ⟨Nat.zero_le _, Nat.zero_le _⟩) hS (fun _ _ h => h.elim) (fun _ h => h.elim) (fun r u t H1 locs ht hvm hw hB hz8 hk8 hS => ?_)
        obtain rfl : s.heap = H1 := hB.symm.trans ht
        subst hw
        refine lv_lstore_n (lv' := [(3, .long (f_Mo_signed (gr vd.toNatClampNeg) (if (f_Mo_kind vc) = (5 : Int32) then (64 : Int32) else (32 : Int32)))), (2, .int (if (f_Mo_kind vc) = (5 : Int32) then (64 : Int32) else (32 : Int32))), (0, .ref m0), (1, .int a0)]) hx hb dMo_jump_79 rfl hl (by decide) rfl (fun ls hl => ?_)
        refine lv_aload_n hx hb dMo_jump_80 rfl (lv_at hl 2 rfl) ?_
        have hPc := hP.sub (ws' := [(m0, .inr (5, [.int vth, .ref qt, .int vtp, .ref qp, .int vpl, .ref qr, .ref qm, .int vpc, .int vst, .int vc, .int vd, .int vs, .int vo, .int vi, .int vn]))]) [0] rfl
        refine va_calli (va_runV (As := []) (rest := []) ⟨hx, hb, hml, hown, hT⟩ (c_Mo_bit3 l G cB cL cI s.heap m0 vth qt vtp qp vpl qr qm vpc vst vc vd vs vo vi vn hPc ) (cwV 0 hT (gB_V mw_655 mw_657 ms_7 mw_6 mw_658) rfl rfl rfl (by decide +kernel) ⟨Nat.le_of_ble_eq_true rfl, Nat.le_of_ble_eq_true rfl⟩) ⟨fun a U g mk q => ⟨q.1, q.2.1, va_K.moved (u := U) (U := U.calling g mk a) (Vm.Alike.refl U.vm) q.2.2⟩, va_recv hK hPc (ci := 5) (q0 := 0) rfl rfl, fun U hU hW => ⟨rfl, hU, va_K.moved hW.alike hK⟩⟩ rfl rfl hl.1 rfl (lv_room (Nat.le_of_ble_eq_true rfl)) dMo_jump_81 ⟨Nat.zero_le _, Nat.zero_le _⟩) hS (fun _ _ h => h.elim) (fun _ h => h.elim) (fun r u t H1 locs ht hvm hw hB hz8 hk8 hS => ?_)
        obtain rfl : s.heap = H1 := hB.symm.trans ht
        subst hw
        have jn4 : ∀ (x4 : Int64), x4 = (if (f_Mo_bit3 vc) = true then (gr vs.toNatClampNeg) else ((vi).toInt64)) → ∀ (locs : List Loc), va_S A s.heap s.heap locs → W p l e (headSpec wsMo_jump ({ frames := 2, cells := 0, slots := 0, locals := 47 })).room s m ([.ref m0, .int a0] : List Value).toArray below meth c s.heap locs 0 0 (MQ below (va_Qv (fun (u : (Nat → Int64) × (Int32)) => u = (f_Mo_jump vc vd vs vo vi vn gr a0)) (fun (u : (Nat → Int64) × (Int32)) t => va_P G vwCl [(m0, .inr (5, [.int vth, .ref qt, .int vtp, .ref qp, .int vpl, .ref qr, .ref qm, .int vpc, .int vst, .int vc, .int vd, .int vs, .int vo, .int vi, .int (u.2)])), (qr, .inl (cL, 11, .inr (.inl (u.1))))] t.heap ∧ va_D (A) [(m0, .inr (5, [.int vth, .ref qt, .int vtp, .ref qp, .int vpl, .ref qr, .ref qm, .int vpc, .int vst, .int vc, .int vd, .int vs, .int vo, .int vi, .int (u.2)])), (qr, .inl (cL, 11, .inr (.inl (u.1))))]) (A)) ([.ref m0, .int a0] : List Value).toArray s 0 0 A) (F0 m 104 ls [.long x4]) := by
          intro x4 hx4 locs hS
          subst hx4
          refine lv_iload_n hx hb dMo_jump_104 rfl (lv_at hl 1 rfl) ?_
          have hPc := hP.sub (ws' := []) [] rfl
          refine va_calll (va_runS (As := [.long (if (f_Mo_bit3 vc) = true then (gr vs.toNatClampNeg) else ((vi).toInt64)), .int (if (f_Mo_kind vc) = (5 : Int32) then (64 : Int32) else (32 : Int32))]) (rest := []) ⟨hx, hb, hml, hown, hT⟩ (c_Mo_signed l G cB cL cI s.heap (if (f_Mo_bit3 vc) = true then (gr vs.toNatClampNeg) else ((vi).toInt64)) (if (f_Mo_kind vc) = (5 : Int32) then (64 : Int32) else (32 : Int32)) hPc ) (cwS 2 hT (gB_S mw_759 mw_760 mw_6 mw_761) rfl rfl rfl (by decide +kernel) ⟨Nat.le_of_ble_eq_true rfl, Nat.le_of_ble_eq_true rfl⟩) ⟨fun a U g mk q => ⟨q.1, q.2.1, va_K.moved (u := U) (U := U.calling g mk a) (Vm.Alike.refl U.vm) q.2.2⟩, fun U hU hW => ⟨rfl, hU, va_K.moved hW.alike hK⟩⟩ rfl rfl hl.1 rfl (lv_room (Nat.le_of_ble_eq_true rfl)) dMo_jump_105 ⟨Nat.zero_le _, Nat.zero_le _⟩) hS (fun _ _ h => h.elim) (fun _ h => h.elim) (fun r u t H1 locs ht hvm hw hB hz8 hk8 hS => ?_)
          obtain rfl : s.heap = H1 := hB.symm.trans ht
          subst hw
          refine lv_lstore (lv' := [(5, .long (f_Mo_signed (if (f_Mo_bit3 vc) = true then (gr vs.toNatClampNeg) else ((vi).toInt64)) (if (f_Mo_kind vc) = (5 : Int32) then (64 : Int32) else (32 : Int32)))), (3, .long (f_Mo_signed (gr vd.toNatClampNeg) (if (f_Mo_kind vc) = (5 : Int32) then (64 : Int32) else (32 : Int32)))), (2, .int (if (f_Mo_kind vc) = (5 : Int32) then (64 : Int32) else (32 : Int32))), (0, .ref m0), (1, .int a0)]) hx hb dMo_jump_108 hl (by decide) rfl (fun ls hl => ?_)
          refine lv_aload_n hx hb dMo_jump_110 rfl (lv_at hl 3 rfl) ?_
          refine lv_aload_n hx hb dMo_jump_111 rfl (lv_at hl 3 rfl) ?_
          refine lv_lload_n hx hb dMo_jump_112 rfl (lv_at hl 1 rfl) ?_
          refine lv_lload hx hb dMo_jump_113 (lv_at hl 0 rfl) ?_
          have hPc := hP.sub (ws' := [(m0, .inr (5, [.int vth, .ref qt, .int vtp, .ref qp, .int vpl, .ref qr, .ref qm, .int vpc, .int vst, .int vc, .int vd, .int vs, .int vo, .int vi, .int vn]))]) [0] rfl
          refine va_calli (va_runV (As := [.long (f_Mo_signed (gr vd.toNatClampNeg) (if (f_Mo_kind vc) = (5 : Int32) then (64 : Int32) else (32 : Int32))), .long (f_Mo_signed (if (f_Mo_bit3 vc) = true then (gr vs.toNatClampNeg) else ((vi).toInt64)) (if (f_Mo_kind vc) = (5 : Int32) then (64 : Int32) else (32 : Int32)))]) (rest := [.ref m0]) ⟨hx, hb, hml, hown, hT⟩ (c_Mo_isSo l G cB cL cI s.heap m0 vth qt vtp qp vpl qr qm vpc vst vc vd vs vo vi vn (f_Mo_signed (gr vd.toNatClampNeg) (if (f_Mo_kind vc) = (5 : Int32) then (64 : Int32) else (32 : Int32))) (f_Mo_signed (if (f_Mo_bit3 vc) = true then (gr vs.toNatClampNeg) else ((vi).toInt64)) (if (f_Mo_kind vc) = (5 : Int32) then (64 : Int32) else (32 : Int32))) hPc ) (cwV 2 hT (gB_V mw_771 mw_773 ms_23 mw_6 mw_774) rfl rfl rfl (by decide +kernel) ⟨Nat.le_of_ble_eq_true rfl, Nat.le_of_ble_eq_true rfl⟩) ⟨fun a U g mk q => ⟨q.1, q.2.1, va_K.moved (u := U) (U := U.calling g mk a) (Vm.Alike.refl U.vm) q.2.2⟩, va_recv hK hPc (ci := 5) (q0 := 0) rfl rfl, fun U hU hW => ⟨rfl, hU, va_K.moved hW.alike hK⟩⟩ rfl rfl hl.1 rfl (lv_room (Nat.le_of_ble_eq_true rfl)) dMo_jump_115 ⟨Nat.zero_le _, Nat.zero_le _⟩) hS (fun _ _ h => h.elim) (fun _ h => h.elim) (fun r u t H1 locs ht hvm hw hB hz8 hk8 hS => ?_)
          obtain rfl : s.heap = H1 := hB.symm.trans ht
          subst hw
          have jn5 : ∀ (x5 : Int32), x5 = (if (f_Mo_isSo vc (f_Mo_signed (gr vd.toNatClampNeg) (if (f_Mo_kind vc) = (5 : Int32) then (64 : Int32) else (32 : Int32))) (f_Mo_signed (if (f_Mo_bit3 vc) = true then (gr vs.toNatClampNeg) else ((vi).toInt64)) (if (f_Mo_kind vc) = (5 : Int32) then (64 : Int32) else (32 : Int32)))) = true then ((a0 + (1 : Int32)) + vo) else vn) → ∀ (locs : List Loc), va_S A s.heap s.heap locs → W p l e (headSpec wsMo_jump ({ frames := 2, cells := 0, slots := 0, locals := 47 })).room s m ([.ref m0, .int a0] : List Value).toArray below meth c s.heap locs 0 0 (MQ below (va_Qv (fun (u : (Nat → Int64) × (Int32)) => u = (f_Mo_jump vc vd vs vo vi vn gr a0)) (fun (u : (Nat → Int64) × (Int32)) t => va_P G vwCl [(m0, .inr (5, [.int vth, .ref qt, .int vtp, .ref qp, .int vpl, .ref qr, .ref qm, .int vpc, .int vst, .int vc, .int vd, .int vs, .int vo, .int vi, .int (u.2)])), (qr, .inl (cL, 11, .inr (.inl (u.1))))] t.heap ∧ va_D (A) [(m0, .inr (5, [.int vth, .ref qt, .int vtp, .ref qp, .int vpl, .ref qr, .ref qm, .int vpc, .int vst, .int vc, .int vd, .int vs, .int vo, .int vi, .int (u.2)])), (qr, .inl (cL, 11, .inr (.inl (u.1))))]) (A)) ([.ref m0, .int a0] : List Value).toArray s 0 0 A) (F0 m 136 ls [.int x5, .ref m0]) := by
            intro x5 hx5 locs hS
            subst hx5
            refine va_put (D := G) (ci := 5) (v := .int (if (f_Mo_isSo vc (f_Mo_signed (gr vd.toNatClampNeg) (if (f_Mo_kind vc) = (5 : Int32) then (64 : Int32) else (32 : Int32))) (f_Mo_signed (if (f_Mo_bit3 vc) = true then (gr vs.toNatClampNeg) else ((vi).toInt64)) (if (f_Mo_kind vc) = (5 : Int32) then (64 : Int32) else (32 : Int32)))) = true then ((a0 + (1 : Int32)) + vo) else vn)) (ty := .int) (C := RMo) (T := TMo) (N := 15) hx hb hT inMo tyMo tyMo_ok nmMo hown hK hP hD hS 0 rfl rfl 14 (by decide) (hT _ mw_579) (fun _ h9 => h9) rfl (by decide +kernel) rfl rfl (Nat.le_of_ble_eq_true rfl) dMo_jump_136 (fun H locs hP hD hS => ?_)
            have hP : va_P G vwCl [(m0, .inr (5, [.int vth, .ref qt, .int vtp, .ref qp, .int vpl, .ref qr, .ref qm, .int vpc, .int vst, .int vc, .int vd, .int vs, .int vo, .int vi, .int (if (f_Mo_isSo vc (f_Mo_signed (gr vd.toNatClampNeg) (if (f_Mo_kind vc) = (5 : Int32) then (64 : Int32) else (32 : Int32))) (f_Mo_signed (if (f_Mo_bit3 vc) = true then (gr vs.toNatClampNeg) else ((vi).toInt64)) (if (f_Mo_kind vc) = (5 : Int32) then (64 : Int32) else (32 : Int32)))) = true then ((a0 + (1 : Int32)) + vo) else vn)])), (qr, .inl (cL, 11, .inr (.inl gr)))] H := hP
            have hD : va_D A [(m0, .inr (5, [.int vth, .ref qt, .int vtp, .ref qp, .int vpl, .ref qr, .ref qm, .int vpc, .int vst, .int vc, .int vd, .int vs, .int vo, .int vi, .int (if (f_Mo_isSo vc (f_Mo_signed (gr vd.toNatClampNeg) (if (f_Mo_kind vc) = (5 : Int32) then (64 : Int32) else (32 : Int32))) (f_Mo_signed (if (f_Mo_bit3 vc) = true then (gr vs.toNatClampNeg) else ((vi).toInt64)) (if (f_Mo_kind vc) = (5 : Int32) then (64 : Int32) else (32 : Int32)))) = true then ((a0 + (1 : Int32)) + vo) else vn)])), (qr, .inl (cL, 11, .inr (.inl gr)))] := hD
            have hP9 := hP.sub (ws' := [(m0, .inr (5, [.int vth, .ref qt, .int vtp, .ref qp, .int vpl, .ref qr, .ref qm, .int vpc, .int vst, .int vc, .int vd, .int vs, .int vo, .int vi, .int (if (f_Mo_isSo vc (f_Mo_signed (gr vd.toNatClampNeg) (if (f_Mo_kind vc) = (5 : Int32) then (64 : Int32) else (32 : Int32))) (f_Mo_signed (if (f_Mo_bit3 vc) = true then (gr vs.toNatClampNeg) else ((vi).toInt64)) (if (f_Mo_kind vc) = (5 : Int32) then (64 : Int32) else (32 : Int32)))) = true then ((a0 + (1 : Int32)) + vo) else vn)])), (qr, .inl (cL, 11, .inr (.inl gr)))]) [0, 1] rfl
            have hD9 := hD.sub (ws' := [(m0, .inr (5, [.int vth, .ref qt, .int vtp, .ref qp, .int vpl, .ref qr, .ref qm, .int vpc, .int vst, .int vc, .int vd, .int vs, .int vo, .int vi, .int (if (f_Mo_isSo vc (f_Mo_signed (gr vd.toNatClampNeg) (if (f_Mo_kind vc) = (5 : Int32) then (64 : Int32) else (32 : Int32))) (f_Mo_signed (if (f_Mo_bit3 vc) = true then (gr vs.toNatClampNeg) else ((vi).toInt64)) (if (f_Mo_kind vc) = (5 : Int32) then (64 : Int32) else (32 : Int32)))) = true then ((a0 + (1 : Int32)) + vo) else vn)])), (qr, .inl (cL, 11, .inr (.inl gr)))]) [0, 1] (by decide) rfl
            exact W.vret hx hb hr (fun t ht hW => ⟨⟨(gr, (if (f_Mo_isSo vc (f_Mo_signed (gr vd.toNatClampNeg) (if (f_Mo_kind vc) = (5 : Int32) then (64 : Int32) else (32 : Int32))) (f_Mo_signed (if (f_Mo_bit3 vc) = true then (gr vs.toNatClampNeg) else ((vi).toInt64)) (if (f_Mo_kind vc) = (5 : Int32) then (64 : Int32) else (32 : Int32)))) = true then ((a0 + (1 : Int32)) + vo) else vn)), rfl, (by unfold f_Mo_jump; rw [if_neg c1, if_neg c2]; try rfl), by rw [ht]; exact hP9, hD9⟩, hS.F ht⟩) hS.2.2 dMo_jump_139
          refine lv_if_eq (tgt := 132) hx hb dMo_jump_118 (by decide) (fun c6 => ?_) (fun c6 => ?_)
          · have c6 := bI_z c6
            refine lv_aload_n hx hb dMo_jump_132 rfl (lv_at hl 3 rfl) ?_
            refine va_get (D := G) (ci := 5) (v := .int vn) (C := RMo) (T := TMo) (N := 15) hx hb hT inMo hown hK hP 0 rfl rfl 14 (by decide) (hT _ mw_579) (fun _ h9 => h9) rfl dMo_jump_133 ?_
            exact jn5 vn (by rw [if_neg c6]) _ hS
          · have c6 := bI_n c6
            refine lv_iload_n hx hb dMo_jump_121 rfl (lv_at hl 4 rfl) ?_
            refine lv_iconst (v := (1 : Int32)) hx hb dMo_jump_122 (by decide) ?_
            refine lv_iadd hx hb dMo_jump_123 ?_
            refine lv_aload_n hx hb dMo_jump_124 rfl (lv_at hl 3 rfl) ?_
            refine va_get (D := G) (ci := 5) (v := .int vo) (C := RMo) (T := TMo) (N := 15) hx hb hT inMo hown hK hP 0 rfl rfl 12 (by decide) (hT _ mw_577) (fun _ h9 => h9) rfl dMo_jump_125 ?_
            refine lv_iadd hx hb dMo_jump_128 ?_
            refine lv_goto (tgt := 136) hx hb dMo_jump_129 (by decide) ?_
            exact jn5 ((a0 + (1 : Int32)) + vo) (by rw [if_pos c6]) _ hS
        refine lv_if_eq (tgt := 99) hx hb dMo_jump_84 (by decide) (fun c7 => ?_) (fun c7 => ?_)
        · have c7 := bI_z c7
          refine lv_aload_n hx hb dMo_jump_99 rfl (lv_at hl 2 rfl) ?_
          refine va_get (D := G) (ci := 5) (v := .int vi) (C := RMo) (T := TMo) (N := 15) hx hb hT inMo hown hK hP 0 rfl rfl 13 (by decide) (hT _ mw_578) (fun _ h9 => h9) rfl dMo_jump_100 ?_
          refine lv_i2l hx hb dMo_jump_103 rfl ?_
          exact jn4 ((vi).toInt64) (by rw [if_neg c7]) _ hS
        · have c7 := bI_n c7
          refine lv_aload_n hx hb dMo_jump_87 rfl (lv_at hl 2 rfl) ?_
          refine va_get (D := G) (ci := 5) (v := .ref qr) (C := RMo) (T := TMo) (N := 15) hx hb hT inMo hown hK hP 0 rfl rfl 5 (by decide) (hT _ mw_570) (fun _ h9 => h9) rfl dMo_jump_88 ?_
          refine lv_aload_n hx hb dMo_jump_91 rfl (lv_at hl 2 rfl) ?_
          refine va_get (D := G) (ci := 5) (v := .int vs) (C := RMo) (T := TMo) (N := 15) hx hb hT inMo hown hK hP 0 rfl rfl 11 (by decide) (hT _ mw_576) (fun _ h9 => h9) rfl dMo_jump_92 ?_
          refine va_lald hx hb hK hP 1 1 rfl rfl hs dMo_jump_95 ?_
          refine lv_goto (tgt := 104) hx hb dMo_jump_96 (by decide) ?_
          exact jn4 (gr vs.toNatClampNeg) (by rw [if_pos c7]) _ hS
      refine lv_icmp_ne (tgt := 63) hx hb dMo_jump_55 (by decide) (fun c8 => ?_) (fun c8 => ?_)
      · skip
        refine lv_bipush (v := (32 : Int32)) hx hb dMo_jump_63 (by decide) ?_
        exact jn3 (32 : Int32) (by rw [if_neg c8]) _ hS
      · skip
        refine lv_bipush (v := (64 : Int32)) hx hb dMo_jump_58 (by decide) ?_
        refine lv_goto (tgt := 65) hx hb dMo_jump_60 (by decide) ?_
        exact jn3 (64 : Int32) (by rw [if_pos c8]) _ hS
    · skip
      refine lv_aload_n hx hb dMo_jump_21 rfl (lv_at hl 0 rfl) ?_
      refine lv_iload_n hx hb dMo_jump_22 rfl (lv_at hl 1 rfl) ?_
      refine lv_iconst (v := (1 : Int32)) hx hb dMo_jump_23 (by decide) ?_
      refine lv_iadd hx hb dMo_jump_24 ?_
      refine lv_aload_n hx hb dMo_jump_25 rfl (lv_at hl 0 rfl) ?_
      have hPc := hP.sub (ws' := [(m0, .inr (5, [.int vth, .ref qt, .int vtp, .ref qp, .int vpl, .ref qr, .ref qm, .int vpc, .int vst, .int vc, .int vd, .int vs, .int vo, .int vi, .int vn]))]) [0] rfl
      refine va_calli (va_runV (As := []) (rest := [.int (a0 + (1 : Int32)), .ref m0]) ⟨hx, hb, hml, hown, hT⟩ (c_Mo_kind l G cB cL cI s.heap m0 vth qt vtp qp vpl qr qm vpc vst vc vd vs vo vi vn hPc ) (cwV 0 hT (gB_V mw_643 mw_645 ms_4 mw_6 mw_646) rfl rfl rfl (by decide +kernel) ⟨Nat.le_of_ble_eq_true rfl, Nat.le_of_ble_eq_true rfl⟩) ⟨fun a U g mk q => ⟨q.1, q.2.1, va_K.moved (u := U) (U := U.calling g mk a) (Vm.Alike.refl U.vm) q.2.2⟩, va_recv hK hPc (ci := 5) (q0 := 0) rfl rfl, fun U hU hW => ⟨rfl, hU, va_K.moved hW.alike hK⟩⟩ rfl rfl hl.1 rfl (lv_room (Nat.le_of_ble_eq_true rfl)) dMo_jump_26 ⟨Nat.zero_le _, Nat.zero_le _⟩) hS (fun _ _ h => h.elim) (fun _ h => h.elim) (fun r u t H1 locs ht hvm hw hB hz8 hk8 hS => ?_)
      obtain rfl : s.heap = H1 := hB.symm.trans ht
      subst hw
      refine lv_bipush (v := (6 : Int32)) hx hb dMo_jump_29 (by decide) ?_
      have jn9 : ∀ (x9 : Int32), x9 = (if (f_Mo_kind vc) = (6 : Int32) then vi else vo) → ∀ (locs : List Loc), va_S A s.heap s.heap locs → W p l e (headSpec wsMo_jump ({ frames := 2, cells := 0, slots := 0, locals := 47 })).room s m ([.ref m0, .int a0] : List Value).toArray below meth c s.heap locs 0 0 (MQ below (va_Qv (fun (u : (Nat → Int64) × (Int32)) => u = (f_Mo_jump vc vd vs vo vi vn gr a0)) (fun (u : (Nat → Int64) × (Int32)) t => va_P G vwCl [(m0, .inr (5, [.int vth, .ref qt, .int vtp, .ref qp, .int vpl, .ref qr, .ref qm, .int vpc, .int vst, .int vc, .int vd, .int vs, .int vo, .int vi, .int (u.2)])), (qr, .inl (cL, 11, .inr (.inl (u.1))))] t.heap ∧ va_D (A) [(m0, .inr (5, [.int vth, .ref qt, .int vtp, .ref qp, .int vpl, .ref qr, .ref qm, .int vpc, .int vst, .int vc, .int vd, .int vs, .int vo, .int vi, .int (u.2)])), (qr, .inl (cL, 11, .inr (.inl (u.1))))]) (A)) ([.ref m0, .int a0] : List Value).toArray s 0 0 A) (F0 m 45 ls [.int x9, .int (a0 + (1 : Int32)), .ref m0]) := by
        intro x9 hx9 locs hS
        subst hx9
        refine lv_iadd hx hb dMo_jump_45 ?_
        refine va_put (D := G) (ci := 5) (v := .int ((a0 + (1 : Int32)) + (if (f_Mo_kind vc) = (6 : Int32) then vi else vo))) (ty := .int) (C := RMo) (T := TMo) (N := 15) hx hb hT inMo tyMo tyMo_ok nmMo hown hK hP hD hS 0 rfl rfl 14 (by decide) (hT _ mw_579) (fun _ h9 => h9) rfl (by decide +kernel) rfl rfl (Nat.le_of_ble_eq_true rfl) dMo_jump_46 (fun H locs hP hD hS => ?_)
        have hP : va_P G vwCl [(m0, .inr (5, [.int vth, .ref qt, .int vtp, .ref qp, .int vpl, .ref qr, .ref qm, .int vpc, .int vst, .int vc, .int vd, .int vs, .int vo, .int vi, .int ((a0 + (1 : Int32)) + (if (f_Mo_kind vc) = (6 : Int32) then vi else vo))])), (qr, .inl (cL, 11, .inr (.inl gr)))] H := hP
        have hD : va_D A [(m0, .inr (5, [.int vth, .ref qt, .int vtp, .ref qp, .int vpl, .ref qr, .ref qm, .int vpc, .int vst, .int vc, .int vd, .int vs, .int vo, .int vi, .int ((a0 + (1 : Int32)) + (if (f_Mo_kind vc) = (6 : Int32) then vi else vo))])), (qr, .inl (cL, 11, .inr (.inl gr)))] := hD
        have hP9 := hP.sub (ws' := [(m0, .inr (5, [.int vth, .ref qt, .int vtp, .ref qp, .int vpl, .ref qr, .ref qm, .int vpc, .int vst, .int vc, .int vd, .int vs, .int vo, .int vi, .int ((a0 + (1 : Int32)) + (if (f_Mo_kind vc) = (6 : Int32) then vi else vo))])), (qr, .inl (cL, 11, .inr (.inl gr)))]) [0, 1] rfl
        have hD9 := hD.sub (ws' := [(m0, .inr (5, [.int vth, .ref qt, .int vtp, .ref qp, .int vpl, .ref qr, .ref qm, .int vpc, .int vst, .int vc, .int vd, .int vs, .int vo, .int vi, .int ((a0 + (1 : Int32)) + (if (f_Mo_kind vc) = (6 : Int32) then vi else vo))])), (qr, .inl (cL, 11, .inr (.inl gr)))]) [0, 1] (by decide) rfl
        exact W.vret hx hb hr (fun t ht hW => ⟨⟨(gr, ((a0 + (1 : Int32)) + (if (f_Mo_kind vc) = (6 : Int32) then vi else vo))), rfl, (by unfold f_Mo_jump; rw [if_neg c1, if_pos c2]; try rfl), by rw [ht]; exact hP9, hD9⟩, hS.F ht⟩) hS.2.2 dMo_jump_49
      refine lv_icmp_ne (tgt := 41) hx hb dMo_jump_31 (by decide) (fun c10 => ?_) (fun c10 => ?_)
      · skip
        refine lv_aload_n hx hb dMo_jump_41 rfl (lv_at hl 0 rfl) ?_
        refine va_get (D := G) (ci := 5) (v := .int vo) (C := RMo) (T := TMo) (N := 15) hx hb hT inMo hown hK hP 0 rfl rfl 12 (by decide) (hT _ mw_577) (fun _ h9 => h9) rfl dMo_jump_42 ?_
        exact jn9 vo (by rw [if_neg c10]) _ hS
      · skip
        refine lv_aload_n hx hb dMo_jump_34 rfl (lv_at hl 0 rfl) ?_
        refine va_get (D := G) (ci := 5) (v := .int vi) (C := RMo) (T := TMo) (N := 15) hx hb hT inMo hown hK hP 0 rfl rfl 13 (by decide) (hT _ mw_578) (fun _ h9 => h9) rfl dMo_jump_35 ?_
        refine lv_goto (tgt := 45) hx hb dMo_jump_38 (by decide) ?_
        exact jn9 vi (by rw [if_pos c10]) _ hS
  · skip
    refine lv_aload_n hx hb dMo_jump_9 rfl (lv_at hl 0 rfl) ?_
    have hPc := hP.sub (ws' := [(m0, .inr (5, [.int vth, .ref qt, .int vtp, .ref qp, .int vpl, .ref qr, .ref qm, .int vpc, .int vst, .int vc, .int vd, .int vs, .int vo, .int vi, .int vn])), (qr, .inl (cL, 11, .inr (.inl gr)))]) [0, 1] rfl
    have hDc := hD.sub (ws' := [(m0, .inr (5, [.int vth, .ref qt, .int vtp, .ref qp, .int vpl, .ref qr, .ref qm, .int vpc, .int vst, .int vc, .int vd, .int vs, .int vo, .int vi, .int vn])), (qr, .inl (cL, 11, .inr (.inl gr)))]) [0, 1] (by decide) rfl
    have hFc := va_free (wc := [(m0, .inr (5, [.int vth, .ref qt, .int vtp, .ref qp, .int vpl, .ref qr, .ref qm, .int vpc, .int vst, .int vc, .int vd, .int vs, .int vo, .int vi, .int vn])), (qr, .inl (cL, 11, .inr (.inl gr)))]) hD hS hA [0, 1] rfl
    refine va_callv (va_runV (As := []) (rest := []) ⟨hx, hb, hml, hown, hT⟩ (c_Mo_call l G cB cL cI s.heap m0 vth qt vtp qp vpl qr qm vpc vst vc vd vs vo vi vn gr hPc (hDc.weaken (fun _ _ _ _ => trivial))) (cwV 0 hT (gB_V mw_766 mw_768 ms_22 mw_6 mw_769) rfl rfl rfl (by decide +kernel) ⟨Nat.le_of_ble_eq_true rfl, Nat.le_of_ble_eq_true rfl⟩) ⟨fun a U g mk q => ⟨q.1, q.2.1, va_K.moved (u := U) (U := U.calling g mk a) (Vm.Alike.refl U.vm) q.2.2⟩, va_recv hK hPc (ci := 5) (q0 := 0) rfl rfl, fun U hU hW => ⟨rfl, hU, va_K.moved hW.alike hK⟩⟩ rfl rfl hl.1 rfl (lv_room (Nat.le_of_ble_eq_true rfl)) dMo_jump_10 ⟨Nat.zero_le _, Nat.zero_le _⟩) hS (fun q _ h => hFc q h) hFc (fun u t H locs ht hvm hw hB hz8 hk8 hS => ?_)
    subst hw
    obtain ⟨hP1, hD1⟩ := hB
    rw [ht] at hP1
    obtain ⟨hP, hD⟩ := va_join (wr := []) (w1 := [(m0, .inr (5, [.int vth, .ref qt, .int vtp, .ref qp, .int vpl, .ref qr, .ref qm, .int vpc, .int vst, .int vc, .int vd, .int vs, .int vo, .int vi, .int vn])), (qr, .inl (cL, 11, .inr (.inl ((f_Mo_call vi gr)))))]) hP hD [0, 1] [] rfl rfl (by decide) (by decide) hk8 hFc hP1 hD1
    have hP : va_P G vwCl [(m0, .inr (5, [.int vth, .ref qt, .int vtp, .ref qp, .int vpl, .ref qr, .ref qm, .int vpc, .int vst, .int vc, .int vd, .int vs, .int vo, .int vi, .int vn])), (qr, .inl (cL, 11, .inr (.inl ((f_Mo_call vi gr)))))] H := hP
    have hD : va_D A [(m0, .inr (5, [.int vth, .ref qt, .int vtp, .ref qp, .int vpl, .ref qr, .ref qm, .int vpc, .int vst, .int vc, .int vd, .int vs, .int vo, .int vi, .int vn])), (qr, .inl (cL, 11, .inr (.inl ((f_Mo_call vi gr)))))] := hD
    have hP9 := hP.sub (ws' := [(m0, .inr (5, [.int vth, .ref qt, .int vtp, .ref qp, .int vpl, .ref qr, .ref qm, .int vpc, .int vst, .int vc, .int vd, .int vs, .int vo, .int vi, .int vn])), (qr, .inl (cL, 11, .inr (.inl ((f_Mo_call vi gr)))))]) [0, 1] rfl
    have hD9 := hD.sub (ws' := [(m0, .inr (5, [.int vth, .ref qt, .int vtp, .ref qp, .int vpl, .ref qr, .ref qm, .int vpc, .int vst, .int vc, .int vd, .int vs, .int vo, .int vi, .int vn])), (qr, .inl (cL, 11, .inr (.inl ((f_Mo_call vi gr)))))]) [0, 1] (by decide) rfl
    exact W.vret hx hb hr (fun t ht hW => ⟨⟨(((f_Mo_call vi gr)), vn), rfl, (by unfold f_Mo_jump; rw [if_pos c1]; try rfl), by rw [ht]; exact hP9, hD9⟩, hS.F ht⟩) hS.2.2 dMo_jump_13

def f_Mo_atomic (vs : Int32) (vi : Int32) (gr : Nat → Int64) (gm : Nat → Int32) (a0 : Int64) (a1 : Int32) : Bool × (Nat → Int64) × (Nat → Int32) :=
  if (f_Mo_isThere a0 a1) = true then
    if (a0 - (a0 / ((a1).toInt64)) * ((a1).toInt64)) = (0 : Int64) then
      if vi = (241 : Int32) then
        (true, (vp_updL gr (0 : Int32).toNatClampNeg (f_Mo_loadJ gm a0 a1)), ((f_Mo_store gm a0 a1 (if vi = (225 : Int32) then (gr vs.toNatClampNeg) else (if vi = (241 : Int32) then (if (f_Mo_loadJ gm a0 a1) = (f_Mo_lowest (gr (0 : Int32).toNatClampNeg) ((8 : Int32) * a1)) then (gr vs.toNatClampNeg) else (f_Mo_loadJ gm a0 a1)) else (if (vi &&& (-2 : Int32)) = 0 then ((f_Mo_loadJ gm a0 a1) + (gr vs.toNatClampNeg)) else (if (vi &&& (-2 : Int32)) = (64 : Int32) then ((f_Mo_loadJ gm a0 a1) ||| (gr vs.toNatClampNeg)) else (if (vi &&& (-2 : Int32)) = (80 : Int32) then ((f_Mo_loadJ gm a0 a1) &&& (gr vs.toNatClampNeg)) else ((f_Mo_loadJ gm a0 a1) ^^^ (gr vs.toNatClampNeg))))))))))
      else
        if (vi - (vi / (2 : Int32)) * (2 : Int32)) = (1 : Int32) then
          (true, (vp_updL gr vs.toNatClampNeg (f_Mo_loadJ gm a0 a1)), ((f_Mo_store gm a0 a1 (if vi = (225 : Int32) then (gr vs.toNatClampNeg) else (if vi = (241 : Int32) then (if (f_Mo_loadJ gm a0 a1) = (f_Mo_lowest (gr (0 : Int32).toNatClampNeg) ((8 : Int32) * a1)) then (gr vs.toNatClampNeg) else (f_Mo_loadJ gm a0 a1)) else (if (vi &&& (-2 : Int32)) = 0 then ((f_Mo_loadJ gm a0 a1) + (gr vs.toNatClampNeg)) else (if (vi &&& (-2 : Int32)) = (64 : Int32) then ((f_Mo_loadJ gm a0 a1) ||| (gr vs.toNatClampNeg)) else (if (vi &&& (-2 : Int32)) = (80 : Int32) then ((f_Mo_loadJ gm a0 a1) &&& (gr vs.toNatClampNeg)) else ((f_Mo_loadJ gm a0 a1) ^^^ (gr vs.toNatClampNeg))))))))))
        else
          (true, gr, ((f_Mo_store gm a0 a1 (if vi = (225 : Int32) then (gr vs.toNatClampNeg) else (if vi = (241 : Int32) then (if (f_Mo_loadJ gm a0 a1) = (f_Mo_lowest (gr (0 : Int32).toNatClampNeg) ((8 : Int32) * a1)) then (gr vs.toNatClampNeg) else (f_Mo_loadJ gm a0 a1)) else (if (vi &&& (-2 : Int32)) = 0 then ((f_Mo_loadJ gm a0 a1) + (gr vs.toNatClampNeg)) else (if (vi &&& (-2 : Int32)) = (64 : Int32) then ((f_Mo_loadJ gm a0 a1) ||| (gr vs.toNatClampNeg)) else (if (vi &&& (-2 : Int32)) = (80 : Int32) then ((f_Mo_loadJ gm a0 a1) &&& (gr vs.toNatClampNeg)) else ((f_Mo_loadJ gm a0 a1) ^^^ (gr vs.toNatClampNeg))))))))))
    else
      (false, gr, gm)
  else
    (false, gr, gm)
set_option maxHeartbeats 4000000 in
set_option maxRecDepth 100000 in
theorem c_Mo_atomic (l : Launch) (G : va_G) (cB cL cI : ClassId) (Hp : Heap) (m0 : Nat) (vth : Int32) (qt : Nat) (vtp : Int32) (qp : Nat) (vpl : Int32) (qr : Nat) (qm : Nat) (vpc : Int32) (vst : Int32) (vc : Int32) (vd : Int32) (vs : Int32) (vo : Int32) (vi : Int32) (vn : Int32) (gr : Nat → Int64) (gm : Nat → Int32) (a0 : Int64) (a1 : Int32) (hP : va_P G vwCl [(m0, .inr (5, [.int vth, .ref qt, .int vtp, .ref qp, .int vpl, .ref qr, .ref qm, .int vpc, .int vst, .int vc, .int vd, .int vs, .int vo, .int vi, .int vn])), (qr, .inl (cL, 11, .inr (.inl gr))), (qm, .inl (cI, 4096, .inl gm))] Hp) (hD : va_D (fun _ => True) [(m0, .inr (5, [.int vth, .ref qt, .int vtp, .ref qp, .int vpl, .ref qr, .ref qm, .int vpc, .int vst, .int vc, .int vd, .int vs, .int vo, .int vi, .int vn])), (qr, .inl (cL, 11, .inr (.inl gr))), (qm, .inl (cI, 4096, .inl gm))]) (hs : vp_in vs 11) (hz : 1 ≤ a1.toInt ∧ a1.toInt ≤ 8) : Met l yMo_atomic wsMo_atomic ({ frames := 1, cells := 0, slots := 0, locals := 26 }) (va_Pc [.ref m0, .long a0, .int a1] (fun U => U.heap = Hp ∧ va_K G vwCl [(cB, .byte), (cL, .long), (cI, .int)] U)) (va_Qi (fun (r : Int32) (u : (Nat → Int64) × (Nat → Int32)) => r = bI ((f_Mo_atomic vs vi gr gm a0 a1)).1 ∧ u = ((f_Mo_atomic vs vi gr gm a0 a1)).2) (fun (u : (Nat → Int64) × (Nat → Int32)) t => va_P G vwCl [(m0, .inr (5, [.int vth, .ref qt, .int vtp, .ref qp, .int vpl, .ref qr, .ref qm, .int vpc, .int vst, .int vc, .int vd, .int vs, .int vo, .int vi, .int vn])), (qr, .inl (cL, 11, .inr (.inl (u.1)))), (qm, .inl (cI, 4096, .inl (u.2)))] t.heap ∧ va_D (va_A [(m0, .inr (5, [.int vth, .ref qt, .int vtp, .ref qp, .int vpl, .ref qr, .ref qm, .int vpc, .int vst, .int vc, .int vd, .int vs, .int vo, .int vi, .int vn])), (qr, .inl (cL, 11, .inr (.inl gr))), (qm, .inl (cI, 4096, .inl gm))] Hp.size) [(m0, .inr (5, [.int vth, .ref qt, .int vtp, .ref qp, .int vpl, .ref qr, .ref qm, .int vpc, .int vst, .int vc, .int vd, .int vs, .int vo, .int vi, .int vn])), (qr, .inl (cL, 11, .inr (.inl (u.1)))), (qm, .inl (cI, 4096, .inl (u.2)))]) (va_A [(m0, .inr (5, [.int vth, .ref qt, .int vtp, .ref qp, .int vpl, .ref qr, .ref qm, .int vpc, .int vst, .int vc, .int vd, .int vs, .int vo, .int vi, .int vn])), (qr, .inl (cL, 11, .inr (.inl gr))), (qm, .inl (cI, 4096, .inl gm))] Hp.size)) 0 0 (va_A [(m0, .inr (5, [.int vth, .ref qt, .int vtp, .ref qp, .int vpl, .ref qr, .ref qm, .int vpc, .int vst, .int vc, .int vd, .int vs, .int vo, .int vi, .int vn])), (qr, .inl (cL, 11, .inr (.inl gr))), (qm, .inl (cI, 4096, .inl gm))] Hp.size) := by
  refine Met.ofW (cc := cMo_atomic) (maxL := 11) (ret := (some .boolean)) (by decide) rfl ?_
  intro p e s m args below meth c s₁ B hml hv
  obtain ⟨rfl, rfl, hK⟩ := hv
  have hx := B.exec
  have hb := B.bytes
  have hr := B.returns
  have hT : ∀ w ∈ tB, w.before _ s = true := fun w h => atoms_spec (ws := wsMo_atomic) B.pre w (List.mem_cons_of_mem _ h)
  have hown : s.vm.findClass "CompiledProgramModel" = some m.cls := findClass_of_methodNamed B.named
  have hlocks := B.notSynchronized
  have hD := hD.self (sz := s.heap.size)
  generalize hAe : va_A [(m0, .inr (5, [.int vth, .ref qt, .int vtp, .ref qp, .int vpl, .ref qr, .ref qm, .int vpc, .int vst, .int vc, .int vd, .int vs, .int vo, .int vi, .int vn])), (qr, .inl (cL, 11, .inr (.inl gr))), (qm, .inl (cI, 4096, .inl gm))] s.heap.size = A at hD ⊢
  have hA : ∀ q : Nat, s.heap.size ≤ q → A q := fun q h => by rw [← hAe]; exact Or.inr h
  have hS : va_S A s.heap s.heap [] := va_S.rf
  have hl := lv_entry ([.ref m0, .long a0, .int a1]) (n := 11) (Nat.le_of_ble_eq_true rfl)
  rw [lg_entry_eq]
  generalize (lg_sl ([.ref m0, .long a0, .int a1]) ++ List.replicate (11 - (lg_sl ([.ref m0, .long a0, .int a1])).length) Slot.unset).toArray = ls at hl ⊢
  have hl : lv_has ls 11 [(0, .ref m0), (1, .long a0), (3, .int a1)] := hl
  refine lv_lload_n hx hb dMo_atomic_0 rfl (lv_at hl 1 rfl) ?_
  refine lv_iload_n hx hb dMo_atomic_1 rfl (lv_at hl 2 rfl) ?_
  have hPc := hP.sub (ws' := []) [] rfl
  refine va_calli (va_runS (As := [.long a0, .int a1]) (rest := []) ⟨hx, hb, hml, hown, hT⟩ (c_Mo_isThere l G cB cL cI s.heap a0 a1 hPc ) (cwS 2 hT (gB_S mw_707 mw_708 mw_6 mw_709) rfl rfl rfl (by decide +kernel) ⟨Nat.le_of_ble_eq_true rfl, Nat.le_of_ble_eq_true rfl⟩) ⟨fun a U g mk q => ⟨q.1, q.2.1, va_K.moved (u := U) (U := U.calling g mk a) (Vm.Alike.refl U.vm) q.2.2⟩, fun U hU hW => ⟨rfl, hU, va_K.moved hW.alike hK⟩⟩ rfl rfl hl.1 rfl (lv_room (Nat.le_of_ble_eq_true rfl)) dMo_atomic_2 ⟨Nat.zero_le _, Nat.zero_le _⟩) hS (fun _ _ h => h.elim) (fun _ h => h.elim) (fun r u t H1 locs ht hvm hw hB hz8 hk8 hS => ?_)
  obtain rfl : s.heap = H1 := hB.symm.trans ht
  subst hw
  refine lv_if_eq (tgt := 17) hx hb dMo_atomic_5 (by decide) (fun c1 => ?_) (fun c1 => ?_)
  · have c1 := bI_z c1
    refine lv_iconst (v := (0 : Int32)) hx hb dMo_atomic_17 (by decide) ?_
    have hP9 := hP.sub (ws' := [(m0, .inr (5, [.int vth, .ref qt, .int vtp, .ref qp, .int vpl, .ref qr, .ref qm, .int vpc, .int vst, .int vc, .int vd, .int vs, .int vo, .int vi, .int vn])), (qr, .inl (cL, 11, .inr (.inl gr))), (qm, .inl (cI, 4096, .inl gm))]) [0, 1, 2] rfl
    have hD9 := hD.sub (ws' := [(m0, .inr (5, [.int vth, .ref qt, .int vtp, .ref qp, .int vpl, .ref qr, .ref qm, .int vpc, .int vst, .int vc, .int vd, .int vs, .int vo, .int vi, .int vn])), (qr, .inl (cL, 11, .inr (.inl gr))), (qm, .inl (cI, 4096, .inl gm))]) [0, 1, 2] (by decide) rfl
    exact W.zret (v := (0 : Int32)) hx hb hr rfl (fun t ht hW => ⟨⟨(0 : Int32), (gr, gm), rfl, ⟨(by unfold f_Mo_atomic; rw [if_neg c1]; try rfl), (by unfold f_Mo_atomic; rw [if_neg c1]; try rfl)⟩, by rw [ht]; exact hP9, hD9⟩, hS.F ht⟩) hS.2.2 dMo_atomic_18
  · have c1 := bI_n c1
    refine lv_lload_n hx hb dMo_atomic_8 rfl (lv_at hl 1 rfl) ?_
    refine lv_iload_n hx hb dMo_atomic_9 rfl (lv_at hl 2 rfl) ?_
    refine lv_i2l hx hb dMo_atomic_10 rfl ?_
    refine lv_lrem hx hb dMo_atomic_11 (at_ne hz) ?_
    refine lv_lconst (v := (0 : Int64)) hx hb dMo_atomic_12 (by decide) ?_
    refine W.lcmp hx hb dMo_atomic_13 ?_
    refine lv_if_eq (tgt := 19) hx hb dMo_atomic_14 (by decide) (fun c2 => ?_) (fun c2 => ?_)
    · have c2 := (lg_cmp_eq _ _).mp c2
      refine lv_aload_n hx hb dMo_atomic_19 rfl (lv_at hl 0 rfl) ?_
      refine lv_lload_n hx hb dMo_atomic_20 rfl (lv_at hl 1 rfl) ?_
      refine lv_iload_n hx hb dMo_atomic_21 rfl (lv_at hl 2 rfl) ?_
      have hPc := hP.sub (ws' := [(m0, .inr (5, [.int vth, .ref qt, .int vtp, .ref qp, .int vpl, .ref qr, .ref qm, .int vpc, .int vst, .int vc, .int vd, .int vs, .int vo, .int vi, .int vn])), (qm, .inl (cI, 4096, .inl gm))]) [0, 2] rfl
      refine va_calll (va_runV (As := [.long a0, .int a1]) (rest := []) ⟨hx, hb, hml, hown, hT⟩ (c_Mo_loadJ l G cB cL cI s.heap m0 vth qt vtp qp vpl qr qm vpc vst vc vd vs vo vi vn gm a0 a1 hPc c1 hz) (cwV 2 hT (gB_V mw_720 mw_722 ms_17 mw_6 mw_723) rfl rfl rfl (by decide +kernel) ⟨Nat.le_of_ble_eq_true rfl, Nat.le_of_ble_eq_true rfl⟩) ⟨fun a U g mk q => ⟨q.1, q.2.1, va_K.moved (u := U) (U := U.calling g mk a) (Vm.Alike.refl U.vm) q.2.2⟩, va_recv hK hPc (ci := 5) (q0 := 0) rfl rfl, fun U hU hW => ⟨rfl, hU, va_K.moved hW.alike hK⟩⟩ rfl rfl hl.1 rfl (lv_room (Nat.le_of_ble_eq_true rfl)) dMo_atomic_22 ⟨Nat.zero_le _, Nat.zero_le _⟩) hS (fun _ _ h => h.elim) (fun _ h => h.elim) (fun r u t H1 locs ht hvm hw hB hz8 hk8 hS => ?_)
      obtain rfl : s.heap = H1 := hB.symm.trans ht
      subst hw
      refine lv_lstore (lv' := [(4, .long (f_Mo_loadJ gm a0 a1)), (0, .ref m0), (1, .long a0), (3, .int a1)]) hx hb dMo_atomic_25 hl (by decide) rfl (fun ls hl => ?_)
      refine lv_aload_n hx hb dMo_atomic_27 rfl (lv_at hl 1 rfl) ?_
      refine va_get (D := G) (ci := 5) (v := .ref qr) (C := RMo) (T := TMo) (N := 15) hx hb hT inMo hown hK hP 0 rfl rfl 5 (by decide) (hT _ mw_570) (fun _ h9 => h9) rfl dMo_atomic_28 ?_
      refine lv_aload_n hx hb dMo_atomic_31 rfl (lv_at hl 1 rfl) ?_
      refine va_get (D := G) (ci := 5) (v := .int vs) (C := RMo) (T := TMo) (N := 15) hx hb hT inMo hown hK hP 0 rfl rfl 11 (by decide) (hT _ mw_576) (fun _ h9 => h9) rfl dMo_atomic_32 ?_
      refine va_lald hx hb hK hP 1 1 rfl rfl hs dMo_atomic_35 ?_
      refine lv_lstore (lv' := [(6, .long (gr vs.toNatClampNeg)), (4, .long (f_Mo_loadJ gm a0 a1)), (0, .ref m0), (1, .long a0), (3, .int a1)]) hx hb dMo_atomic_36 hl (by decide) rfl (fun ls hl => ?_)
      refine lv_aload_n hx hb dMo_atomic_38 rfl (lv_at hl 2 rfl) ?_
      refine va_get (D := G) (ci := 5) (v := .int vi) (C := RMo) (T := TMo) (N := 15) hx hb hT inMo hown hK hP 0 rfl rfl 13 (by decide) (hT _ mw_578) (fun _ h9 => h9) rfl dMo_atomic_39 ?_
      refine lv_bipush (v := (-2 : Int32)) hx hb dMo_atomic_42 (by decide) ?_
      refine lv_iand hx hb dMo_atomic_44 ?_
      refine lv_istore (lv' := [(8, .int (vi &&& (-2 : Int32))), (6, .long (gr vs.toNatClampNeg)), (4, .long (f_Mo_loadJ gm a0 a1)), (0, .ref m0), (1, .long a0), (3, .int a1)]) hx hb dMo_atomic_45 hl (by decide) rfl (fun ls hl => ?_)
      refine lv_aload_n hx hb dMo_atomic_47 rfl (lv_at hl 3 rfl) ?_
      refine va_get (D := G) (ci := 5) (v := .int vi) (C := RMo) (T := TMo) (N := 15) hx hb hT inMo hown hK hP 0 rfl rfl 13 (by decide) (hT _ mw_578) (fun _ h9 => h9) rfl dMo_atomic_48 ?_
      refine lv_sipush (v := (225 : Int32)) hx hb dMo_atomic_51 (by decide) ?_
      have jn3 : ∀ (x3 : Int64), x3 = (if vi = (225 : Int32) then (gr vs.toNatClampNeg) else (if vi = (241 : Int32) then (if (f_Mo_loadJ gm a0 a1) = (f_Mo_lowest (gr (0 : Int32).toNatClampNeg) ((8 : Int32) * a1)) then (gr vs.toNatClampNeg) else (f_Mo_loadJ gm a0 a1)) else (if (vi &&& (-2 : Int32)) = 0 then ((f_Mo_loadJ gm a0 a1) + (gr vs.toNatClampNeg)) else (if (vi &&& (-2 : Int32)) = (64 : Int32) then ((f_Mo_loadJ gm a0 a1) ||| (gr vs.toNatClampNeg)) else (if (vi &&& (-2 : Int32)) = (80 : Int32) then ((f_Mo_loadJ gm a0 a1) &&& (gr vs.toNatClampNeg)) else ((f_Mo_loadJ gm a0 a1) ^^^ (gr vs.toNatClampNeg))))))) → ∀ (locs : List Loc), va_S A s.heap s.heap locs → W p l e (headSpec wsMo_atomic ({ frames := 1, cells := 0, slots := 0, locals := 26 })).room s m ([.ref m0, .long a0, .int a1] : List Value).toArray below meth c s.heap locs 0 0 (MQ below (va_Qi (fun (r : Int32) (u : (Nat → Int64) × (Nat → Int32)) => r = bI ((f_Mo_atomic vs vi gr gm a0 a1)).1 ∧ u = ((f_Mo_atomic vs vi gr gm a0 a1)).2) (fun (u : (Nat → Int64) × (Nat → Int32)) t => va_P G vwCl [(m0, .inr (5, [.int vth, .ref qt, .int vtp, .ref qp, .int vpl, .ref qr, .ref qm, .int vpc, .int vst, .int vc, .int vd, .int vs, .int vo, .int vi, .int vn])), (qr, .inl (cL, 11, .inr (.inl (u.1)))), (qm, .inl (cI, 4096, .inl (u.2)))] t.heap ∧ va_D (A) [(m0, .inr (5, [.int vth, .ref qt, .int vtp, .ref qp, .int vpl, .ref qr, .ref qm, .int vpc, .int vst, .int vc, .int vd, .int vs, .int vo, .int vi, .int vn])), (qr, .inl (cL, 11, .inr (.inl (u.1)))), (qm, .inl (cI, 4096, .inl (u.2)))]) (A)) ([.ref m0, .long a0, .int a1] : List Value).toArray s 0 0 A) (F0 m 149 ls [.long x3]) := by
        intro x3 hx3 locs hS
        subst hx3
        refine lv_lstore (lv' := [(9, .long (if vi = (225 : Int32) then (gr vs.toNatClampNeg) else (if vi = (241 : Int32) then (if (f_Mo_loadJ gm a0 a1) = (f_Mo_lowest (gr (0 : Int32).toNatClampNeg) ((8 : Int32) * a1)) then (gr vs.toNatClampNeg) else (f_Mo_loadJ gm a0 a1)) else (if (vi &&& (-2 : Int32)) = 0 then ((f_Mo_loadJ gm a0 a1) + (gr vs.toNatClampNeg)) else (if (vi &&& (-2 : Int32)) = (64 : Int32) then ((f_Mo_loadJ gm a0 a1) ||| (gr vs.toNatClampNeg)) else (if (vi &&& (-2 : Int32)) = (80 : Int32) then ((f_Mo_loadJ gm a0 a1) &&& (gr vs.toNatClampNeg)) else ((f_Mo_loadJ gm a0 a1) ^^^ (gr vs.toNatClampNeg)))))))), (8, .int (vi &&& (-2 : Int32))), (6, .long (gr vs.toNatClampNeg)), (4, .long (f_Mo_loadJ gm a0 a1)), (0, .ref m0), (1, .long a0), (3, .int a1)]) hx hb dMo_atomic_149 hl (by decide) rfl (fun ls hl => ?_)
        refine lv_aload_n hx hb dMo_atomic_151 rfl (lv_at hl 4 rfl) ?_
        refine lv_lload_n hx hb dMo_atomic_152 rfl (lv_at hl 5 rfl) ?_
        refine lv_iload_n hx hb dMo_atomic_153 rfl (lv_at hl 6 rfl) ?_
        refine lv_lload hx hb dMo_atomic_154 (lv_at hl 0 rfl) ?_
        have hPc := hP.sub (ws' := [(m0, .inr (5, [.int vth, .ref qt, .int vtp, .ref qp, .int vpl, .ref qr, .ref qm, .int vpc, .int vst, .int vc, .int vd, .int vs, .int vo, .int vi, .int vn])), (qm, .inl (cI, 4096, .inl gm))]) [0, 2] rfl
        have hDc := hD.sub (ws' := [(m0, .inr (5, [.int vth, .ref qt, .int vtp, .ref qp, .int vpl, .ref qr, .ref qm, .int vpc, .int vst, .int vc, .int vd, .int vs, .int vo, .int vi, .int vn])), (qm, .inl (cI, 4096, .inl gm))]) [0, 2] (by decide) rfl
        have hFc := va_free (wc := [(m0, .inr (5, [.int vth, .ref qt, .int vtp, .ref qp, .int vpl, .ref qr, .ref qm, .int vpc, .int vst, .int vc, .int vd, .int vs, .int vo, .int vi, .int vn])), (qm, .inl (cI, 4096, .inl gm))]) hD hS hA [0, 2] rfl
        refine va_callv (va_runV (As := [.long a0, .int a1, .long (if vi = (225 : Int32) then (gr vs.toNatClampNeg) else (if vi = (241 : Int32) then (if (f_Mo_loadJ gm a0 a1) = (f_Mo_lowest (gr (0 : Int32).toNatClampNeg) ((8 : Int32) * a1)) then (gr vs.toNatClampNeg) else (f_Mo_loadJ gm a0 a1)) else (if (vi &&& (-2 : Int32)) = 0 then ((f_Mo_loadJ gm a0 a1) + (gr vs.toNatClampNeg)) else (if (vi &&& (-2 : Int32)) = (64 : Int32) then ((f_Mo_loadJ gm a0 a1) ||| (gr vs.toNatClampNeg)) else (if (vi &&& (-2 : Int32)) = (80 : Int32) then ((f_Mo_loadJ gm a0 a1) &&& (gr vs.toNatClampNeg)) else ((f_Mo_loadJ gm a0 a1) ^^^ (gr vs.toNatClampNeg)))))))]) (rest := []) ⟨hx, hb, hml, hown, hT⟩ (c_Mo_store l G cB cL cI s.heap m0 vth qt vtp qp vpl qr qm vpc vst vc vd vs vo vi vn gm a0 a1 (if vi = (225 : Int32) then (gr vs.toNatClampNeg) else (if vi = (241 : Int32) then (if (f_Mo_loadJ gm a0 a1) = (f_Mo_lowest (gr (0 : Int32).toNatClampNeg) ((8 : Int32) * a1)) then (gr vs.toNatClampNeg) else (f_Mo_loadJ gm a0 a1)) else (if (vi &&& (-2 : Int32)) = 0 then ((f_Mo_loadJ gm a0 a1) + (gr vs.toNatClampNeg)) else (if (vi &&& (-2 : Int32)) = (64 : Int32) then ((f_Mo_loadJ gm a0 a1) ||| (gr vs.toNatClampNeg)) else (if (vi &&& (-2 : Int32)) = (80 : Int32) then ((f_Mo_loadJ gm a0 a1) &&& (gr vs.toNatClampNeg)) else ((f_Mo_loadJ gm a0 a1) ^^^ (gr vs.toNatClampNeg))))))) hPc (hDc.weaken (fun _ _ _ _ => trivial)) c1 hz) (cwV 3 hT (gB_V mw_712 mw_714 ms_16 mw_6 mw_715) rfl rfl rfl (by decide +kernel) ⟨Nat.le_of_ble_eq_true rfl, Nat.le_of_ble_eq_true rfl⟩) ⟨fun a U g mk q => ⟨q.1, q.2.1, va_K.moved (u := U) (U := U.calling g mk a) (Vm.Alike.refl U.vm) q.2.2⟩, va_recv hK hPc (ci := 5) (q0 := 0) rfl rfl, fun U hU hW => ⟨rfl, hU, va_K.moved hW.alike hK⟩⟩ rfl rfl hl.1 rfl (lv_room (Nat.le_of_ble_eq_true rfl)) dMo_atomic_156 ⟨Nat.zero_le _, Nat.zero_le _⟩) hS (fun q _ h => hFc q h) hFc (fun u t H locs ht hvm hw hB hz8 hk8 hS => ?_)
        subst hw
        obtain ⟨hP1, hD1⟩ := hB
        rw [ht] at hP1
        obtain ⟨hP, hD⟩ := va_join (wr := [(qr, .inl (cL, 11, .inr (.inl gr)))]) (w1 := [(m0, .inr (5, [.int vth, .ref qt, .int vtp, .ref qp, .int vpl, .ref qr, .ref qm, .int vpc, .int vst, .int vc, .int vd, .int vs, .int vo, .int vi, .int vn])), (qm, .inl (cI, 4096, .inl ((f_Mo_store gm a0 a1 (if vi = (225 : Int32) then (gr vs.toNatClampNeg) else (if vi = (241 : Int32) then (if (f_Mo_loadJ gm a0 a1) = (f_Mo_lowest (gr (0 : Int32).toNatClampNeg) ((8 : Int32) * a1)) then (gr vs.toNatClampNeg) else (f_Mo_loadJ gm a0 a1)) else (if (vi &&& (-2 : Int32)) = 0 then ((f_Mo_loadJ gm a0 a1) + (gr vs.toNatClampNeg)) else (if (vi &&& (-2 : Int32)) = (64 : Int32) then ((f_Mo_loadJ gm a0 a1) ||| (gr vs.toNatClampNeg)) else (if (vi &&& (-2 : Int32)) = (80 : Int32) then ((f_Mo_loadJ gm a0 a1) &&& (gr vs.toNatClampNeg)) else ((f_Mo_loadJ gm a0 a1) ^^^ (gr vs.toNatClampNeg)))))))))))]) hP hD [0, 2] [1] rfl rfl (by decide) (by decide) hk8 hFc hP1 hD1
        have hP : va_P G vwCl [(qr, .inl (cL, 11, .inr (.inl gr))), (m0, .inr (5, [.int vth, .ref qt, .int vtp, .ref qp, .int vpl, .ref qr, .ref qm, .int vpc, .int vst, .int vc, .int vd, .int vs, .int vo, .int vi, .int vn])), (qm, .inl (cI, 4096, .inl ((f_Mo_store gm a0 a1 (if vi = (225 : Int32) then (gr vs.toNatClampNeg) else (if vi = (241 : Int32) then (if (f_Mo_loadJ gm a0 a1) = (f_Mo_lowest (gr (0 : Int32).toNatClampNeg) ((8 : Int32) * a1)) then (gr vs.toNatClampNeg) else (f_Mo_loadJ gm a0 a1)) else (if (vi &&& (-2 : Int32)) = 0 then ((f_Mo_loadJ gm a0 a1) + (gr vs.toNatClampNeg)) else (if (vi &&& (-2 : Int32)) = (64 : Int32) then ((f_Mo_loadJ gm a0 a1) ||| (gr vs.toNatClampNeg)) else (if (vi &&& (-2 : Int32)) = (80 : Int32) then ((f_Mo_loadJ gm a0 a1) &&& (gr vs.toNatClampNeg)) else ((f_Mo_loadJ gm a0 a1) ^^^ (gr vs.toNatClampNeg)))))))))))] H := hP
        have hD : va_D A [(qr, .inl (cL, 11, .inr (.inl gr))), (m0, .inr (5, [.int vth, .ref qt, .int vtp, .ref qp, .int vpl, .ref qr, .ref qm, .int vpc, .int vst, .int vc, .int vd, .int vs, .int vo, .int vi, .int vn])), (qm, .inl (cI, 4096, .inl ((f_Mo_store gm a0 a1 (if vi = (225 : Int32) then (gr vs.toNatClampNeg) else (if vi = (241 : Int32) then (if (f_Mo_loadJ gm a0 a1) = (f_Mo_lowest (gr (0 : Int32).toNatClampNeg) ((8 : Int32) * a1)) then (gr vs.toNatClampNeg) else (f_Mo_loadJ gm a0 a1)) else (if (vi &&& (-2 : Int32)) = 0 then ((f_Mo_loadJ gm a0 a1) + (gr vs.toNatClampNeg)) else (if (vi &&& (-2 : Int32)) = (64 : Int32) then ((f_Mo_loadJ gm a0 a1) ||| (gr vs.toNatClampNeg)) else (if (vi &&& (-2 : Int32)) = (80 : Int32) then ((f_Mo_loadJ gm a0 a1) &&& (gr vs.toNatClampNeg)) else ((f_Mo_loadJ gm a0 a1) ^^^ (gr vs.toNatClampNeg)))))))))))] := hD
        refine lv_aload_n hx hb dMo_atomic_159 rfl (lv_at hl 4 rfl) ?_
        refine va_get (D := G) (ci := 5) (v := .int vi) (C := RMo) (T := TMo) (N := 15) hx hb hT inMo hown hK hP 1 rfl rfl 13 (by decide) (hT _ mw_578) (fun _ h9 => h9) rfl dMo_atomic_160 ?_
        refine lv_sipush (v := (241 : Int32)) hx hb dMo_atomic_163 (by decide) ?_
        refine lv_icmp_ne (tgt := 180) hx hb dMo_atomic_166 (by decide) (fun c4 => ?_) (fun c4 => ?_)
        · skip
          refine lv_aload_n hx hb dMo_atomic_180 rfl (lv_at hl 4 rfl) ?_
          refine va_get (D := G) (ci := 5) (v := .int vi) (C := RMo) (T := TMo) (N := 15) hx hb hT inMo hown hK hP 1 rfl rfl 13 (by decide) (hT _ mw_578) (fun _ h9 => h9) rfl dMo_atomic_181 ?_
          refine lv_iconst (v := (2 : Int32)) hx hb dMo_atomic_184 (by decide) ?_
          refine lv_irem hx hb dMo_atomic_185 (by decide) ?_
          refine lv_iconst (v := (1 : Int32)) hx hb dMo_atomic_186 (by decide) ?_
          refine lv_icmp_ne (tgt := 201) hx hb dMo_atomic_187 (by decide) (fun c5 => ?_) (fun c5 => ?_)
          · skip
            refine lv_iconst (v := (1 : Int32)) hx hb dMo_atomic_201 (by decide) ?_
            have hP9 := hP.sub (ws' := [(m0, .inr (5, [.int vth, .ref qt, .int vtp, .ref qp, .int vpl, .ref qr, .ref qm, .int vpc, .int vst, .int vc, .int vd, .int vs, .int vo, .int vi, .int vn])), (qr, .inl (cL, 11, .inr (.inl gr))), (qm, .inl (cI, 4096, .inl ((f_Mo_store gm a0 a1 (if vi = (225 : Int32) then (gr vs.toNatClampNeg) else (if vi = (241 : Int32) then (if (f_Mo_loadJ gm a0 a1) = (f_Mo_lowest (gr (0 : Int32).toNatClampNeg) ((8 : Int32) * a1)) then (gr vs.toNatClampNeg) else (f_Mo_loadJ gm a0 a1)) else (if (vi &&& (-2 : Int32)) = 0 then ((f_Mo_loadJ gm a0 a1) + (gr vs.toNatClampNeg)) else (if (vi &&& (-2 : Int32)) = (64 : Int32) then ((f_Mo_loadJ gm a0 a1) ||| (gr vs.toNatClampNeg)) else (if (vi &&& (-2 : Int32)) = (80 : Int32) then ((f_Mo_loadJ gm a0 a1) &&& (gr vs.toNatClampNeg)) else ((f_Mo_loadJ gm a0 a1) ^^^ (gr vs.toNatClampNeg)))))))))))]) [1, 0, 2] rfl
            have hD9 := hD.sub (ws' := [(m0, .inr (5, [.int vth, .ref qt, .int vtp, .ref qp, .int vpl, .ref qr, .ref qm, .int vpc, .int vst, .int vc, .int vd, .int vs, .int vo, .int vi, .int vn])), (qr, .inl (cL, 11, .inr (.inl gr))), (qm, .inl (cI, 4096, .inl ((f_Mo_store gm a0 a1 (if vi = (225 : Int32) then (gr vs.toNatClampNeg) else (if vi = (241 : Int32) then (if (f_Mo_loadJ gm a0 a1) = (f_Mo_lowest (gr (0 : Int32).toNatClampNeg) ((8 : Int32) * a1)) then (gr vs.toNatClampNeg) else (f_Mo_loadJ gm a0 a1)) else (if (vi &&& (-2 : Int32)) = 0 then ((f_Mo_loadJ gm a0 a1) + (gr vs.toNatClampNeg)) else (if (vi &&& (-2 : Int32)) = (64 : Int32) then ((f_Mo_loadJ gm a0 a1) ||| (gr vs.toNatClampNeg)) else (if (vi &&& (-2 : Int32)) = (80 : Int32) then ((f_Mo_loadJ gm a0 a1) &&& (gr vs.toNatClampNeg)) else ((f_Mo_loadJ gm a0 a1) ^^^ (gr vs.toNatClampNeg)))))))))))]) [1, 0, 2] (by decide) rfl
            exact W.zret (v := (1 : Int32)) hx hb hr rfl (fun t ht hW => ⟨⟨(1 : Int32), (gr, ((f_Mo_store gm a0 a1 (if vi = (225 : Int32) then (gr vs.toNatClampNeg) else (if vi = (241 : Int32) then (if (f_Mo_loadJ gm a0 a1) = (f_Mo_lowest (gr (0 : Int32).toNatClampNeg) ((8 : Int32) * a1)) then (gr vs.toNatClampNeg) else (f_Mo_loadJ gm a0 a1)) else (if (vi &&& (-2 : Int32)) = 0 then ((f_Mo_loadJ gm a0 a1) + (gr vs.toNatClampNeg)) else (if (vi &&& (-2 : Int32)) = (64 : Int32) then ((f_Mo_loadJ gm a0 a1) ||| (gr vs.toNatClampNeg)) else (if (vi &&& (-2 : Int32)) = (80 : Int32) then ((f_Mo_loadJ gm a0 a1) &&& (gr vs.toNatClampNeg)) else ((f_Mo_loadJ gm a0 a1) ^^^ (gr vs.toNatClampNeg)))))))))), rfl, ⟨(by unfold f_Mo_atomic; rw [if_pos c1, if_pos c2, if_neg c4, if_neg c5]; try rfl), (by unfold f_Mo_atomic; rw [if_pos c1, if_pos c2, if_neg c4, if_neg c5]; try rfl)⟩, by rw [ht]; exact hP9, hD9⟩, hS.F ht⟩) hS.2.2 dMo_atomic_202
          · skip
            refine lv_aload_n hx hb dMo_atomic_190 rfl (lv_at hl 4 rfl) ?_
            refine va_get (D := G) (ci := 5) (v := .ref qr) (C := RMo) (T := TMo) (N := 15) hx hb hT inMo hown hK hP 1 rfl rfl 5 (by decide) (hT _ mw_570) (fun _ h9 => h9) rfl dMo_atomic_191 ?_
            refine lv_aload_n hx hb dMo_atomic_194 rfl (lv_at hl 4 rfl) ?_
            refine va_get (D := G) (ci := 5) (v := .int vs) (C := RMo) (T := TMo) (N := 15) hx hb hT inMo hown hK hP 1 rfl rfl 11 (by decide) (hT _ mw_576) (fun _ h9 => h9) rfl dMo_atomic_195 ?_
            refine lv_lload hx hb dMo_atomic_198 (lv_at hl 3 rfl) ?_
            refine va_last hx hb hK hP hD hS 0 1 rfl rfl hs dMo_atomic_200 (fun H locs hP hD hS => ?_)
            have hP : va_P G vwCl [(qr, .inl (cL, 11, .inr (.inl (vp_updL gr vs.toNatClampNeg (f_Mo_loadJ gm a0 a1))))), (m0, .inr (5, [.int vth, .ref qt, .int vtp, .ref qp, .int vpl, .ref qr, .ref qm, .int vpc, .int vst, .int vc, .int vd, .int vs, .int vo, .int vi, .int vn])), (qm, .inl (cI, 4096, .inl ((f_Mo_store gm a0 a1 (if vi = (225 : Int32) then (gr vs.toNatClampNeg) else (if vi = (241 : Int32) then (if (f_Mo_loadJ gm a0 a1) = (f_Mo_lowest (gr (0 : Int32).toNatClampNeg) ((8 : Int32) * a1)) then (gr vs.toNatClampNeg) else (f_Mo_loadJ gm a0 a1)) else (if (vi &&& (-2 : Int32)) = 0 then ((f_Mo_loadJ gm a0 a1) + (gr vs.toNatClampNeg)) else (if (vi &&& (-2 : Int32)) = (64 : Int32) then ((f_Mo_loadJ gm a0 a1) ||| (gr vs.toNatClampNeg)) else (if (vi &&& (-2 : Int32)) = (80 : Int32) then ((f_Mo_loadJ gm a0 a1) &&& (gr vs.toNatClampNeg)) else ((f_Mo_loadJ gm a0 a1) ^^^ (gr vs.toNatClampNeg)))))))))))] H := hP
            have hD : va_D A [(qr, .inl (cL, 11, .inr (.inl (vp_updL gr vs.toNatClampNeg (f_Mo_loadJ gm a0 a1))))), (m0, .inr (5, [.int vth, .ref qt, .int vtp, .ref qp, .int vpl, .ref qr, .ref qm, .int vpc, .int vst, .int vc, .int vd, .int vs, .int vo, .int vi, .int vn])), (qm, .inl (cI, 4096, .inl ((f_Mo_store gm a0 a1 (if vi = (225 : Int32) then (gr vs.toNatClampNeg) else (if vi = (241 : Int32) then (if (f_Mo_loadJ gm a0 a1) = (f_Mo_lowest (gr (0 : Int32).toNatClampNeg) ((8 : Int32) * a1)) then (gr vs.toNatClampNeg) else (f_Mo_loadJ gm a0 a1)) else (if (vi &&& (-2 : Int32)) = 0 then ((f_Mo_loadJ gm a0 a1) + (gr vs.toNatClampNeg)) else (if (vi &&& (-2 : Int32)) = (64 : Int32) then ((f_Mo_loadJ gm a0 a1) ||| (gr vs.toNatClampNeg)) else (if (vi &&& (-2 : Int32)) = (80 : Int32) then ((f_Mo_loadJ gm a0 a1) &&& (gr vs.toNatClampNeg)) else ((f_Mo_loadJ gm a0 a1) ^^^ (gr vs.toNatClampNeg)))))))))))] := hD
            refine lv_iconst (v := (1 : Int32)) hx hb dMo_atomic_201 (by decide) ?_
            have hP9 := hP.sub (ws' := [(m0, .inr (5, [.int vth, .ref qt, .int vtp, .ref qp, .int vpl, .ref qr, .ref qm, .int vpc, .int vst, .int vc, .int vd, .int vs, .int vo, .int vi, .int vn])), (qr, .inl (cL, 11, .inr (.inl (vp_updL gr vs.toNatClampNeg (f_Mo_loadJ gm a0 a1))))), (qm, .inl (cI, 4096, .inl ((f_Mo_store gm a0 a1 (if vi = (225 : Int32) then (gr vs.toNatClampNeg) else (if vi = (241 : Int32) then (if (f_Mo_loadJ gm a0 a1) = (f_Mo_lowest (gr (0 : Int32).toNatClampNeg) ((8 : Int32) * a1)) then (gr vs.toNatClampNeg) else (f_Mo_loadJ gm a0 a1)) else (if (vi &&& (-2 : Int32)) = 0 then ((f_Mo_loadJ gm a0 a1) + (gr vs.toNatClampNeg)) else (if (vi &&& (-2 : Int32)) = (64 : Int32) then ((f_Mo_loadJ gm a0 a1) ||| (gr vs.toNatClampNeg)) else (if (vi &&& (-2 : Int32)) = (80 : Int32) then ((f_Mo_loadJ gm a0 a1) &&& (gr vs.toNatClampNeg)) else ((f_Mo_loadJ gm a0 a1) ^^^ (gr vs.toNatClampNeg)))))))))))]) [1, 0, 2] rfl
            have hD9 := hD.sub (ws' := [(m0, .inr (5, [.int vth, .ref qt, .int vtp, .ref qp, .int vpl, .ref qr, .ref qm, .int vpc, .int vst, .int vc, .int vd, .int vs, .int vo, .int vi, .int vn])), (qr, .inl (cL, 11, .inr (.inl (vp_updL gr vs.toNatClampNeg (f_Mo_loadJ gm a0 a1))))), (qm, .inl (cI, 4096, .inl ((f_Mo_store gm a0 a1 (if vi = (225 : Int32) then (gr vs.toNatClampNeg) else (if vi = (241 : Int32) then (if (f_Mo_loadJ gm a0 a1) = (f_Mo_lowest (gr (0 : Int32).toNatClampNeg) ((8 : Int32) * a1)) then (gr vs.toNatClampNeg) else (f_Mo_loadJ gm a0 a1)) else (if (vi &&& (-2 : Int32)) = 0 then ((f_Mo_loadJ gm a0 a1) + (gr vs.toNatClampNeg)) else (if (vi &&& (-2 : Int32)) = (64 : Int32) then ((f_Mo_loadJ gm a0 a1) ||| (gr vs.toNatClampNeg)) else (if (vi &&& (-2 : Int32)) = (80 : Int32) then ((f_Mo_loadJ gm a0 a1) &&& (gr vs.toNatClampNeg)) else ((f_Mo_loadJ gm a0 a1) ^^^ (gr vs.toNatClampNeg)))))))))))]) [1, 0, 2] (by decide) rfl
            exact W.zret (v := (1 : Int32)) hx hb hr rfl (fun t ht hW => ⟨⟨(1 : Int32), ((vp_updL gr vs.toNatClampNeg (f_Mo_loadJ gm a0 a1)), ((f_Mo_store gm a0 a1 (if vi = (225 : Int32) then (gr vs.toNatClampNeg) else (if vi = (241 : Int32) then (if (f_Mo_loadJ gm a0 a1) = (f_Mo_lowest (gr (0 : Int32).toNatClampNeg) ((8 : Int32) * a1)) then (gr vs.toNatClampNeg) else (f_Mo_loadJ gm a0 a1)) else (if (vi &&& (-2 : Int32)) = 0 then ((f_Mo_loadJ gm a0 a1) + (gr vs.toNatClampNeg)) else (if (vi &&& (-2 : Int32)) = (64 : Int32) then ((f_Mo_loadJ gm a0 a1) ||| (gr vs.toNatClampNeg)) else (if (vi &&& (-2 : Int32)) = (80 : Int32) then ((f_Mo_loadJ gm a0 a1) &&& (gr vs.toNatClampNeg)) else ((f_Mo_loadJ gm a0 a1) ^^^ (gr vs.toNatClampNeg)))))))))), rfl, ⟨(by unfold f_Mo_atomic; rw [if_pos c1, if_pos c2, if_neg c4, if_pos c5]; try rfl), (by unfold f_Mo_atomic; rw [if_pos c1, if_pos c2, if_neg c4, if_pos c5]; try rfl)⟩, by rw [ht]; exact hP9, hD9⟩, hS.F ht⟩) hS.2.2 dMo_atomic_202
        · skip
          refine lv_aload_n hx hb dMo_atomic_169 rfl (lv_at hl 4 rfl) ?_
          refine va_get (D := G) (ci := 5) (v := .ref qr) (C := RMo) (T := TMo) (N := 15) hx hb hT inMo hown hK hP 1 rfl rfl 5 (by decide) (hT _ mw_570) (fun _ h9 => h9) rfl dMo_atomic_170 ?_
          refine lv_iconst (v := (0 : Int32)) hx hb dMo_atomic_173 (by decide) ?_
          refine lv_lload hx hb dMo_atomic_174 (lv_at hl 3 rfl) ?_
          refine va_last hx hb hK hP hD hS 0 1 rfl rfl (by unfold vp_in; decide) dMo_atomic_176 (fun H locs hP hD hS => ?_)
          have hP : va_P G vwCl [(qr, .inl (cL, 11, .inr (.inl (vp_updL gr (0 : Int32).toNatClampNeg (f_Mo_loadJ gm a0 a1))))), (m0, .inr (5, [.int vth, .ref qt, .int vtp, .ref qp, .int vpl, .ref qr, .ref qm, .int vpc, .int vst, .int vc, .int vd, .int vs, .int vo, .int vi, .int vn])), (qm, .inl (cI, 4096, .inl ((f_Mo_store gm a0 a1 (if vi = (225 : Int32) then (gr vs.toNatClampNeg) else (if vi = (241 : Int32) then (if (f_Mo_loadJ gm a0 a1) = (f_Mo_lowest (gr (0 : Int32).toNatClampNeg) ((8 : Int32) * a1)) then (gr vs.toNatClampNeg) else (f_Mo_loadJ gm a0 a1)) else (if (vi &&& (-2 : Int32)) = 0 then ((f_Mo_loadJ gm a0 a1) + (gr vs.toNatClampNeg)) else (if (vi &&& (-2 : Int32)) = (64 : Int32) then ((f_Mo_loadJ gm a0 a1) ||| (gr vs.toNatClampNeg)) else (if (vi &&& (-2 : Int32)) = (80 : Int32) then ((f_Mo_loadJ gm a0 a1) &&& (gr vs.toNatClampNeg)) else ((f_Mo_loadJ gm a0 a1) ^^^ (gr vs.toNatClampNeg)))))))))))] H := hP
          have hD : va_D A [(qr, .inl (cL, 11, .inr (.inl (vp_updL gr (0 : Int32).toNatClampNeg (f_Mo_loadJ gm a0 a1))))), (m0, .inr (5, [.int vth, .ref qt, .int vtp, .ref qp, .int vpl, .ref qr, .ref qm, .int vpc, .int vst, .int vc, .int vd, .int vs, .int vo, .int vi, .int vn])), (qm, .inl (cI, 4096, .inl ((f_Mo_store gm a0 a1 (if vi = (225 : Int32) then (gr vs.toNatClampNeg) else (if vi = (241 : Int32) then (if (f_Mo_loadJ gm a0 a1) = (f_Mo_lowest (gr (0 : Int32).toNatClampNeg) ((8 : Int32) * a1)) then (gr vs.toNatClampNeg) else (f_Mo_loadJ gm a0 a1)) else (if (vi &&& (-2 : Int32)) = 0 then ((f_Mo_loadJ gm a0 a1) + (gr vs.toNatClampNeg)) else (if (vi &&& (-2 : Int32)) = (64 : Int32) then ((f_Mo_loadJ gm a0 a1) ||| (gr vs.toNatClampNeg)) else (if (vi &&& (-2 : Int32)) = (80 : Int32) then ((f_Mo_loadJ gm a0 a1) &&& (gr vs.toNatClampNeg)) else ((f_Mo_loadJ gm a0 a1) ^^^ (gr vs.toNatClampNeg)))))))))))] := hD
          refine lv_goto (tgt := 201) hx hb dMo_atomic_177 (by decide) ?_
          refine lv_iconst (v := (1 : Int32)) hx hb dMo_atomic_201 (by decide) ?_
          have hP9 := hP.sub (ws' := [(m0, .inr (5, [.int vth, .ref qt, .int vtp, .ref qp, .int vpl, .ref qr, .ref qm, .int vpc, .int vst, .int vc, .int vd, .int vs, .int vo, .int vi, .int vn])), (qr, .inl (cL, 11, .inr (.inl (vp_updL gr (0 : Int32).toNatClampNeg (f_Mo_loadJ gm a0 a1))))), (qm, .inl (cI, 4096, .inl ((f_Mo_store gm a0 a1 (if vi = (225 : Int32) then (gr vs.toNatClampNeg) else (if vi = (241 : Int32) then (if (f_Mo_loadJ gm a0 a1) = (f_Mo_lowest (gr (0 : Int32).toNatClampNeg) ((8 : Int32) * a1)) then (gr vs.toNatClampNeg) else (f_Mo_loadJ gm a0 a1)) else (if (vi &&& (-2 : Int32)) = 0 then ((f_Mo_loadJ gm a0 a1) + (gr vs.toNatClampNeg)) else (if (vi &&& (-2 : Int32)) = (64 : Int32) then ((f_Mo_loadJ gm a0 a1) ||| (gr vs.toNatClampNeg)) else (if (vi &&& (-2 : Int32)) = (80 : Int32) then ((f_Mo_loadJ gm a0 a1) &&& (gr vs.toNatClampNeg)) else ((f_Mo_loadJ gm a0 a1) ^^^ (gr vs.toNatClampNeg)))))))))))]) [1, 0, 2] rfl
          have hD9 := hD.sub (ws' := [(m0, .inr (5, [.int vth, .ref qt, .int vtp, .ref qp, .int vpl, .ref qr, .ref qm, .int vpc, .int vst, .int vc, .int vd, .int vs, .int vo, .int vi, .int vn])), (qr, .inl (cL, 11, .inr (.inl (vp_updL gr (0 : Int32).toNatClampNeg (f_Mo_loadJ gm a0 a1))))), (qm, .inl (cI, 4096, .inl ((f_Mo_store gm a0 a1 (if vi = (225 : Int32) then (gr vs.toNatClampNeg) else (if vi = (241 : Int32) then (if (f_Mo_loadJ gm a0 a1) = (f_Mo_lowest (gr (0 : Int32).toNatClampNeg) ((8 : Int32) * a1)) then (gr vs.toNatClampNeg) else (f_Mo_loadJ gm a0 a1)) else (if (vi &&& (-2 : Int32)) = 0 then ((f_Mo_loadJ gm a0 a1) + (gr vs.toNatClampNeg)) else (if (vi &&& (-2 : Int32)) = (64 : Int32) then ((f_Mo_loadJ gm a0 a1) ||| (gr vs.toNatClampNeg)) else (if (vi &&& (-2 : Int32)) = (80 : Int32) then ((f_Mo_loadJ gm a0 a1) &&& (gr vs.toNatClampNeg)) else ((f_Mo_loadJ gm a0 a1) ^^^ (gr vs.toNatClampNeg)))))))))))]) [1, 0, 2] (by decide) rfl
          exact W.zret (v := (1 : Int32)) hx hb hr rfl (fun t ht hW => ⟨⟨(1 : Int32), ((vp_updL gr (0 : Int32).toNatClampNeg (f_Mo_loadJ gm a0 a1)), ((f_Mo_store gm a0 a1 (if vi = (225 : Int32) then (gr vs.toNatClampNeg) else (if vi = (241 : Int32) then (if (f_Mo_loadJ gm a0 a1) = (f_Mo_lowest (gr (0 : Int32).toNatClampNeg) ((8 : Int32) * a1)) then (gr vs.toNatClampNeg) else (f_Mo_loadJ gm a0 a1)) else (if (vi &&& (-2 : Int32)) = 0 then ((f_Mo_loadJ gm a0 a1) + (gr vs.toNatClampNeg)) else (if (vi &&& (-2 : Int32)) = (64 : Int32) then ((f_Mo_loadJ gm a0 a1) ||| (gr vs.toNatClampNeg)) else (if (vi &&& (-2 : Int32)) = (80 : Int32) then ((f_Mo_loadJ gm a0 a1) &&& (gr vs.toNatClampNeg)) else ((f_Mo_loadJ gm a0 a1) ^^^ (gr vs.toNatClampNeg)))))))))), rfl, ⟨(by unfold f_Mo_atomic; rw [if_pos c1, if_pos c2, if_pos c4]; try rfl), (by unfold f_Mo_atomic; rw [if_pos c1, if_pos c2, if_pos c4]; try rfl)⟩, by rw [ht]; exact hP9, hD9⟩, hS.F ht⟩) hS.2.2 dMo_atomic_202
      refine lv_icmp_ne (tgt := 62) hx hb dMo_atomic_54 (by decide) (fun c6 => ?_) (fun c6 => ?_)
      · skip
        refine lv_aload_n hx hb dMo_atomic_62 rfl (lv_at hl 3 rfl) ?_
        refine va_get (D := G) (ci := 5) (v := .int vi) (C := RMo) (T := TMo) (N := 15) hx hb hT inMo hown hK hP 0 rfl rfl 13 (by decide) (hT _ mw_578) (fun _ h9 => h9) rfl dMo_atomic_63 ?_
        refine lv_sipush (v := (241 : Int32)) hx hb dMo_atomic_66 (by decide) ?_
        refine lv_icmp_ne (tgt := 101) hx hb dMo_atomic_69 (by decide) (fun c7 => ?_) (fun c7 => ?_)
        · skip
          refine lv_iload hx hb dMo_atomic_101 (lv_at hl 0 rfl) ?_
          refine lv_if_ne (tgt := 114) hx hb dMo_atomic_103 (by decide) (fun c8 => ?_) (fun c8 => ?_)
          · skip
            refine lv_iload hx hb dMo_atomic_114 (lv_at hl 0 rfl) ?_
            refine lv_bipush (v := (64 : Int32)) hx hb dMo_atomic_116 (by decide) ?_
            refine lv_icmp_ne (tgt := 129) hx hb dMo_atomic_118 (by decide) (fun c9 => ?_) (fun c9 => ?_)
            · skip
              refine lv_iload hx hb dMo_atomic_129 (lv_at hl 0 rfl) ?_
              refine lv_bipush (v := (80 : Int32)) hx hb dMo_atomic_131 (by decide) ?_
              refine lv_icmp_ne (tgt := 144) hx hb dMo_atomic_133 (by decide) (fun c10 => ?_) (fun c10 => ?_)
              · skip
                refine lv_lload hx hb dMo_atomic_144 (lv_at hl 2 rfl) ?_
                refine lv_lload hx hb dMo_atomic_146 (lv_at hl 1 rfl) ?_
                refine lv_lxor hx hb dMo_atomic_148 ?_
                exact jn3 ((f_Mo_loadJ gm a0 a1) ^^^ (gr vs.toNatClampNeg)) (by rw [if_neg c6, if_neg c7, if_neg c8, if_neg c9, if_neg c10]) _ hS
              · skip
                refine lv_lload hx hb dMo_atomic_136 (lv_at hl 2 rfl) ?_
                refine lv_lload hx hb dMo_atomic_138 (lv_at hl 1 rfl) ?_
                refine lv_land hx hb dMo_atomic_140 ?_
                refine lv_goto (tgt := 149) hx hb dMo_atomic_141 (by decide) ?_
                exact jn3 ((f_Mo_loadJ gm a0 a1) &&& (gr vs.toNatClampNeg)) (by rw [if_neg c6, if_neg c7, if_neg c8, if_neg c9, if_pos c10]) _ hS
            · skip
              refine lv_lload hx hb dMo_atomic_121 (lv_at hl 2 rfl) ?_
              refine lv_lload hx hb dMo_atomic_123 (lv_at hl 1 rfl) ?_
              refine lv_lor hx hb dMo_atomic_125 ?_
              refine lv_goto (tgt := 149) hx hb dMo_atomic_126 (by decide) ?_
              exact jn3 ((f_Mo_loadJ gm a0 a1) ||| (gr vs.toNatClampNeg)) (by rw [if_neg c6, if_neg c7, if_neg c8, if_pos c9]) _ hS
          · skip
            refine lv_lload hx hb dMo_atomic_106 (lv_at hl 2 rfl) ?_
            refine lv_lload hx hb dMo_atomic_108 (lv_at hl 1 rfl) ?_
            refine lv_ladd hx hb dMo_atomic_110 ?_
            refine lv_goto (tgt := 149) hx hb dMo_atomic_111 (by decide) ?_
            exact jn3 ((f_Mo_loadJ gm a0 a1) + (gr vs.toNatClampNeg)) (by rw [if_neg c6, if_neg c7, if_pos c8]) _ hS
        · skip
          refine lv_lload hx hb dMo_atomic_72 (lv_at hl 2 rfl) ?_
          refine lv_aload_n hx hb dMo_atomic_74 rfl (lv_at hl 3 rfl) ?_
          refine va_get (D := G) (ci := 5) (v := .ref qr) (C := RMo) (T := TMo) (N := 15) hx hb hT inMo hown hK hP 0 rfl rfl 5 (by decide) (hT _ mw_570) (fun _ h9 => h9) rfl dMo_atomic_75 ?_
          refine lv_iconst (v := (0 : Int32)) hx hb dMo_atomic_78 (by decide) ?_
          refine va_lald hx hb hK hP 1 1 rfl rfl (by unfold vp_in; decide) dMo_atomic_79 ?_
          refine lv_bipush (v := (8 : Int32)) hx hb dMo_atomic_80 (by decide) ?_
          refine lv_iload_n hx hb dMo_atomic_82 rfl (lv_at hl 5 rfl) ?_
          refine lv_imul hx hb dMo_atomic_83 ?_
          have hPc := hP.sub (ws' := []) [] rfl
          refine va_calll (va_runS (As := [.long (gr (0 : Int32).toNatClampNeg), .int ((8 : Int32) * a1)]) (rest := [.long (f_Mo_loadJ gm a0 a1)]) ⟨hx, hb, hml, hown, hT⟩ (c_Mo_lowest l G cB cL cI s.heap (gr (0 : Int32).toNatClampNeg) ((8 : Int32) * a1) hPc ) (cwS 2 hT (gB_S mw_742 mw_743 mw_6 mw_744) rfl rfl rfl (by decide +kernel) ⟨Nat.le_of_ble_eq_true rfl, Nat.le_of_ble_eq_true rfl⟩) ⟨fun a U g mk q => ⟨q.1, q.2.1, va_K.moved (u := U) (U := U.calling g mk a) (Vm.Alike.refl U.vm) q.2.2⟩, fun U hU hW => ⟨rfl, hU, va_K.moved hW.alike hK⟩⟩ rfl rfl hl.1 rfl (lv_room (Nat.le_of_ble_eq_true rfl)) dMo_atomic_84 ⟨Nat.zero_le _, Nat.zero_le _⟩) hS (fun _ _ h => h.elim) (fun _ h => h.elim) (fun r u t H1 locs ht hvm hw hB hz8 hk8 hS => ?_)
          obtain rfl : s.heap = H1 := hB.symm.trans ht
          subst hw
          refine W.lcmp hx hb dMo_atomic_87 ?_
          refine lv_if_ne (tgt := 96) hx hb dMo_atomic_88 (by decide) (fun c11 => ?_) (fun c11 => ?_)
          · have c11 := mt (lg_cmp_eq _ _).mpr c11
            refine lv_lload hx hb dMo_atomic_96 (lv_at hl 2 rfl) ?_
            refine lv_goto (tgt := 149) hx hb dMo_atomic_98 (by decide) ?_
            exact jn3 (f_Mo_loadJ gm a0 a1) (by rw [if_neg c6, if_pos c7, if_neg c11]) _ hS
          · have c11 := (lg_cmp_eq _ _).mp c11
            refine lv_lload hx hb dMo_atomic_91 (lv_at hl 1 rfl) ?_
            refine lv_goto (tgt := 149) hx hb dMo_atomic_93 (by decide) ?_
            exact jn3 (gr vs.toNatClampNeg) (by rw [if_neg c6, if_pos c7, if_pos c11]) _ hS
      · skip
        refine lv_lload hx hb dMo_atomic_57 (lv_at hl 1 rfl) ?_
        refine lv_goto (tgt := 149) hx hb dMo_atomic_59 (by decide) ?_
        exact jn3 (gr vs.toNatClampNeg) (by rw [if_pos c6]) _ hS
    · have c2 := mt (lg_cmp_eq _ _).mpr c2
      refine lv_iconst (v := (0 : Int32)) hx hb dMo_atomic_17 (by decide) ?_
      have hP9 := hP.sub (ws' := [(m0, .inr (5, [.int vth, .ref qt, .int vtp, .ref qp, .int vpl, .ref qr, .ref qm, .int vpc, .int vst, .int vc, .int vd, .int vs, .int vo, .int vi, .int vn])), (qr, .inl (cL, 11, .inr (.inl gr))), (qm, .inl (cI, 4096, .inl gm))]) [0, 1, 2] rfl
      have hD9 := hD.sub (ws' := [(m0, .inr (5, [.int vth, .ref qt, .int vtp, .ref qp, .int vpl, .ref qr, .ref qm, .int vpc, .int vst, .int vc, .int vd, .int vs, .int vo, .int vi, .int vn])), (qr, .inl (cL, 11, .inr (.inl gr))), (qm, .inl (cI, 4096, .inl gm))]) [0, 1, 2] (by decide) rfl
      exact W.zret (v := (0 : Int32)) hx hb hr rfl (fun t ht hW => ⟨⟨(0 : Int32), (gr, gm), rfl, ⟨(by unfold f_Mo_atomic; rw [if_pos c1, if_neg c2]; try rfl), (by unfold f_Mo_atomic; rw [if_pos c1, if_neg c2]; try rfl)⟩, by rw [ht]; exact hP9, hD9⟩, hS.F ht⟩) hS.2.2 dMo_atomic_18

def f_Mo_access (vc : Int32) (vd : Int32) (vs : Int32) (vo : Int32) (vi : Int32) (gr : Nat → Int64) (gm : Nat → Int32) : Bool × (Nat → Int64) × (Nat → Int32) :=
  if (f_Mo_kind vc) = (3 : Int32) then
    if (f_Mo_mode vc) = (6 : Int32) then
      ((f_Mo_atomic vs vi gr gm ((if (f_Mo_kind vc) = (1 : Int32) then (gr vs.toNatClampNeg) else (gr vd.toNatClampNeg)) + ((vo).toInt64)) (f_Mo_size vc)).1, ((f_Mo_atomic vs vi gr gm ((if (f_Mo_kind vc) = (1 : Int32) then (gr vs.toNatClampNeg) else (gr vd.toNatClampNeg)) + ((vo).toInt64)) (f_Mo_size vc)).2.1), ((f_Mo_atomic vs vi gr gm ((if (f_Mo_kind vc) = (1 : Int32) then (gr vs.toNatClampNeg) else (gr vd.toNatClampNeg)) + ((vo).toInt64)) (f_Mo_size vc)).2.2))
    else
      if (f_Mo_isThere ((if (f_Mo_kind vc) = (1 : Int32) then (gr vs.toNatClampNeg) else (gr vd.toNatClampNeg)) + ((vo).toInt64)) (f_Mo_size vc)) = true then
        if (f_Mo_kind vc) = (1 : Int32) then
          (true, (vp_updL gr vd.toNatClampNeg (if (f_Mo_mode vc) = (4 : Int32) then (f_Mo_signed (f_Mo_loadJ gm ((if (f_Mo_kind vc) = (1 : Int32) then (gr vs.toNatClampNeg) else (gr vd.toNatClampNeg)) + ((vo).toInt64)) (f_Mo_size vc)) ((8 : Int32) * (f_Mo_size vc))) else (f_Mo_loadJ gm ((if (f_Mo_kind vc) = (1 : Int32) then (gr vs.toNatClampNeg) else (gr vd.toNatClampNeg)) + ((vo).toInt64)) (f_Mo_size vc)))), gm)
        else
          (true, gr, ((f_Mo_store gm ((if (f_Mo_kind vc) = (1 : Int32) then (gr vs.toNatClampNeg) else (gr vd.toNatClampNeg)) + ((vo).toInt64)) (f_Mo_size vc) (if (f_Mo_kind vc) = (2 : Int32) then ((vi).toInt64) else (gr vs.toNatClampNeg)))))
      else
        (false, gr, gm)
  else
    if (f_Mo_isThere ((if (f_Mo_kind vc) = (1 : Int32) then (gr vs.toNatClampNeg) else (gr vd.toNatClampNeg)) + ((vo).toInt64)) (f_Mo_size vc)) = true then
      if (f_Mo_kind vc) = (1 : Int32) then
        (true, (vp_updL gr vd.toNatClampNeg (if (f_Mo_mode vc) = (4 : Int32) then (f_Mo_signed (f_Mo_loadJ gm ((if (f_Mo_kind vc) = (1 : Int32) then (gr vs.toNatClampNeg) else (gr vd.toNatClampNeg)) + ((vo).toInt64)) (f_Mo_size vc)) ((8 : Int32) * (f_Mo_size vc))) else (f_Mo_loadJ gm ((if (f_Mo_kind vc) = (1 : Int32) then (gr vs.toNatClampNeg) else (gr vd.toNatClampNeg)) + ((vo).toInt64)) (f_Mo_size vc)))), gm)
      else
        (true, gr, ((f_Mo_store gm ((if (f_Mo_kind vc) = (1 : Int32) then (gr vs.toNatClampNeg) else (gr vd.toNatClampNeg)) + ((vo).toInt64)) (f_Mo_size vc) (if (f_Mo_kind vc) = (2 : Int32) then ((vi).toInt64) else (gr vs.toNatClampNeg)))))
    else
      (false, gr, gm)
set_option maxHeartbeats 4000000 in
set_option maxRecDepth 100000 in
theorem c_Mo_access (l : Launch) (G : va_G) (cB cL cI : ClassId) (Hp : Heap) (m0 : Nat) (vth : Int32) (qt : Nat) (vtp : Int32) (qp : Nat) (vpl : Int32) (qr : Nat) (qm : Nat) (vpc : Int32) (vst : Int32) (vc : Int32) (vd : Int32) (vs : Int32) (vo : Int32) (vi : Int32) (vn : Int32) (gr : Nat → Int64) (gm : Nat → Int32) (hP : va_P G vwCl [(m0, .inr (5, [.int vth, .ref qt, .int vtp, .ref qp, .int vpl, .ref qr, .ref qm, .int vpc, .int vst, .int vc, .int vd, .int vs, .int vo, .int vi, .int vn])), (qr, .inl (cL, 11, .inr (.inl gr))), (qm, .inl (cI, 4096, .inl gm))] Hp) (hD : va_D (fun _ => True) [(m0, .inr (5, [.int vth, .ref qt, .int vtp, .ref qp, .int vpl, .ref qr, .ref qm, .int vpc, .int vst, .int vc, .int vd, .int vs, .int vo, .int vi, .int vn])), (qr, .inl (cL, 11, .inr (.inl gr))), (qm, .inl (cI, 4096, .inl gm))]) (hd : vp_in vd 11) (hs : vp_in vs 11) : Met l yMo_access wsMo_access ({ frames := 2, cells := 0, slots := 0, locals := 56 }) (va_Pc [.ref m0] (fun U => U.heap = Hp ∧ va_K G vwCl [(cB, .byte), (cL, .long), (cI, .int)] U)) (va_Qi (fun (r : Int32) (u : (Nat → Int64) × (Nat → Int32)) => r = bI ((f_Mo_access vc vd vs vo vi gr gm)).1 ∧ u = ((f_Mo_access vc vd vs vo vi gr gm)).2) (fun (u : (Nat → Int64) × (Nat → Int32)) t => va_P G vwCl [(m0, .inr (5, [.int vth, .ref qt, .int vtp, .ref qp, .int vpl, .ref qr, .ref qm, .int vpc, .int vst, .int vc, .int vd, .int vs, .int vo, .int vi, .int vn])), (qr, .inl (cL, 11, .inr (.inl (u.1)))), (qm, .inl (cI, 4096, .inl (u.2)))] t.heap ∧ va_D (va_A [(m0, .inr (5, [.int vth, .ref qt, .int vtp, .ref qp, .int vpl, .ref qr, .ref qm, .int vpc, .int vst, .int vc, .int vd, .int vs, .int vo, .int vi, .int vn])), (qr, .inl (cL, 11, .inr (.inl gr))), (qm, .inl (cI, 4096, .inl gm))] Hp.size) [(m0, .inr (5, [.int vth, .ref qt, .int vtp, .ref qp, .int vpl, .ref qr, .ref qm, .int vpc, .int vst, .int vc, .int vd, .int vs, .int vo, .int vi, .int vn])), (qr, .inl (cL, 11, .inr (.inl (u.1)))), (qm, .inl (cI, 4096, .inl (u.2)))]) (va_A [(m0, .inr (5, [.int vth, .ref qt, .int vtp, .ref qp, .int vpl, .ref qr, .ref qm, .int vpc, .int vst, .int vc, .int vd, .int vs, .int vo, .int vi, .int vn])), (qr, .inl (cL, 11, .inr (.inl gr))), (qm, .inl (cI, 4096, .inl gm))] Hp.size)) 0 0 (va_A [(m0, .inr (5, [.int vth, .ref qt, .int vtp, .ref qp, .int vpl, .ref qr, .ref qm, .int vpc, .int vst, .int vc, .int vd, .int vs, .int vo, .int vi, .int vn])), (qr, .inl (cL, 11, .inr (.inl gr))), (qm, .inl (cI, 4096, .inl gm))] Hp.size) := by
  refine Met.ofW (cc := cMo_access) (maxL := 4) (ret := (some .boolean)) (by decide) rfl ?_
  intro p e s m args below meth c s₁ B hml hv
  obtain ⟨rfl, rfl, hK⟩ := hv
  have hx := B.exec
  have hb := B.bytes
  have hr := B.returns
  have hT : ∀ w ∈ tB, w.before _ s = true := fun w h => atoms_spec (ws := wsMo_access) B.pre w (List.mem_cons_of_mem _ h)
  have hown : s.vm.findClass "CompiledProgramModel" = some m.cls := findClass_of_methodNamed B.named
  have hlocks := B.notSynchronized
  have hD := hD.self (sz := s.heap.size)
  generalize hAe : va_A [(m0, .inr (5, [.int vth, .ref qt, .int vtp, .ref qp, .int vpl, .ref qr, .ref qm, .int vpc, .int vst, .int vc, .int vd, .int vs, .int vo, .int vi, .int vn])), (qr, .inl (cL, 11, .inr (.inl gr))), (qm, .inl (cI, 4096, .inl gm))] s.heap.size = A at hD ⊢
  have hA : ∀ q : Nat, s.heap.size ≤ q → A q := fun q h => by rw [← hAe]; exact Or.inr h
  have hS : va_S A s.heap s.heap [] := va_S.rf
  have hl := lv_entry ([.ref m0]) (n := 4) (Nat.le_of_ble_eq_true rfl)
  rw [lg_entry_eq]
  generalize (lg_sl ([.ref m0]) ++ List.replicate (4 - (lg_sl ([.ref m0])).length) Slot.unset).toArray = ls at hl ⊢
  have hl : lv_has ls 4 [(0, .ref m0)] := hl
  refine lv_aload_n hx hb dMo_access_0 rfl (lv_at hl 0 rfl) ?_
  have hPc := hP.sub (ws' := [(m0, .inr (5, [.int vth, .ref qt, .int vtp, .ref qp, .int vpl, .ref qr, .ref qm, .int vpc, .int vst, .int vc, .int vd, .int vs, .int vo, .int vi, .int vn]))]) [0] rfl
  refine va_calli (va_runV (As := []) (rest := []) ⟨hx, hb, hml, hown, hT⟩ (c_Mo_size l G cB cL cI s.heap m0 vth qt vtp qp vpl qr qm vpc vst vc vd vs vo vi vn hPc ) (cwV 0 hT (gB_V mw_671 mw_673 ms_11 mw_6 mw_674) rfl rfl rfl (by decide +kernel) ⟨Nat.le_of_ble_eq_true rfl, Nat.le_of_ble_eq_true rfl⟩) ⟨fun a U g mk q => ⟨q.1, q.2.1, va_K.moved (u := U) (U := U.calling g mk a) (Vm.Alike.refl U.vm) q.2.2⟩, va_recv hK hPc (ci := 5) (q0 := 0) rfl rfl, fun U hU hW => ⟨rfl, hU, va_K.moved hW.alike hK⟩⟩ rfl rfl hl.1 rfl (lv_room (Nat.le_of_ble_eq_true rfl)) dMo_access_1 ⟨Nat.zero_le _, Nat.zero_le _⟩) hS (fun _ _ h => h.elim) (fun _ h => h.elim) (fun r u t H1 locs ht hvm hw hB hz8 hk8 hS => ?_)
  obtain rfl : s.heap = H1 := hB.symm.trans ht
  subst hw
  refine lv_istore_n (lv' := [(1, .int (f_Mo_size vc)), (0, .ref m0)]) hx hb dMo_access_4 rfl hl (by decide) rfl (fun ls hl => ?_)
  refine lv_aload_n hx hb dMo_access_5 rfl (lv_at hl 1 rfl) ?_
  have hPc := hP.sub (ws' := [(m0, .inr (5, [.int vth, .ref qt, .int vtp, .ref qp, .int vpl, .ref qr, .ref qm, .int vpc, .int vst, .int vc, .int vd, .int vs, .int vo, .int vi, .int vn]))]) [0] rfl
  refine va_calli (va_runV (As := []) (rest := []) ⟨hx, hb, hml, hown, hT⟩ (c_Mo_kind l G cB cL cI s.heap m0 vth qt vtp qp vpl qr qm vpc vst vc vd vs vo vi vn hPc ) (cwV 0 hT (gB_V mw_643 mw_645 ms_4 mw_6 mw_646) rfl rfl rfl (by decide +kernel) ⟨Nat.le_of_ble_eq_true rfl, Nat.le_of_ble_eq_true rfl⟩) ⟨fun a U g mk q => ⟨q.1, q.2.1, va_K.moved (u := U) (U := U.calling g mk a) (Vm.Alike.refl U.vm) q.2.2⟩, va_recv hK hPc (ci := 5) (q0 := 0) rfl rfl, fun U hU hW => ⟨rfl, hU, va_K.moved hW.alike hK⟩⟩ rfl rfl hl.1 rfl (lv_room (Nat.le_of_ble_eq_true rfl)) dMo_access_6 ⟨Nat.zero_le _, Nat.zero_le _⟩) hS (fun _ _ h => h.elim) (fun _ h => h.elim) (fun r u t H1 locs ht hvm hw hB hz8 hk8 hS => ?_)
  obtain rfl : s.heap = H1 := hB.symm.trans ht
  subst hw
  refine lv_iconst (v := (1 : Int32)) hx hb dMo_access_9 (by decide) ?_
  have jn1 : ∀ (x1 : Int64), x1 = (if (f_Mo_kind vc) = (1 : Int32) then (gr vs.toNatClampNeg) else (gr vd.toNatClampNeg)) → ∀ (locs : List Loc), va_S A s.heap s.heap locs → W p l e (headSpec wsMo_access ({ frames := 2, cells := 0, slots := 0, locals := 56 })).room s m ([.ref m0] : List Value).toArray below meth c s.heap locs 0 0 (MQ below (va_Qi (fun (r : Int32) (u : (Nat → Int64) × (Nat → Int32)) => r = bI ((f_Mo_access vc vd vs vo vi gr gm)).1 ∧ u = ((f_Mo_access vc vd vs vo vi gr gm)).2) (fun (u : (Nat → Int64) × (Nat → Int32)) t => va_P G vwCl [(m0, .inr (5, [.int vth, .ref qt, .int vtp, .ref qp, .int vpl, .ref qr, .ref qm, .int vpc, .int vst, .int vc, .int vd, .int vs, .int vo, .int vi, .int vn])), (qr, .inl (cL, 11, .inr (.inl (u.1)))), (qm, .inl (cI, 4096, .inl (u.2)))] t.heap ∧ va_D (A) [(m0, .inr (5, [.int vth, .ref qt, .int vtp, .ref qp, .int vpl, .ref qr, .ref qm, .int vpc, .int vst, .int vc, .int vd, .int vs, .int vo, .int vi, .int vn])), (qr, .inl (cL, 11, .inr (.inl (u.1)))), (qm, .inl (cI, 4096, .inl (u.2)))]) (A)) ([.ref m0] : List Value).toArray s 0 0 A) (F0 m 34 ls [.long x1]) := by
    intro x1 hx1 locs hS
    subst hx1
    refine lv_aload_n hx hb dMo_access_34 rfl (lv_at hl 1 rfl) ?_
    refine va_get (D := G) (ci := 5) (v := .int vo) (C := RMo) (T := TMo) (N := 15) hx hb hT inMo hown hK hP 0 rfl rfl 12 (by decide) (hT _ mw_577) (fun _ h9 => h9) rfl dMo_access_35 ?_
    refine lv_i2l hx hb dMo_access_38 rfl ?_
    refine lv_ladd hx hb dMo_access_39 ?_
    refine lv_lstore_n (lv' := [(2, .long ((if (f_Mo_kind vc) = (1 : Int32) then (gr vs.toNatClampNeg) else (gr vd.toNatClampNeg)) + ((vo).toInt64))), (1, .int (f_Mo_size vc)), (0, .ref m0)]) hx hb dMo_access_40 rfl hl (by decide) rfl (fun ls hl => ?_)
    refine lv_aload_n hx hb dMo_access_41 rfl (lv_at hl 2 rfl) ?_
    have hPc := hP.sub (ws' := [(m0, .inr (5, [.int vth, .ref qt, .int vtp, .ref qp, .int vpl, .ref qr, .ref qm, .int vpc, .int vst, .int vc, .int vd, .int vs, .int vo, .int vi, .int vn]))]) [0] rfl
    refine va_calli (va_runV (As := []) (rest := []) ⟨hx, hb, hml, hown, hT⟩ (c_Mo_kind l G cB cL cI s.heap m0 vth qt vtp qp vpl qr qm vpc vst vc vd vs vo vi vn hPc ) (cwV 0 hT (gB_V mw_643 mw_645 ms_4 mw_6 mw_646) rfl rfl rfl (by decide +kernel) ⟨Nat.le_of_ble_eq_true rfl, Nat.le_of_ble_eq_true rfl⟩) ⟨fun a U g mk q => ⟨q.1, q.2.1, va_K.moved (u := U) (U := U.calling g mk a) (Vm.Alike.refl U.vm) q.2.2⟩, va_recv hK hPc (ci := 5) (q0 := 0) rfl rfl, fun U hU hW => ⟨rfl, hU, va_K.moved hW.alike hK⟩⟩ rfl rfl hl.1 rfl (lv_room (Nat.le_of_ble_eq_true rfl)) dMo_access_42 ⟨Nat.zero_le _, Nat.zero_le _⟩) hS (fun _ _ h => h.elim) (fun _ h => h.elim) (fun r u t H1 locs ht hvm hw hB hz8 hk8 hS => ?_)
    obtain rfl : s.heap = H1 := hB.symm.trans ht
    subst hw
    refine lv_iconst (v := (3 : Int32)) hx hb dMo_access_45 (by decide) ?_
    refine lv_icmp_ne (tgt := 65) hx hb dMo_access_46 (by decide) (fun c2 => ?_) (fun c2 => ?_)
    · skip
      refine lv_lload_n hx hb dMo_access_65 rfl (lv_at hl 0 rfl) ?_
      refine lv_iload_n hx hb dMo_access_66 rfl (lv_at hl 1 rfl) ?_
      have hPc := hP.sub (ws' := []) [] rfl
      refine va_calli (va_runS (As := [.long ((if (f_Mo_kind vc) = (1 : Int32) then (gr vs.toNatClampNeg) else (gr vd.toNatClampNeg)) + ((vo).toInt64)), .int (f_Mo_size vc)]) (rest := []) ⟨hx, hb, hml, hown, hT⟩ (c_Mo_isThere l G cB cL cI s.heap ((if (f_Mo_kind vc) = (1 : Int32) then (gr vs.toNatClampNeg) else (gr vd.toNatClampNeg)) + ((vo).toInt64)) (f_Mo_size vc) hPc ) (cwS 2 hT (gB_S mw_707 mw_708 mw_6 mw_709) rfl rfl rfl (by decide +kernel) ⟨Nat.le_of_ble_eq_true rfl, Nat.le_of_ble_eq_true rfl⟩) ⟨fun a U g mk q => ⟨q.1, q.2.1, va_K.moved (u := U) (U := U.calling g mk a) (Vm.Alike.refl U.vm) q.2.2⟩, fun U hU hW => ⟨rfl, hU, va_K.moved hW.alike hK⟩⟩ rfl rfl hl.1 rfl (lv_room (Nat.le_of_ble_eq_true rfl)) dMo_access_67 ⟨Nat.zero_le _, Nat.zero_le _⟩) hS (fun _ _ h => h.elim) (fun _ h => h.elim) (fun r u t H1 locs ht hvm hw hB hz8 hk8 hS => ?_)
      obtain rfl : s.heap = H1 := hB.symm.trans ht
      subst hw
      refine lv_if_ne (tgt := 75) hx hb dMo_access_70 (by decide) (fun c3 => ?_) (fun c3 => ?_)
      · have c3 := bI_n c3
        refine lv_aload_n hx hb dMo_access_75 rfl (lv_at hl 2 rfl) ?_
        have hPc := hP.sub (ws' := [(m0, .inr (5, [.int vth, .ref qt, .int vtp, .ref qp, .int vpl, .ref qr, .ref qm, .int vpc, .int vst, .int vc, .int vd, .int vs, .int vo, .int vi, .int vn]))]) [0] rfl
        refine va_calli (va_runV (As := []) (rest := []) ⟨hx, hb, hml, hown, hT⟩ (c_Mo_kind l G cB cL cI s.heap m0 vth qt vtp qp vpl qr qm vpc vst vc vd vs vo vi vn hPc ) (cwV 0 hT (gB_V mw_643 mw_645 ms_4 mw_6 mw_646) rfl rfl rfl (by decide +kernel) ⟨Nat.le_of_ble_eq_true rfl, Nat.le_of_ble_eq_true rfl⟩) ⟨fun a U g mk q => ⟨q.1, q.2.1, va_K.moved (u := U) (U := U.calling g mk a) (Vm.Alike.refl U.vm) q.2.2⟩, va_recv hK hPc (ci := 5) (q0 := 0) rfl rfl, fun U hU hW => ⟨rfl, hU, va_K.moved hW.alike hK⟩⟩ rfl rfl hl.1 rfl (lv_room (Nat.le_of_ble_eq_true rfl)) dMo_access_76 ⟨Nat.zero_le _, Nat.zero_le _⟩) hS (fun _ _ h => h.elim) (fun _ h => h.elim) (fun r u t H1 locs ht hvm hw hB hz8 hk8 hS => ?_)
        obtain rfl : s.heap = H1 := hB.symm.trans ht
        subst hw
        refine lv_iconst (v := (1 : Int32)) hx hb dMo_access_79 (by decide) ?_
        refine lv_icmp_ne (tgt := 125) hx hb dMo_access_80 (by decide) (fun c4 => ?_) (fun c4 => ?_)
        · skip
          refine lv_aload_n hx hb dMo_access_125 rfl (lv_at hl 2 rfl) ?_
          refine lv_lload_n hx hb dMo_access_126 rfl (lv_at hl 0 rfl) ?_
          refine lv_iload_n hx hb dMo_access_127 rfl (lv_at hl 1 rfl) ?_
          refine lv_aload_n hx hb dMo_access_128 rfl (lv_at hl 2 rfl) ?_
          have hPc := hP.sub (ws' := [(m0, .inr (5, [.int vth, .ref qt, .int vtp, .ref qp, .int vpl, .ref qr, .ref qm, .int vpc, .int vst, .int vc, .int vd, .int vs, .int vo, .int vi, .int vn]))]) [0] rfl
          refine va_calli (va_runV (As := []) (rest := [.int (f_Mo_size vc), .long ((if (f_Mo_kind vc) = (1 : Int32) then (gr vs.toNatClampNeg) else (gr vd.toNatClampNeg)) + ((vo).toInt64)), .ref m0]) ⟨hx, hb, hml, hown, hT⟩ (c_Mo_kind l G cB cL cI s.heap m0 vth qt vtp qp vpl qr qm vpc vst vc vd vs vo vi vn hPc ) (cwV 0 hT (gB_V mw_643 mw_645 ms_4 mw_6 mw_646) rfl rfl rfl (by decide +kernel) ⟨Nat.le_of_ble_eq_true rfl, Nat.le_of_ble_eq_true rfl⟩) ⟨fun a U g mk q => ⟨q.1, q.2.1, va_K.moved (u := U) (U := U.calling g mk a) (Vm.Alike.refl U.vm) q.2.2⟩, va_recv hK hPc (ci := 5) (q0 := 0) rfl rfl, fun U hU hW => ⟨rfl, hU, va_K.moved hW.alike hK⟩⟩ rfl rfl hl.1 rfl (lv_room (Nat.le_of_ble_eq_true rfl)) dMo_access_129 ⟨Nat.zero_le _, Nat.zero_le _⟩) hS (fun _ _ h => h.elim) (fun _ h => h.elim) (fun r u t H1 locs ht hvm hw hB hz8 hk8 hS => ?_)
          obtain rfl : s.heap = H1 := hB.symm.trans ht
          subst hw
          refine lv_iconst (v := (2 : Int32)) hx hb dMo_access_132 (by decide) ?_
          have jn5 : ∀ (x5 : Int64), x5 = (if (f_Mo_kind vc) = (2 : Int32) then ((vi).toInt64) else (gr vs.toNatClampNeg)) → ∀ (locs : List Loc), va_S A s.heap s.heap locs → W p l e (headSpec wsMo_access ({ frames := 2, cells := 0, slots := 0, locals := 56 })).room s m ([.ref m0] : List Value).toArray below meth c s.heap locs 0 0 (MQ below (va_Qi (fun (r : Int32) (u : (Nat → Int64) × (Nat → Int32)) => r = bI ((f_Mo_access vc vd vs vo vi gr gm)).1 ∧ u = ((f_Mo_access vc vd vs vo vi gr gm)).2) (fun (u : (Nat → Int64) × (Nat → Int32)) t => va_P G vwCl [(m0, .inr (5, [.int vth, .ref qt, .int vtp, .ref qp, .int vpl, .ref qr, .ref qm, .int vpc, .int vst, .int vc, .int vd, .int vs, .int vo, .int vi, .int vn])), (qr, .inl (cL, 11, .inr (.inl (u.1)))), (qm, .inl (cI, 4096, .inl (u.2)))] t.heap ∧ va_D (A) [(m0, .inr (5, [.int vth, .ref qt, .int vtp, .ref qp, .int vpl, .ref qr, .ref qm, .int vpc, .int vst, .int vc, .int vd, .int vs, .int vo, .int vi, .int vn])), (qr, .inl (cL, 11, .inr (.inl (u.1)))), (qm, .inl (cI, 4096, .inl (u.2)))]) (A)) ([.ref m0] : List Value).toArray s 0 0 A) (F0 m 153 ls [.long x5, .int (f_Mo_size vc), .long ((if (f_Mo_kind vc) = (1 : Int32) then (gr vs.toNatClampNeg) else (gr vd.toNatClampNeg)) + ((vo).toInt64)), .ref m0]) := by
            intro x5 hx5 locs hS
            subst hx5
            have hPc := hP.sub (ws' := [(m0, .inr (5, [.int vth, .ref qt, .int vtp, .ref qp, .int vpl, .ref qr, .ref qm, .int vpc, .int vst, .int vc, .int vd, .int vs, .int vo, .int vi, .int vn])), (qm, .inl (cI, 4096, .inl gm))]) [0, 2] rfl
            have hDc := hD.sub (ws' := [(m0, .inr (5, [.int vth, .ref qt, .int vtp, .ref qp, .int vpl, .ref qr, .ref qm, .int vpc, .int vst, .int vc, .int vd, .int vs, .int vo, .int vi, .int vn])), (qm, .inl (cI, 4096, .inl gm))]) [0, 2] (by decide) rfl
            have hFc := va_free (wc := [(m0, .inr (5, [.int vth, .ref qt, .int vtp, .ref qp, .int vpl, .ref qr, .ref qm, .int vpc, .int vst, .int vc, .int vd, .int vs, .int vo, .int vi, .int vn])), (qm, .inl (cI, 4096, .inl gm))]) hD hS hA [0, 2] rfl
            refine va_callv (va_runV (As := [.long ((if (f_Mo_kind vc) = (1 : Int32) then (gr vs.toNatClampNeg) else (gr vd.toNatClampNeg)) + ((vo).toInt64)), .int (f_Mo_size vc), .long (if (f_Mo_kind vc) = (2 : Int32) then ((vi).toInt64) else (gr vs.toNatClampNeg))]) (rest := []) ⟨hx, hb, hml, hown, hT⟩ (c_Mo_store l G cB cL cI s.heap m0 vth qt vtp qp vpl qr qm vpc vst vc vd vs vo vi vn gm ((if (f_Mo_kind vc) = (1 : Int32) then (gr vs.toNatClampNeg) else (gr vd.toNatClampNeg)) + ((vo).toInt64)) (f_Mo_size vc) (if (f_Mo_kind vc) = (2 : Int32) then ((vi).toInt64) else (gr vs.toNatClampNeg)) hPc (hDc.weaken (fun _ _ _ _ => trivial)) c3 (msize_ok vc)) (cwV 3 hT (gB_V mw_712 mw_714 ms_16 mw_6 mw_715) rfl rfl rfl (by decide +kernel) ⟨Nat.le_of_ble_eq_true rfl, Nat.le_of_ble_eq_true rfl⟩) ⟨fun a U g mk q => ⟨q.1, q.2.1, va_K.moved (u := U) (U := U.calling g mk a) (Vm.Alike.refl U.vm) q.2.2⟩, va_recv hK hPc (ci := 5) (q0 := 0) rfl rfl, fun U hU hW => ⟨rfl, hU, va_K.moved hW.alike hK⟩⟩ rfl rfl hl.1 rfl (lv_room (Nat.le_of_ble_eq_true rfl)) dMo_access_153 ⟨Nat.zero_le _, Nat.zero_le _⟩) hS (fun q _ h => hFc q h) hFc (fun u t H locs ht hvm hw hB hz8 hk8 hS => ?_)
            subst hw
            obtain ⟨hP1, hD1⟩ := hB
            rw [ht] at hP1
            obtain ⟨hP, hD⟩ := va_join (wr := [(qr, .inl (cL, 11, .inr (.inl gr)))]) (w1 := [(m0, .inr (5, [.int vth, .ref qt, .int vtp, .ref qp, .int vpl, .ref qr, .ref qm, .int vpc, .int vst, .int vc, .int vd, .int vs, .int vo, .int vi, .int vn])), (qm, .inl (cI, 4096, .inl ((f_Mo_store gm ((if (f_Mo_kind vc) = (1 : Int32) then (gr vs.toNatClampNeg) else (gr vd.toNatClampNeg)) + ((vo).toInt64)) (f_Mo_size vc) (if (f_Mo_kind vc) = (2 : Int32) then ((vi).toInt64) else (gr vs.toNatClampNeg))))))]) hP hD [0, 2] [1] rfl rfl (by decide) (by decide) hk8 hFc hP1 hD1
            have hP : va_P G vwCl [(qr, .inl (cL, 11, .inr (.inl gr))), (m0, .inr (5, [.int vth, .ref qt, .int vtp, .ref qp, .int vpl, .ref qr, .ref qm, .int vpc, .int vst, .int vc, .int vd, .int vs, .int vo, .int vi, .int vn])), (qm, .inl (cI, 4096, .inl ((f_Mo_store gm ((if (f_Mo_kind vc) = (1 : Int32) then (gr vs.toNatClampNeg) else (gr vd.toNatClampNeg)) + ((vo).toInt64)) (f_Mo_size vc) (if (f_Mo_kind vc) = (2 : Int32) then ((vi).toInt64) else (gr vs.toNatClampNeg))))))] H := hP
            have hD : va_D A [(qr, .inl (cL, 11, .inr (.inl gr))), (m0, .inr (5, [.int vth, .ref qt, .int vtp, .ref qp, .int vpl, .ref qr, .ref qm, .int vpc, .int vst, .int vc, .int vd, .int vs, .int vo, .int vi, .int vn])), (qm, .inl (cI, 4096, .inl ((f_Mo_store gm ((if (f_Mo_kind vc) = (1 : Int32) then (gr vs.toNatClampNeg) else (gr vd.toNatClampNeg)) + ((vo).toInt64)) (f_Mo_size vc) (if (f_Mo_kind vc) = (2 : Int32) then ((vi).toInt64) else (gr vs.toNatClampNeg))))))] := hD
            refine lv_iconst (v := (1 : Int32)) hx hb dMo_access_156 (by decide) ?_
            have hP9 := hP.sub (ws' := [(m0, .inr (5, [.int vth, .ref qt, .int vtp, .ref qp, .int vpl, .ref qr, .ref qm, .int vpc, .int vst, .int vc, .int vd, .int vs, .int vo, .int vi, .int vn])), (qr, .inl (cL, 11, .inr (.inl gr))), (qm, .inl (cI, 4096, .inl ((f_Mo_store gm ((if (f_Mo_kind vc) = (1 : Int32) then (gr vs.toNatClampNeg) else (gr vd.toNatClampNeg)) + ((vo).toInt64)) (f_Mo_size vc) (if (f_Mo_kind vc) = (2 : Int32) then ((vi).toInt64) else (gr vs.toNatClampNeg))))))]) [1, 0, 2] rfl
            have hD9 := hD.sub (ws' := [(m0, .inr (5, [.int vth, .ref qt, .int vtp, .ref qp, .int vpl, .ref qr, .ref qm, .int vpc, .int vst, .int vc, .int vd, .int vs, .int vo, .int vi, .int vn])), (qr, .inl (cL, 11, .inr (.inl gr))), (qm, .inl (cI, 4096, .inl ((f_Mo_store gm ((if (f_Mo_kind vc) = (1 : Int32) then (gr vs.toNatClampNeg) else (gr vd.toNatClampNeg)) + ((vo).toInt64)) (f_Mo_size vc) (if (f_Mo_kind vc) = (2 : Int32) then ((vi).toInt64) else (gr vs.toNatClampNeg))))))]) [1, 0, 2] (by decide) rfl
            exact W.zret (v := (1 : Int32)) hx hb hr rfl (fun t ht hW => ⟨⟨(1 : Int32), (gr, ((f_Mo_store gm ((if (f_Mo_kind vc) = (1 : Int32) then (gr vs.toNatClampNeg) else (gr vd.toNatClampNeg)) + ((vo).toInt64)) (f_Mo_size vc) (if (f_Mo_kind vc) = (2 : Int32) then ((vi).toInt64) else (gr vs.toNatClampNeg))))), rfl, ⟨(by unfold f_Mo_access; rw [if_neg c2, if_pos c3, if_neg c4]; try rfl), (by unfold f_Mo_access; rw [if_neg c2, if_pos c3, if_neg c4]; try rfl)⟩, by rw [ht]; exact hP9, hD9⟩, hS.F ht⟩) hS.2.2 dMo_access_157
          refine lv_icmp_ne (tgt := 144) hx hb dMo_access_133 (by decide) (fun c6 => ?_) (fun c6 => ?_)
          · skip
            refine lv_aload_n hx hb dMo_access_144 rfl (lv_at hl 2 rfl) ?_
            refine va_get (D := G) (ci := 5) (v := .ref qr) (C := RMo) (T := TMo) (N := 15) hx hb hT inMo hown hK hP 0 rfl rfl 5 (by decide) (hT _ mw_570) (fun _ h9 => h9) rfl dMo_access_145 ?_
            refine lv_aload_n hx hb dMo_access_148 rfl (lv_at hl 2 rfl) ?_
            refine va_get (D := G) (ci := 5) (v := .int vs) (C := RMo) (T := TMo) (N := 15) hx hb hT inMo hown hK hP 0 rfl rfl 11 (by decide) (hT _ mw_576) (fun _ h9 => h9) rfl dMo_access_149 ?_
            refine va_lald hx hb hK hP 1 1 rfl rfl hs dMo_access_152 ?_
            exact jn5 (gr vs.toNatClampNeg) (by rw [if_neg c6]) _ hS
          · skip
            refine lv_aload_n hx hb dMo_access_136 rfl (lv_at hl 2 rfl) ?_
            refine va_get (D := G) (ci := 5) (v := .int vi) (C := RMo) (T := TMo) (N := 15) hx hb hT inMo hown hK hP 0 rfl rfl 13 (by decide) (hT _ mw_578) (fun _ h9 => h9) rfl dMo_access_137 ?_
            refine lv_i2l hx hb dMo_access_140 rfl ?_
            refine lv_goto (tgt := 153) hx hb dMo_access_141 (by decide) ?_
            exact jn5 ((vi).toInt64) (by rw [if_pos c6]) _ hS
        · skip
          refine lv_aload_n hx hb dMo_access_83 rfl (lv_at hl 2 rfl) ?_
          refine va_get (D := G) (ci := 5) (v := .ref qr) (C := RMo) (T := TMo) (N := 15) hx hb hT inMo hown hK hP 0 rfl rfl 5 (by decide) (hT _ mw_570) (fun _ h9 => h9) rfl dMo_access_84 ?_
          refine lv_aload_n hx hb dMo_access_87 rfl (lv_at hl 2 rfl) ?_
          refine va_get (D := G) (ci := 5) (v := .int vd) (C := RMo) (T := TMo) (N := 15) hx hb hT inMo hown hK hP 0 rfl rfl 10 (by decide) (hT _ mw_575) (fun _ h9 => h9) rfl dMo_access_88 ?_
          refine lv_aload_n hx hb dMo_access_91 rfl (lv_at hl 2 rfl) ?_
          have hPc := hP.sub (ws' := [(m0, .inr (5, [.int vth, .ref qt, .int vtp, .ref qp, .int vpl, .ref qr, .ref qm, .int vpc, .int vst, .int vc, .int vd, .int vs, .int vo, .int vi, .int vn]))]) [0] rfl
          refine va_calli (va_runV (As := []) (rest := [.int vd, .ref qr]) ⟨hx, hb, hml, hown, hT⟩ (c_Mo_mode l G cB cL cI s.heap m0 vth qt vtp qp vpl qr qm vpc vst vc vd vs vo vi vn hPc ) (cwV 0 hT (gB_V mw_667 mw_669 ms_10 mw_6 mw_670) rfl rfl rfl (by decide +kernel) ⟨Nat.le_of_ble_eq_true rfl, Nat.le_of_ble_eq_true rfl⟩) ⟨fun a U g mk q => ⟨q.1, q.2.1, va_K.moved (u := U) (U := U.calling g mk a) (Vm.Alike.refl U.vm) q.2.2⟩, va_recv hK hPc (ci := 5) (q0 := 0) rfl rfl, fun U hU hW => ⟨rfl, hU, va_K.moved hW.alike hK⟩⟩ rfl rfl hl.1 rfl (lv_room (Nat.le_of_ble_eq_true rfl)) dMo_access_92 ⟨Nat.zero_le _, Nat.zero_le _⟩) hS (fun _ _ h => h.elim) (fun _ h => h.elim) (fun r u t H1 locs ht hvm hw hB hz8 hk8 hS => ?_)
          obtain rfl : s.heap = H1 := hB.symm.trans ht
          subst hw
          refine lv_iconst (v := (4 : Int32)) hx hb dMo_access_95 (by decide) ?_
          have jn7 : ∀ (x7 : Int64), x7 = (if (f_Mo_mode vc) = (4 : Int32) then (f_Mo_signed (f_Mo_loadJ gm ((if (f_Mo_kind vc) = (1 : Int32) then (gr vs.toNatClampNeg) else (gr vd.toNatClampNeg)) + ((vo).toInt64)) (f_Mo_size vc)) ((8 : Int32) * (f_Mo_size vc))) else (f_Mo_loadJ gm ((if (f_Mo_kind vc) = (1 : Int32) then (gr vs.toNatClampNeg) else (gr vd.toNatClampNeg)) + ((vo).toInt64)) (f_Mo_size vc))) → ∀ (locs : List Loc), va_S A s.heap s.heap locs → W p l e (headSpec wsMo_access ({ frames := 2, cells := 0, slots := 0, locals := 56 })).room s m ([.ref m0] : List Value).toArray below meth c s.heap locs 0 0 (MQ below (va_Qi (fun (r : Int32) (u : (Nat → Int64) × (Nat → Int32)) => r = bI ((f_Mo_access vc vd vs vo vi gr gm)).1 ∧ u = ((f_Mo_access vc vd vs vo vi gr gm)).2) (fun (u : (Nat → Int64) × (Nat → Int32)) t => va_P G vwCl [(m0, .inr (5, [.int vth, .ref qt, .int vtp, .ref qp, .int vpl, .ref qr, .ref qm, .int vpc, .int vst, .int vc, .int vd, .int vs, .int vo, .int vi, .int vn])), (qr, .inl (cL, 11, .inr (.inl (u.1)))), (qm, .inl (cI, 4096, .inl (u.2)))] t.heap ∧ va_D (A) [(m0, .inr (5, [.int vth, .ref qt, .int vtp, .ref qp, .int vpl, .ref qr, .ref qm, .int vpc, .int vst, .int vc, .int vd, .int vs, .int vo, .int vi, .int vn])), (qr, .inl (cL, 11, .inr (.inl (u.1)))), (qm, .inl (cI, 4096, .inl (u.2)))]) (A)) ([.ref m0] : List Value).toArray s 0 0 A) (F0 m 121 ls [.long x7, .int vd, .ref qr]) := by
            intro x7 hx7 locs hS
            subst hx7
            refine va_last hx hb hK hP hD hS 1 1 rfl rfl hd dMo_access_121 (fun H locs hP hD hS => ?_)
            have hP : va_P G vwCl [(m0, .inr (5, [.int vth, .ref qt, .int vtp, .ref qp, .int vpl, .ref qr, .ref qm, .int vpc, .int vst, .int vc, .int vd, .int vs, .int vo, .int vi, .int vn])), (qr, .inl (cL, 11, .inr (.inl (vp_updL gr vd.toNatClampNeg (if (f_Mo_mode vc) = (4 : Int32) then (f_Mo_signed (f_Mo_loadJ gm ((if (f_Mo_kind vc) = (1 : Int32) then (gr vs.toNatClampNeg) else (gr vd.toNatClampNeg)) + ((vo).toInt64)) (f_Mo_size vc)) ((8 : Int32) * (f_Mo_size vc))) else (f_Mo_loadJ gm ((if (f_Mo_kind vc) = (1 : Int32) then (gr vs.toNatClampNeg) else (gr vd.toNatClampNeg)) + ((vo).toInt64)) (f_Mo_size vc))))))), (qm, .inl (cI, 4096, .inl gm))] H := hP
            have hD : va_D A [(m0, .inr (5, [.int vth, .ref qt, .int vtp, .ref qp, .int vpl, .ref qr, .ref qm, .int vpc, .int vst, .int vc, .int vd, .int vs, .int vo, .int vi, .int vn])), (qr, .inl (cL, 11, .inr (.inl (vp_updL gr vd.toNatClampNeg (if (f_Mo_mode vc) = (4 : Int32) then (f_Mo_signed (f_Mo_loadJ gm ((if (f_Mo_kind vc) = (1 : Int32) then (gr vs.toNatClampNeg) else (gr vd.toNatClampNeg)) + ((vo).toInt64)) (f_Mo_size vc)) ((8 : Int32) * (f_Mo_size vc))) else (f_Mo_loadJ gm ((if (f_Mo_kind vc) = (1 : Int32) then (gr vs.toNatClampNeg) else (gr vd.toNatClampNeg)) + ((vo).toInt64)) (f_Mo_size vc))))))), (qm, .inl (cI, 4096, .inl gm))] := hD
            refine lv_goto (tgt := 156) hx hb dMo_access_122 (by decide) ?_
            refine lv_iconst (v := (1 : Int32)) hx hb dMo_access_156 (by decide) ?_
            have hP9 := hP.sub (ws' := [(m0, .inr (5, [.int vth, .ref qt, .int vtp, .ref qp, .int vpl, .ref qr, .ref qm, .int vpc, .int vst, .int vc, .int vd, .int vs, .int vo, .int vi, .int vn])), (qr, .inl (cL, 11, .inr (.inl (vp_updL gr vd.toNatClampNeg (if (f_Mo_mode vc) = (4 : Int32) then (f_Mo_signed (f_Mo_loadJ gm ((if (f_Mo_kind vc) = (1 : Int32) then (gr vs.toNatClampNeg) else (gr vd.toNatClampNeg)) + ((vo).toInt64)) (f_Mo_size vc)) ((8 : Int32) * (f_Mo_size vc))) else (f_Mo_loadJ gm ((if (f_Mo_kind vc) = (1 : Int32) then (gr vs.toNatClampNeg) else (gr vd.toNatClampNeg)) + ((vo).toInt64)) (f_Mo_size vc))))))), (qm, .inl (cI, 4096, .inl gm))]) [0, 1, 2] rfl
            have hD9 := hD.sub (ws' := [(m0, .inr (5, [.int vth, .ref qt, .int vtp, .ref qp, .int vpl, .ref qr, .ref qm, .int vpc, .int vst, .int vc, .int vd, .int vs, .int vo, .int vi, .int vn])), (qr, .inl (cL, 11, .inr (.inl (vp_updL gr vd.toNatClampNeg (if (f_Mo_mode vc) = (4 : Int32) then (f_Mo_signed (f_Mo_loadJ gm ((if (f_Mo_kind vc) = (1 : Int32) then (gr vs.toNatClampNeg) else (gr vd.toNatClampNeg)) + ((vo).toInt64)) (f_Mo_size vc)) ((8 : Int32) * (f_Mo_size vc))) else (f_Mo_loadJ gm ((if (f_Mo_kind vc) = (1 : Int32) then (gr vs.toNatClampNeg) else (gr vd.toNatClampNeg)) + ((vo).toInt64)) (f_Mo_size vc))))))), (qm, .inl (cI, 4096, .inl gm))]) [0, 1, 2] (by decide) rfl
            exact W.zret (v := (1 : Int32)) hx hb hr rfl (fun t ht hW => ⟨⟨(1 : Int32), ((vp_updL gr vd.toNatClampNeg (if (f_Mo_mode vc) = (4 : Int32) then (f_Mo_signed (f_Mo_loadJ gm ((if (f_Mo_kind vc) = (1 : Int32) then (gr vs.toNatClampNeg) else (gr vd.toNatClampNeg)) + ((vo).toInt64)) (f_Mo_size vc)) ((8 : Int32) * (f_Mo_size vc))) else (f_Mo_loadJ gm ((if (f_Mo_kind vc) = (1 : Int32) then (gr vs.toNatClampNeg) else (gr vd.toNatClampNeg)) + ((vo).toInt64)) (f_Mo_size vc)))), gm), rfl, ⟨(by unfold f_Mo_access; rw [if_neg c2, if_pos c3, if_pos c4]; try rfl), (by unfold f_Mo_access; rw [if_neg c2, if_pos c3, if_pos c4]; try rfl)⟩, by rw [ht]; exact hP9, hD9⟩, hS.F ht⟩) hS.2.2 dMo_access_157
          refine lv_icmp_ne (tgt := 115) hx hb dMo_access_96 (by decide) (fun c8 => ?_) (fun c8 => ?_)
          · skip
            refine lv_aload_n hx hb dMo_access_115 rfl (lv_at hl 2 rfl) ?_
            refine lv_lload_n hx hb dMo_access_116 rfl (lv_at hl 0 rfl) ?_
            refine lv_iload_n hx hb dMo_access_117 rfl (lv_at hl 1 rfl) ?_
            have hPc := hP.sub (ws' := [(m0, .inr (5, [.int vth, .ref qt, .int vtp, .ref qp, .int vpl, .ref qr, .ref qm, .int vpc, .int vst, .int vc, .int vd, .int vs, .int vo, .int vi, .int vn])), (qm, .inl (cI, 4096, .inl gm))]) [0, 2] rfl
            refine va_calll (va_runV (As := [.long ((if (f_Mo_kind vc) = (1 : Int32) then (gr vs.toNatClampNeg) else (gr vd.toNatClampNeg)) + ((vo).toInt64)), .int (f_Mo_size vc)]) (rest := [.int vd, .ref qr]) ⟨hx, hb, hml, hown, hT⟩ (c_Mo_loadJ l G cB cL cI s.heap m0 vth qt vtp qp vpl qr qm vpc vst vc vd vs vo vi vn gm ((if (f_Mo_kind vc) = (1 : Int32) then (gr vs.toNatClampNeg) else (gr vd.toNatClampNeg)) + ((vo).toInt64)) (f_Mo_size vc) hPc c3 (msize_ok vc)) (cwV 2 hT (gB_V mw_720 mw_722 ms_17 mw_6 mw_723) rfl rfl rfl (by decide +kernel) ⟨Nat.le_of_ble_eq_true rfl, Nat.le_of_ble_eq_true rfl⟩) ⟨fun a U g mk q => ⟨q.1, q.2.1, va_K.moved (u := U) (U := U.calling g mk a) (Vm.Alike.refl U.vm) q.2.2⟩, va_recv hK hPc (ci := 5) (q0 := 0) rfl rfl, fun U hU hW => ⟨rfl, hU, va_K.moved hW.alike hK⟩⟩ rfl rfl hl.1 rfl (lv_room (Nat.le_of_ble_eq_true rfl)) dMo_access_118 ⟨Nat.zero_le _, Nat.zero_le _⟩) hS (fun _ _ h => h.elim) (fun _ h => h.elim) (fun r u t H1 locs ht hvm hw hB hz8 hk8 hS => ?_)
            obtain rfl : s.heap = H1 := hB.symm.trans ht
            subst hw
            exact jn7 (f_Mo_loadJ gm ((if (f_Mo_kind vc) = (1 : Int32) then (gr vs.toNatClampNeg) else (gr vd.toNatClampNeg)) + ((vo).toInt64)) (f_Mo_size vc)) (by rw [if_neg c8]) _ hS
          · skip
            refine lv_aload_n hx hb dMo_access_99 rfl (lv_at hl 2 rfl) ?_
            refine lv_lload_n hx hb dMo_access_100 rfl (lv_at hl 0 rfl) ?_
            refine lv_iload_n hx hb dMo_access_101 rfl (lv_at hl 1 rfl) ?_
            have hPc := hP.sub (ws' := [(m0, .inr (5, [.int vth, .ref qt, .int vtp, .ref qp, .int vpl, .ref qr, .ref qm, .int vpc, .int vst, .int vc, .int vd, .int vs, .int vo, .int vi, .int vn])), (qm, .inl (cI, 4096, .inl gm))]) [0, 2] rfl
            refine va_calll (va_runV (As := [.long ((if (f_Mo_kind vc) = (1 : Int32) then (gr vs.toNatClampNeg) else (gr vd.toNatClampNeg)) + ((vo).toInt64)), .int (f_Mo_size vc)]) (rest := [.int vd, .ref qr]) ⟨hx, hb, hml, hown, hT⟩ (c_Mo_loadJ l G cB cL cI s.heap m0 vth qt vtp qp vpl qr qm vpc vst vc vd vs vo vi vn gm ((if (f_Mo_kind vc) = (1 : Int32) then (gr vs.toNatClampNeg) else (gr vd.toNatClampNeg)) + ((vo).toInt64)) (f_Mo_size vc) hPc c3 (msize_ok vc)) (cwV 2 hT (gB_V mw_720 mw_722 ms_17 mw_6 mw_723) rfl rfl rfl (by decide +kernel) ⟨Nat.le_of_ble_eq_true rfl, Nat.le_of_ble_eq_true rfl⟩) ⟨fun a U g mk q => ⟨q.1, q.2.1, va_K.moved (u := U) (U := U.calling g mk a) (Vm.Alike.refl U.vm) q.2.2⟩, va_recv hK hPc (ci := 5) (q0 := 0) rfl rfl, fun U hU hW => ⟨rfl, hU, va_K.moved hW.alike hK⟩⟩ rfl rfl hl.1 rfl (lv_room (Nat.le_of_ble_eq_true rfl)) dMo_access_102 ⟨Nat.zero_le _, Nat.zero_le _⟩) hS (fun _ _ h => h.elim) (fun _ h => h.elim) (fun r u t H1 locs ht hvm hw hB hz8 hk8 hS => ?_)
            obtain rfl : s.heap = H1 := hB.symm.trans ht
            subst hw
            refine lv_bipush (v := (8 : Int32)) hx hb dMo_access_105 (by decide) ?_
            refine lv_iload_n hx hb dMo_access_107 rfl (lv_at hl 1 rfl) ?_
            refine lv_imul hx hb dMo_access_108 ?_
            have hPc := hP.sub (ws' := []) [] rfl
            refine va_calll (va_runS (As := [.long (f_Mo_loadJ gm ((if (f_Mo_kind vc) = (1 : Int32) then (gr vs.toNatClampNeg) else (gr vd.toNatClampNeg)) + ((vo).toInt64)) (f_Mo_size vc)), .int ((8 : Int32) * (f_Mo_size vc))]) (rest := [.int vd, .ref qr]) ⟨hx, hb, hml, hown, hT⟩ (c_Mo_signed l G cB cL cI s.heap (f_Mo_loadJ gm ((if (f_Mo_kind vc) = (1 : Int32) then (gr vs.toNatClampNeg) else (gr vd.toNatClampNeg)) + ((vo).toInt64)) (f_Mo_size vc)) ((8 : Int32) * (f_Mo_size vc)) hPc ) (cwS 2 hT (gB_S mw_759 mw_760 mw_6 mw_761) rfl rfl rfl (by decide +kernel) ⟨Nat.le_of_ble_eq_true rfl, Nat.le_of_ble_eq_true rfl⟩) ⟨fun a U g mk q => ⟨q.1, q.2.1, va_K.moved (u := U) (U := U.calling g mk a) (Vm.Alike.refl U.vm) q.2.2⟩, fun U hU hW => ⟨rfl, hU, va_K.moved hW.alike hK⟩⟩ rfl rfl hl.1 rfl (lv_room (Nat.le_of_ble_eq_true rfl)) dMo_access_109 ⟨Nat.zero_le _, Nat.zero_le _⟩) hS (fun _ _ h => h.elim) (fun _ h => h.elim) (fun r u t H1 locs ht hvm hw hB hz8 hk8 hS => ?_)
            obtain rfl : s.heap = H1 := hB.symm.trans ht
            subst hw
            refine lv_goto (tgt := 121) hx hb dMo_access_112 (by decide) ?_
            exact jn7 (f_Mo_signed (f_Mo_loadJ gm ((if (f_Mo_kind vc) = (1 : Int32) then (gr vs.toNatClampNeg) else (gr vd.toNatClampNeg)) + ((vo).toInt64)) (f_Mo_size vc)) ((8 : Int32) * (f_Mo_size vc))) (by rw [if_pos c8]) _ hS
      · have c3 := bI_z c3
        refine lv_iconst (v := (0 : Int32)) hx hb dMo_access_73 (by decide) ?_
        have hP9 := hP.sub (ws' := [(m0, .inr (5, [.int vth, .ref qt, .int vtp, .ref qp, .int vpl, .ref qr, .ref qm, .int vpc, .int vst, .int vc, .int vd, .int vs, .int vo, .int vi, .int vn])), (qr, .inl (cL, 11, .inr (.inl gr))), (qm, .inl (cI, 4096, .inl gm))]) [0, 1, 2] rfl
        have hD9 := hD.sub (ws' := [(m0, .inr (5, [.int vth, .ref qt, .int vtp, .ref qp, .int vpl, .ref qr, .ref qm, .int vpc, .int vst, .int vc, .int vd, .int vs, .int vo, .int vi, .int vn])), (qr, .inl (cL, 11, .inr (.inl gr))), (qm, .inl (cI, 4096, .inl gm))]) [0, 1, 2] (by decide) rfl
        exact W.zret (v := (0 : Int32)) hx hb hr rfl (fun t ht hW => ⟨⟨(0 : Int32), (gr, gm), rfl, ⟨(by unfold f_Mo_access; rw [if_neg c2, if_neg c3]; try rfl), (by unfold f_Mo_access; rw [if_neg c2, if_neg c3]; try rfl)⟩, by rw [ht]; exact hP9, hD9⟩, hS.F ht⟩) hS.2.2 dMo_access_74
    · skip
      refine lv_aload_n hx hb dMo_access_49 rfl (lv_at hl 2 rfl) ?_
      have hPc := hP.sub (ws' := [(m0, .inr (5, [.int vth, .ref qt, .int vtp, .ref qp, .int vpl, .ref qr, .ref qm, .int vpc, .int vst, .int vc, .int vd, .int vs, .int vo, .int vi, .int vn]))]) [0] rfl
      refine va_calli (va_runV (As := []) (rest := []) ⟨hx, hb, hml, hown, hT⟩ (c_Mo_mode l G cB cL cI s.heap m0 vth qt vtp qp vpl qr qm vpc vst vc vd vs vo vi vn hPc ) (cwV 0 hT (gB_V mw_667 mw_669 ms_10 mw_6 mw_670) rfl rfl rfl (by decide +kernel) ⟨Nat.le_of_ble_eq_true rfl, Nat.le_of_ble_eq_true rfl⟩) ⟨fun a U g mk q => ⟨q.1, q.2.1, va_K.moved (u := U) (U := U.calling g mk a) (Vm.Alike.refl U.vm) q.2.2⟩, va_recv hK hPc (ci := 5) (q0 := 0) rfl rfl, fun U hU hW => ⟨rfl, hU, va_K.moved hW.alike hK⟩⟩ rfl rfl hl.1 rfl (lv_room (Nat.le_of_ble_eq_true rfl)) dMo_access_50 ⟨Nat.zero_le _, Nat.zero_le _⟩) hS (fun _ _ h => h.elim) (fun _ h => h.elim) (fun r u t H1 locs ht hvm hw hB hz8 hk8 hS => ?_)
      obtain rfl : s.heap = H1 := hB.symm.trans ht
      subst hw
      refine lv_bipush (v := (6 : Int32)) hx hb dMo_access_53 (by decide) ?_
      refine lv_icmp_ne (tgt := 65) hx hb dMo_access_55 (by decide) (fun c9 => ?_) (fun c9 => ?_)
      · skip
        refine lv_lload_n hx hb dMo_access_65 rfl (lv_at hl 0 rfl) ?_
        refine lv_iload_n hx hb dMo_access_66 rfl (lv_at hl 1 rfl) ?_
        have hPc := hP.sub (ws' := []) [] rfl
        refine va_calli (va_runS (As := [.long ((if (f_Mo_kind vc) = (1 : Int32) then (gr vs.toNatClampNeg) else (gr vd.toNatClampNeg)) + ((vo).toInt64)), .int (f_Mo_size vc)]) (rest := []) ⟨hx, hb, hml, hown, hT⟩ (c_Mo_isThere l G cB cL cI s.heap ((if (f_Mo_kind vc) = (1 : Int32) then (gr vs.toNatClampNeg) else (gr vd.toNatClampNeg)) + ((vo).toInt64)) (f_Mo_size vc) hPc ) (cwS 2 hT (gB_S mw_707 mw_708 mw_6 mw_709) rfl rfl rfl (by decide +kernel) ⟨Nat.le_of_ble_eq_true rfl, Nat.le_of_ble_eq_true rfl⟩) ⟨fun a U g mk q => ⟨q.1, q.2.1, va_K.moved (u := U) (U := U.calling g mk a) (Vm.Alike.refl U.vm) q.2.2⟩, fun U hU hW => ⟨rfl, hU, va_K.moved hW.alike hK⟩⟩ rfl rfl hl.1 rfl (lv_room (Nat.le_of_ble_eq_true rfl)) dMo_access_67 ⟨Nat.zero_le _, Nat.zero_le _⟩) hS (fun _ _ h => h.elim) (fun _ h => h.elim) (fun r u t H1 locs ht hvm hw hB hz8 hk8 hS => ?_)
        obtain rfl : s.heap = H1 := hB.symm.trans ht
        subst hw
        refine lv_if_ne (tgt := 75) hx hb dMo_access_70 (by decide) (fun c10 => ?_) (fun c10 => ?_)
        · have c10 := bI_n c10
          refine lv_aload_n hx hb dMo_access_75 rfl (lv_at hl 2 rfl) ?_
          have hPc := hP.sub (ws' := [(m0, .inr (5, [.int vth, .ref qt, .int vtp, .ref qp, .int vpl, .ref qr, .ref qm, .int vpc, .int vst, .int vc, .int vd, .int vs, .int vo, .int vi, .int vn]))]) [0] rfl
          refine va_calli (va_runV (As := []) (rest := []) ⟨hx, hb, hml, hown, hT⟩ (c_Mo_kind l G cB cL cI s.heap m0 vth qt vtp qp vpl qr qm vpc vst vc vd vs vo vi vn hPc ) (cwV 0 hT (gB_V mw_643 mw_645 ms_4 mw_6 mw_646) rfl rfl rfl (by decide +kernel) ⟨Nat.le_of_ble_eq_true rfl, Nat.le_of_ble_eq_true rfl⟩) ⟨fun a U g mk q => ⟨q.1, q.2.1, va_K.moved (u := U) (U := U.calling g mk a) (Vm.Alike.refl U.vm) q.2.2⟩, va_recv hK hPc (ci := 5) (q0 := 0) rfl rfl, fun U hU hW => ⟨rfl, hU, va_K.moved hW.alike hK⟩⟩ rfl rfl hl.1 rfl (lv_room (Nat.le_of_ble_eq_true rfl)) dMo_access_76 ⟨Nat.zero_le _, Nat.zero_le _⟩) hS (fun _ _ h => h.elim) (fun _ h => h.elim) (fun r u t H1 locs ht hvm hw hB hz8 hk8 hS => ?_)
          obtain rfl : s.heap = H1 := hB.symm.trans ht
          subst hw
          refine lv_iconst (v := (1 : Int32)) hx hb dMo_access_79 (by decide) ?_
          refine lv_icmp_ne (tgt := 125) hx hb dMo_access_80 (by decide) (fun c11 => ?_) (fun c11 => ?_)
          · skip
            refine lv_aload_n hx hb dMo_access_125 rfl (lv_at hl 2 rfl) ?_
            refine lv_lload_n hx hb dMo_access_126 rfl (lv_at hl 0 rfl) ?_
            refine lv_iload_n hx hb dMo_access_127 rfl (lv_at hl 1 rfl) ?_
            refine lv_aload_n hx hb dMo_access_128 rfl (lv_at hl 2 rfl) ?_
            have hPc := hP.sub (ws' := [(m0, .inr (5, [.int vth, .ref qt, .int vtp, .ref qp, .int vpl, .ref qr, .ref qm, .int vpc, .int vst, .int vc, .int vd, .int vs, .int vo, .int vi, .int vn]))]) [0] rfl
            refine va_calli (va_runV (As := []) (rest := [.int (f_Mo_size vc), .long ((if (f_Mo_kind vc) = (1 : Int32) then (gr vs.toNatClampNeg) else (gr vd.toNatClampNeg)) + ((vo).toInt64)), .ref m0]) ⟨hx, hb, hml, hown, hT⟩ (c_Mo_kind l G cB cL cI s.heap m0 vth qt vtp qp vpl qr qm vpc vst vc vd vs vo vi vn hPc ) (cwV 0 hT (gB_V mw_643 mw_645 ms_4 mw_6 mw_646) rfl rfl rfl (by decide +kernel) ⟨Nat.le_of_ble_eq_true rfl, Nat.le_of_ble_eq_true rfl⟩) ⟨fun a U g mk q => ⟨q.1, q.2.1, va_K.moved (u := U) (U := U.calling g mk a) (Vm.Alike.refl U.vm) q.2.2⟩, va_recv hK hPc (ci := 5) (q0 := 0) rfl rfl, fun U hU hW => ⟨rfl, hU, va_K.moved hW.alike hK⟩⟩ rfl rfl hl.1 rfl (lv_room (Nat.le_of_ble_eq_true rfl)) dMo_access_129 ⟨Nat.zero_le _, Nat.zero_le _⟩) hS (fun _ _ h => h.elim) (fun _ h => h.elim) (fun r u t H1 locs ht hvm hw hB hz8 hk8 hS => ?_)
            obtain rfl : s.heap = H1 := hB.symm.trans ht
            subst hw
            refine lv_iconst (v := (2 : Int32)) hx hb dMo_access_132 (by decide) ?_
            have jn12 : ∀ (x12 : Int64), x12 = (if (f_Mo_kind vc) = (2 : Int32) then ((vi).toInt64) else (gr vs.toNatClampNeg)) → ∀ (locs : List Loc), va_S A s.heap s.heap locs → W p l e (headSpec wsMo_access ({ frames := 2, cells := 0, slots := 0, locals := 56 })).room s m ([.ref m0] : List Value).toArray below meth c s.heap locs 0 0 (MQ below (va_Qi (fun (r : Int32) (u : (Nat → Int64) × (Nat → Int32)) => r = bI ((f_Mo_access vc vd vs vo vi gr gm)).1 ∧ u = ((f_Mo_access vc vd vs vo vi gr gm)).2) (fun (u : (Nat → Int64) × (Nat → Int32)) t => va_P G vwCl [(m0, .inr (5, [.int vth, .ref qt, .int vtp, .ref qp, .int vpl, .ref qr, .ref qm, .int vpc, .int vst, .int vc, .int vd, .int vs, .int vo, .int vi, .int vn])), (qr, .inl (cL, 11, .inr (.inl (u.1)))), (qm, .inl (cI, 4096, .inl (u.2)))] t.heap ∧ va_D (A) [(m0, .inr (5, [.int vth, .ref qt, .int vtp, .ref qp, .int vpl, .ref qr, .ref qm, .int vpc, .int vst, .int vc, .int vd, .int vs, .int vo, .int vi, .int vn])), (qr, .inl (cL, 11, .inr (.inl (u.1)))), (qm, .inl (cI, 4096, .inl (u.2)))]) (A)) ([.ref m0] : List Value).toArray s 0 0 A) (F0 m 153 ls [.long x12, .int (f_Mo_size vc), .long ((if (f_Mo_kind vc) = (1 : Int32) then (gr vs.toNatClampNeg) else (gr vd.toNatClampNeg)) + ((vo).toInt64)), .ref m0]) := by
              intro x12 hx12 locs hS
              subst hx12
              have hPc := hP.sub (ws' := [(m0, .inr (5, [.int vth, .ref qt, .int vtp, .ref qp, .int vpl, .ref qr, .ref qm, .int vpc, .int vst, .int vc, .int vd, .int vs, .int vo, .int vi, .int vn])), (qm, .inl (cI, 4096, .inl gm))]) [0, 2] rfl
              have hDc := hD.sub (ws' := [(m0, .inr (5, [.int vth, .ref qt, .int vtp, .ref qp, .int vpl, .ref qr, .ref qm, .int vpc, .int vst, .int vc, .int vd, .int vs, .int vo, .int vi, .int vn])), (qm, .inl (cI, 4096, .inl gm))]) [0, 2] (by decide) rfl
              have hFc := va_free (wc := [(m0, .inr (5, [.int vth, .ref qt, .int vtp, .ref qp, .int vpl, .ref qr, .ref qm, .int vpc, .int vst, .int vc, .int vd, .int vs, .int vo, .int vi, .int vn])), (qm, .inl (cI, 4096, .inl gm))]) hD hS hA [0, 2] rfl
              refine va_callv (va_runV (As := [.long ((if (f_Mo_kind vc) = (1 : Int32) then (gr vs.toNatClampNeg) else (gr vd.toNatClampNeg)) + ((vo).toInt64)), .int (f_Mo_size vc), .long (if (f_Mo_kind vc) = (2 : Int32) then ((vi).toInt64) else (gr vs.toNatClampNeg))]) (rest := []) ⟨hx, hb, hml, hown, hT⟩ (c_Mo_store l G cB cL cI s.heap m0 vth qt vtp qp vpl qr qm vpc vst vc vd vs vo vi vn gm ((if (f_Mo_kind vc) = (1 : Int32) then (gr vs.toNatClampNeg) else (gr vd.toNatClampNeg)) + ((vo).toInt64)) (f_Mo_size vc) (if (f_Mo_kind vc) = (2 : Int32) then ((vi).toInt64) else (gr vs.toNatClampNeg)) hPc (hDc.weaken (fun _ _ _ _ => trivial)) c10 (msize_ok vc)) (cwV 3 hT (gB_V mw_712 mw_714 ms_16 mw_6 mw_715) rfl rfl rfl (by decide +kernel) ⟨Nat.le_of_ble_eq_true rfl, Nat.le_of_ble_eq_true rfl⟩) ⟨fun a U g mk q => ⟨q.1, q.2.1, va_K.moved (u := U) (U := U.calling g mk a) (Vm.Alike.refl U.vm) q.2.2⟩, va_recv hK hPc (ci := 5) (q0 := 0) rfl rfl, fun U hU hW => ⟨rfl, hU, va_K.moved hW.alike hK⟩⟩ rfl rfl hl.1 rfl (lv_room (Nat.le_of_ble_eq_true rfl)) dMo_access_153 ⟨Nat.zero_le _, Nat.zero_le _⟩) hS (fun q _ h => hFc q h) hFc (fun u t H locs ht hvm hw hB hz8 hk8 hS => ?_)
              subst hw
              obtain ⟨hP1, hD1⟩ := hB
              rw [ht] at hP1
              obtain ⟨hP, hD⟩ := va_join (wr := [(qr, .inl (cL, 11, .inr (.inl gr)))]) (w1 := [(m0, .inr (5, [.int vth, .ref qt, .int vtp, .ref qp, .int vpl, .ref qr, .ref qm, .int vpc, .int vst, .int vc, .int vd, .int vs, .int vo, .int vi, .int vn])), (qm, .inl (cI, 4096, .inl ((f_Mo_store gm ((if (f_Mo_kind vc) = (1 : Int32) then (gr vs.toNatClampNeg) else (gr vd.toNatClampNeg)) + ((vo).toInt64)) (f_Mo_size vc) (if (f_Mo_kind vc) = (2 : Int32) then ((vi).toInt64) else (gr vs.toNatClampNeg))))))]) hP hD [0, 2] [1] rfl rfl (by decide) (by decide) hk8 hFc hP1 hD1
              have hP : va_P G vwCl [(qr, .inl (cL, 11, .inr (.inl gr))), (m0, .inr (5, [.int vth, .ref qt, .int vtp, .ref qp, .int vpl, .ref qr, .ref qm, .int vpc, .int vst, .int vc, .int vd, .int vs, .int vo, .int vi, .int vn])), (qm, .inl (cI, 4096, .inl ((f_Mo_store gm ((if (f_Mo_kind vc) = (1 : Int32) then (gr vs.toNatClampNeg) else (gr vd.toNatClampNeg)) + ((vo).toInt64)) (f_Mo_size vc) (if (f_Mo_kind vc) = (2 : Int32) then ((vi).toInt64) else (gr vs.toNatClampNeg))))))] H := hP
              have hD : va_D A [(qr, .inl (cL, 11, .inr (.inl gr))), (m0, .inr (5, [.int vth, .ref qt, .int vtp, .ref qp, .int vpl, .ref qr, .ref qm, .int vpc, .int vst, .int vc, .int vd, .int vs, .int vo, .int vi, .int vn])), (qm, .inl (cI, 4096, .inl ((f_Mo_store gm ((if (f_Mo_kind vc) = (1 : Int32) then (gr vs.toNatClampNeg) else (gr vd.toNatClampNeg)) + ((vo).toInt64)) (f_Mo_size vc) (if (f_Mo_kind vc) = (2 : Int32) then ((vi).toInt64) else (gr vs.toNatClampNeg))))))] := hD
              refine lv_iconst (v := (1 : Int32)) hx hb dMo_access_156 (by decide) ?_
              have hP9 := hP.sub (ws' := [(m0, .inr (5, [.int vth, .ref qt, .int vtp, .ref qp, .int vpl, .ref qr, .ref qm, .int vpc, .int vst, .int vc, .int vd, .int vs, .int vo, .int vi, .int vn])), (qr, .inl (cL, 11, .inr (.inl gr))), (qm, .inl (cI, 4096, .inl ((f_Mo_store gm ((if (f_Mo_kind vc) = (1 : Int32) then (gr vs.toNatClampNeg) else (gr vd.toNatClampNeg)) + ((vo).toInt64)) (f_Mo_size vc) (if (f_Mo_kind vc) = (2 : Int32) then ((vi).toInt64) else (gr vs.toNatClampNeg))))))]) [1, 0, 2] rfl
              have hD9 := hD.sub (ws' := [(m0, .inr (5, [.int vth, .ref qt, .int vtp, .ref qp, .int vpl, .ref qr, .ref qm, .int vpc, .int vst, .int vc, .int vd, .int vs, .int vo, .int vi, .int vn])), (qr, .inl (cL, 11, .inr (.inl gr))), (qm, .inl (cI, 4096, .inl ((f_Mo_store gm ((if (f_Mo_kind vc) = (1 : Int32) then (gr vs.toNatClampNeg) else (gr vd.toNatClampNeg)) + ((vo).toInt64)) (f_Mo_size vc) (if (f_Mo_kind vc) = (2 : Int32) then ((vi).toInt64) else (gr vs.toNatClampNeg))))))]) [1, 0, 2] (by decide) rfl
              exact W.zret (v := (1 : Int32)) hx hb hr rfl (fun t ht hW => ⟨⟨(1 : Int32), (gr, ((f_Mo_store gm ((if (f_Mo_kind vc) = (1 : Int32) then (gr vs.toNatClampNeg) else (gr vd.toNatClampNeg)) + ((vo).toInt64)) (f_Mo_size vc) (if (f_Mo_kind vc) = (2 : Int32) then ((vi).toInt64) else (gr vs.toNatClampNeg))))), rfl, ⟨(by unfold f_Mo_access; rw [if_pos c2, if_neg c9, if_pos c10, if_neg c11]; try rfl), (by unfold f_Mo_access; rw [if_pos c2, if_neg c9, if_pos c10, if_neg c11]; try rfl)⟩, by rw [ht]; exact hP9, hD9⟩, hS.F ht⟩) hS.2.2 dMo_access_157
            refine lv_icmp_ne (tgt := 144) hx hb dMo_access_133 (by decide) (fun c13 => ?_) (fun c13 => ?_)
            · skip
              refine lv_aload_n hx hb dMo_access_144 rfl (lv_at hl 2 rfl) ?_
              refine va_get (D := G) (ci := 5) (v := .ref qr) (C := RMo) (T := TMo) (N := 15) hx hb hT inMo hown hK hP 0 rfl rfl 5 (by decide) (hT _ mw_570) (fun _ h9 => h9) rfl dMo_access_145 ?_
              refine lv_aload_n hx hb dMo_access_148 rfl (lv_at hl 2 rfl) ?_
              refine va_get (D := G) (ci := 5) (v := .int vs) (C := RMo) (T := TMo) (N := 15) hx hb hT inMo hown hK hP 0 rfl rfl 11 (by decide) (hT _ mw_576) (fun _ h9 => h9) rfl dMo_access_149 ?_
              refine va_lald hx hb hK hP 1 1 rfl rfl hs dMo_access_152 ?_
              exact jn12 (gr vs.toNatClampNeg) (by rw [if_neg c13]) _ hS
            · skip
              refine lv_aload_n hx hb dMo_access_136 rfl (lv_at hl 2 rfl) ?_
              refine va_get (D := G) (ci := 5) (v := .int vi) (C := RMo) (T := TMo) (N := 15) hx hb hT inMo hown hK hP 0 rfl rfl 13 (by decide) (hT _ mw_578) (fun _ h9 => h9) rfl dMo_access_137 ?_
              refine lv_i2l hx hb dMo_access_140 rfl ?_
              refine lv_goto (tgt := 153) hx hb dMo_access_141 (by decide) ?_
              exact jn12 ((vi).toInt64) (by rw [if_pos c13]) _ hS
          · skip
            refine lv_aload_n hx hb dMo_access_83 rfl (lv_at hl 2 rfl) ?_
            refine va_get (D := G) (ci := 5) (v := .ref qr) (C := RMo) (T := TMo) (N := 15) hx hb hT inMo hown hK hP 0 rfl rfl 5 (by decide) (hT _ mw_570) (fun _ h9 => h9) rfl dMo_access_84 ?_
            refine lv_aload_n hx hb dMo_access_87 rfl (lv_at hl 2 rfl) ?_
            refine va_get (D := G) (ci := 5) (v := .int vd) (C := RMo) (T := TMo) (N := 15) hx hb hT inMo hown hK hP 0 rfl rfl 10 (by decide) (hT _ mw_575) (fun _ h9 => h9) rfl dMo_access_88 ?_
            refine lv_aload_n hx hb dMo_access_91 rfl (lv_at hl 2 rfl) ?_
            have hPc := hP.sub (ws' := [(m0, .inr (5, [.int vth, .ref qt, .int vtp, .ref qp, .int vpl, .ref qr, .ref qm, .int vpc, .int vst, .int vc, .int vd, .int vs, .int vo, .int vi, .int vn]))]) [0] rfl
            refine va_calli (va_runV (As := []) (rest := [.int vd, .ref qr]) ⟨hx, hb, hml, hown, hT⟩ (c_Mo_mode l G cB cL cI s.heap m0 vth qt vtp qp vpl qr qm vpc vst vc vd vs vo vi vn hPc ) (cwV 0 hT (gB_V mw_667 mw_669 ms_10 mw_6 mw_670) rfl rfl rfl (by decide +kernel) ⟨Nat.le_of_ble_eq_true rfl, Nat.le_of_ble_eq_true rfl⟩) ⟨fun a U g mk q => ⟨q.1, q.2.1, va_K.moved (u := U) (U := U.calling g mk a) (Vm.Alike.refl U.vm) q.2.2⟩, va_recv hK hPc (ci := 5) (q0 := 0) rfl rfl, fun U hU hW => ⟨rfl, hU, va_K.moved hW.alike hK⟩⟩ rfl rfl hl.1 rfl (lv_room (Nat.le_of_ble_eq_true rfl)) dMo_access_92 ⟨Nat.zero_le _, Nat.zero_le _⟩) hS (fun _ _ h => h.elim) (fun _ h => h.elim) (fun r u t H1 locs ht hvm hw hB hz8 hk8 hS => ?_)
            obtain rfl : s.heap = H1 := hB.symm.trans ht
            subst hw
            refine lv_iconst (v := (4 : Int32)) hx hb dMo_access_95 (by decide) ?_
            have jn14 : ∀ (x14 : Int64), x14 = (if (f_Mo_mode vc) = (4 : Int32) then (f_Mo_signed (f_Mo_loadJ gm ((if (f_Mo_kind vc) = (1 : Int32) then (gr vs.toNatClampNeg) else (gr vd.toNatClampNeg)) + ((vo).toInt64)) (f_Mo_size vc)) ((8 : Int32) * (f_Mo_size vc))) else (f_Mo_loadJ gm ((if (f_Mo_kind vc) = (1 : Int32) then (gr vs.toNatClampNeg) else (gr vd.toNatClampNeg)) + ((vo).toInt64)) (f_Mo_size vc))) → ∀ (locs : List Loc), va_S A s.heap s.heap locs → W p l e (headSpec wsMo_access ({ frames := 2, cells := 0, slots := 0, locals := 56 })).room s m ([.ref m0] : List Value).toArray below meth c s.heap locs 0 0 (MQ below (va_Qi (fun (r : Int32) (u : (Nat → Int64) × (Nat → Int32)) => r = bI ((f_Mo_access vc vd vs vo vi gr gm)).1 ∧ u = ((f_Mo_access vc vd vs vo vi gr gm)).2) (fun (u : (Nat → Int64) × (Nat → Int32)) t => va_P G vwCl [(m0, .inr (5, [.int vth, .ref qt, .int vtp, .ref qp, .int vpl, .ref qr, .ref qm, .int vpc, .int vst, .int vc, .int vd, .int vs, .int vo, .int vi, .int vn])), (qr, .inl (cL, 11, .inr (.inl (u.1)))), (qm, .inl (cI, 4096, .inl (u.2)))] t.heap ∧ va_D (A) [(m0, .inr (5, [.int vth, .ref qt, .int vtp, .ref qp, .int vpl, .ref qr, .ref qm, .int vpc, .int vst, .int vc, .int vd, .int vs, .int vo, .int vi, .int vn])), (qr, .inl (cL, 11, .inr (.inl (u.1)))), (qm, .inl (cI, 4096, .inl (u.2)))]) (A)) ([.ref m0] : List Value).toArray s 0 0 A) (F0 m 121 ls [.long x14, .int vd, .ref qr]) := by
              intro x14 hx14 locs hS
              subst hx14
              refine va_last hx hb hK hP hD hS 1 1 rfl rfl hd dMo_access_121 (fun H locs hP hD hS => ?_)
              have hP : va_P G vwCl [(m0, .inr (5, [.int vth, .ref qt, .int vtp, .ref qp, .int vpl, .ref qr, .ref qm, .int vpc, .int vst, .int vc, .int vd, .int vs, .int vo, .int vi, .int vn])), (qr, .inl (cL, 11, .inr (.inl (vp_updL gr vd.toNatClampNeg (if (f_Mo_mode vc) = (4 : Int32) then (f_Mo_signed (f_Mo_loadJ gm ((if (f_Mo_kind vc) = (1 : Int32) then (gr vs.toNatClampNeg) else (gr vd.toNatClampNeg)) + ((vo).toInt64)) (f_Mo_size vc)) ((8 : Int32) * (f_Mo_size vc))) else (f_Mo_loadJ gm ((if (f_Mo_kind vc) = (1 : Int32) then (gr vs.toNatClampNeg) else (gr vd.toNatClampNeg)) + ((vo).toInt64)) (f_Mo_size vc))))))), (qm, .inl (cI, 4096, .inl gm))] H := hP
              have hD : va_D A [(m0, .inr (5, [.int vth, .ref qt, .int vtp, .ref qp, .int vpl, .ref qr, .ref qm, .int vpc, .int vst, .int vc, .int vd, .int vs, .int vo, .int vi, .int vn])), (qr, .inl (cL, 11, .inr (.inl (vp_updL gr vd.toNatClampNeg (if (f_Mo_mode vc) = (4 : Int32) then (f_Mo_signed (f_Mo_loadJ gm ((if (f_Mo_kind vc) = (1 : Int32) then (gr vs.toNatClampNeg) else (gr vd.toNatClampNeg)) + ((vo).toInt64)) (f_Mo_size vc)) ((8 : Int32) * (f_Mo_size vc))) else (f_Mo_loadJ gm ((if (f_Mo_kind vc) = (1 : Int32) then (gr vs.toNatClampNeg) else (gr vd.toNatClampNeg)) + ((vo).toInt64)) (f_Mo_size vc))))))), (qm, .inl (cI, 4096, .inl gm))] := hD
              refine lv_goto (tgt := 156) hx hb dMo_access_122 (by decide) ?_
              refine lv_iconst (v := (1 : Int32)) hx hb dMo_access_156 (by decide) ?_
              have hP9 := hP.sub (ws' := [(m0, .inr (5, [.int vth, .ref qt, .int vtp, .ref qp, .int vpl, .ref qr, .ref qm, .int vpc, .int vst, .int vc, .int vd, .int vs, .int vo, .int vi, .int vn])), (qr, .inl (cL, 11, .inr (.inl (vp_updL gr vd.toNatClampNeg (if (f_Mo_mode vc) = (4 : Int32) then (f_Mo_signed (f_Mo_loadJ gm ((if (f_Mo_kind vc) = (1 : Int32) then (gr vs.toNatClampNeg) else (gr vd.toNatClampNeg)) + ((vo).toInt64)) (f_Mo_size vc)) ((8 : Int32) * (f_Mo_size vc))) else (f_Mo_loadJ gm ((if (f_Mo_kind vc) = (1 : Int32) then (gr vs.toNatClampNeg) else (gr vd.toNatClampNeg)) + ((vo).toInt64)) (f_Mo_size vc))))))), (qm, .inl (cI, 4096, .inl gm))]) [0, 1, 2] rfl
              have hD9 := hD.sub (ws' := [(m0, .inr (5, [.int vth, .ref qt, .int vtp, .ref qp, .int vpl, .ref qr, .ref qm, .int vpc, .int vst, .int vc, .int vd, .int vs, .int vo, .int vi, .int vn])), (qr, .inl (cL, 11, .inr (.inl (vp_updL gr vd.toNatClampNeg (if (f_Mo_mode vc) = (4 : Int32) then (f_Mo_signed (f_Mo_loadJ gm ((if (f_Mo_kind vc) = (1 : Int32) then (gr vs.toNatClampNeg) else (gr vd.toNatClampNeg)) + ((vo).toInt64)) (f_Mo_size vc)) ((8 : Int32) * (f_Mo_size vc))) else (f_Mo_loadJ gm ((if (f_Mo_kind vc) = (1 : Int32) then (gr vs.toNatClampNeg) else (gr vd.toNatClampNeg)) + ((vo).toInt64)) (f_Mo_size vc))))))), (qm, .inl (cI, 4096, .inl gm))]) [0, 1, 2] (by decide) rfl
              exact W.zret (v := (1 : Int32)) hx hb hr rfl (fun t ht hW => ⟨⟨(1 : Int32), ((vp_updL gr vd.toNatClampNeg (if (f_Mo_mode vc) = (4 : Int32) then (f_Mo_signed (f_Mo_loadJ gm ((if (f_Mo_kind vc) = (1 : Int32) then (gr vs.toNatClampNeg) else (gr vd.toNatClampNeg)) + ((vo).toInt64)) (f_Mo_size vc)) ((8 : Int32) * (f_Mo_size vc))) else (f_Mo_loadJ gm ((if (f_Mo_kind vc) = (1 : Int32) then (gr vs.toNatClampNeg) else (gr vd.toNatClampNeg)) + ((vo).toInt64)) (f_Mo_size vc)))), gm), rfl, ⟨(by unfold f_Mo_access; rw [if_pos c2, if_neg c9, if_pos c10, if_pos c11]; try rfl), (by unfold f_Mo_access; rw [if_pos c2, if_neg c9, if_pos c10, if_pos c11]; try rfl)⟩, by rw [ht]; exact hP9, hD9⟩, hS.F ht⟩) hS.2.2 dMo_access_157
            refine lv_icmp_ne (tgt := 115) hx hb dMo_access_96 (by decide) (fun c15 => ?_) (fun c15 => ?_)
            · skip
              refine lv_aload_n hx hb dMo_access_115 rfl (lv_at hl 2 rfl) ?_
              refine lv_lload_n hx hb dMo_access_116 rfl (lv_at hl 0 rfl) ?_
              refine lv_iload_n hx hb dMo_access_117 rfl (lv_at hl 1 rfl) ?_
              have hPc := hP.sub (ws' := [(m0, .inr (5, [.int vth, .ref qt, .int vtp, .ref qp, .int vpl, .ref qr, .ref qm, .int vpc, .int vst, .int vc, .int vd, .int vs, .int vo, .int vi, .int vn])), (qm, .inl (cI, 4096, .inl gm))]) [0, 2] rfl
              refine va_calll (va_runV (As := [.long ((if (f_Mo_kind vc) = (1 : Int32) then (gr vs.toNatClampNeg) else (gr vd.toNatClampNeg)) + ((vo).toInt64)), .int (f_Mo_size vc)]) (rest := [.int vd, .ref qr]) ⟨hx, hb, hml, hown, hT⟩ (c_Mo_loadJ l G cB cL cI s.heap m0 vth qt vtp qp vpl qr qm vpc vst vc vd vs vo vi vn gm ((if (f_Mo_kind vc) = (1 : Int32) then (gr vs.toNatClampNeg) else (gr vd.toNatClampNeg)) + ((vo).toInt64)) (f_Mo_size vc) hPc c10 (msize_ok vc)) (cwV 2 hT (gB_V mw_720 mw_722 ms_17 mw_6 mw_723) rfl rfl rfl (by decide +kernel) ⟨Nat.le_of_ble_eq_true rfl, Nat.le_of_ble_eq_true rfl⟩) ⟨fun a U g mk q => ⟨q.1, q.2.1, va_K.moved (u := U) (U := U.calling g mk a) (Vm.Alike.refl U.vm) q.2.2⟩, va_recv hK hPc (ci := 5) (q0 := 0) rfl rfl, fun U hU hW => ⟨rfl, hU, va_K.moved hW.alike hK⟩⟩ rfl rfl hl.1 rfl (lv_room (Nat.le_of_ble_eq_true rfl)) dMo_access_118 ⟨Nat.zero_le _, Nat.zero_le _⟩) hS (fun _ _ h => h.elim) (fun _ h => h.elim) (fun r u t H1 locs ht hvm hw hB hz8 hk8 hS => ?_)
              obtain rfl : s.heap = H1 := hB.symm.trans ht
              subst hw
              exact jn14 (f_Mo_loadJ gm ((if (f_Mo_kind vc) = (1 : Int32) then (gr vs.toNatClampNeg) else (gr vd.toNatClampNeg)) + ((vo).toInt64)) (f_Mo_size vc)) (by rw [if_neg c15]) _ hS
            · skip
              refine lv_aload_n hx hb dMo_access_99 rfl (lv_at hl 2 rfl) ?_
              refine lv_lload_n hx hb dMo_access_100 rfl (lv_at hl 0 rfl) ?_
              refine lv_iload_n hx hb dMo_access_101 rfl (lv_at hl 1 rfl) ?_
              have hPc := hP.sub (ws' := [(m0, .inr (5, [.int vth, .ref qt, .int vtp, .ref qp, .int vpl, .ref qr, .ref qm, .int vpc, .int vst, .int vc, .int vd, .int vs, .int vo, .int vi, .int vn])), (qm, .inl (cI, 4096, .inl gm))]) [0, 2] rfl
              refine va_calll (va_runV (As := [.long ((if (f_Mo_kind vc) = (1 : Int32) then (gr vs.toNatClampNeg) else (gr vd.toNatClampNeg)) + ((vo).toInt64)), .int (f_Mo_size vc)]) (rest := [.int vd, .ref qr]) ⟨hx, hb, hml, hown, hT⟩ (c_Mo_loadJ l G cB cL cI s.heap m0 vth qt vtp qp vpl qr qm vpc vst vc vd vs vo vi vn gm ((if (f_Mo_kind vc) = (1 : Int32) then (gr vs.toNatClampNeg) else (gr vd.toNatClampNeg)) + ((vo).toInt64)) (f_Mo_size vc) hPc c10 (msize_ok vc)) (cwV 2 hT (gB_V mw_720 mw_722 ms_17 mw_6 mw_723) rfl rfl rfl (by decide +kernel) ⟨Nat.le_of_ble_eq_true rfl, Nat.le_of_ble_eq_true rfl⟩) ⟨fun a U g mk q => ⟨q.1, q.2.1, va_K.moved (u := U) (U := U.calling g mk a) (Vm.Alike.refl U.vm) q.2.2⟩, va_recv hK hPc (ci := 5) (q0 := 0) rfl rfl, fun U hU hW => ⟨rfl, hU, va_K.moved hW.alike hK⟩⟩ rfl rfl hl.1 rfl (lv_room (Nat.le_of_ble_eq_true rfl)) dMo_access_102 ⟨Nat.zero_le _, Nat.zero_le _⟩) hS (fun _ _ h => h.elim) (fun _ h => h.elim) (fun r u t H1 locs ht hvm hw hB hz8 hk8 hS => ?_)
              obtain rfl : s.heap = H1 := hB.symm.trans ht
              subst hw
              refine lv_bipush (v := (8 : Int32)) hx hb dMo_access_105 (by decide) ?_
              refine lv_iload_n hx hb dMo_access_107 rfl (lv_at hl 1 rfl) ?_
              refine lv_imul hx hb dMo_access_108 ?_
              have hPc := hP.sub (ws' := []) [] rfl
              refine va_calll (va_runS (As := [.long (f_Mo_loadJ gm ((if (f_Mo_kind vc) = (1 : Int32) then (gr vs.toNatClampNeg) else (gr vd.toNatClampNeg)) + ((vo).toInt64)) (f_Mo_size vc)), .int ((8 : Int32) * (f_Mo_size vc))]) (rest := [.int vd, .ref qr]) ⟨hx, hb, hml, hown, hT⟩ (c_Mo_signed l G cB cL cI s.heap (f_Mo_loadJ gm ((if (f_Mo_kind vc) = (1 : Int32) then (gr vs.toNatClampNeg) else (gr vd.toNatClampNeg)) + ((vo).toInt64)) (f_Mo_size vc)) ((8 : Int32) * (f_Mo_size vc)) hPc ) (cwS 2 hT (gB_S mw_759 mw_760 mw_6 mw_761) rfl rfl rfl (by decide +kernel) ⟨Nat.le_of_ble_eq_true rfl, Nat.le_of_ble_eq_true rfl⟩) ⟨fun a U g mk q => ⟨q.1, q.2.1, va_K.moved (u := U) (U := U.calling g mk a) (Vm.Alike.refl U.vm) q.2.2⟩, fun U hU hW => ⟨rfl, hU, va_K.moved hW.alike hK⟩⟩ rfl rfl hl.1 rfl (lv_room (Nat.le_of_ble_eq_true rfl)) dMo_access_109 ⟨Nat.zero_le _, Nat.zero_le _⟩) hS (fun _ _ h => h.elim) (fun _ h => h.elim) (fun r u t H1 locs ht hvm hw hB hz8 hk8 hS => ?_)
              obtain rfl : s.heap = H1 := hB.symm.trans ht
              subst hw
              refine lv_goto (tgt := 121) hx hb dMo_access_112 (by decide) ?_
              exact jn14 (f_Mo_signed (f_Mo_loadJ gm ((if (f_Mo_kind vc) = (1 : Int32) then (gr vs.toNatClampNeg) else (gr vd.toNatClampNeg)) + ((vo).toInt64)) (f_Mo_size vc)) ((8 : Int32) * (f_Mo_size vc))) (by rw [if_pos c15]) _ hS
        · have c10 := bI_z c10
          refine lv_iconst (v := (0 : Int32)) hx hb dMo_access_73 (by decide) ?_
          have hP9 := hP.sub (ws' := [(m0, .inr (5, [.int vth, .ref qt, .int vtp, .ref qp, .int vpl, .ref qr, .ref qm, .int vpc, .int vst, .int vc, .int vd, .int vs, .int vo, .int vi, .int vn])), (qr, .inl (cL, 11, .inr (.inl gr))), (qm, .inl (cI, 4096, .inl gm))]) [0, 1, 2] rfl
          have hD9 := hD.sub (ws' := [(m0, .inr (5, [.int vth, .ref qt, .int vtp, .ref qp, .int vpl, .ref qr, .ref qm, .int vpc, .int vst, .int vc, .int vd, .int vs, .int vo, .int vi, .int vn])), (qr, .inl (cL, 11, .inr (.inl gr))), (qm, .inl (cI, 4096, .inl gm))]) [0, 1, 2] (by decide) rfl
          exact W.zret (v := (0 : Int32)) hx hb hr rfl (fun t ht hW => ⟨⟨(0 : Int32), (gr, gm), rfl, ⟨(by unfold f_Mo_access; rw [if_pos c2, if_neg c9, if_neg c10]; try rfl), (by unfold f_Mo_access; rw [if_pos c2, if_neg c9, if_neg c10]; try rfl)⟩, by rw [ht]; exact hP9, hD9⟩, hS.F ht⟩) hS.2.2 dMo_access_74
      · skip
        refine lv_aload_n hx hb dMo_access_58 rfl (lv_at hl 2 rfl) ?_
        refine lv_lload_n hx hb dMo_access_59 rfl (lv_at hl 0 rfl) ?_
        refine lv_iload_n hx hb dMo_access_60 rfl (lv_at hl 1 rfl) ?_
        have hPc := hP.sub (ws' := [(m0, .inr (5, [.int vth, .ref qt, .int vtp, .ref qp, .int vpl, .ref qr, .ref qm, .int vpc, .int vst, .int vc, .int vd, .int vs, .int vo, .int vi, .int vn])), (qr, .inl (cL, 11, .inr (.inl gr))), (qm, .inl (cI, 4096, .inl gm))]) [0, 1, 2] rfl
        have hDc := hD.sub (ws' := [(m0, .inr (5, [.int vth, .ref qt, .int vtp, .ref qp, .int vpl, .ref qr, .ref qm, .int vpc, .int vst, .int vc, .int vd, .int vs, .int vo, .int vi, .int vn])), (qr, .inl (cL, 11, .inr (.inl gr))), (qm, .inl (cI, 4096, .inl gm))]) [0, 1, 2] (by decide) rfl
        have hFc := va_free (wc := [(m0, .inr (5, [.int vth, .ref qt, .int vtp, .ref qp, .int vpl, .ref qr, .ref qm, .int vpc, .int vst, .int vc, .int vd, .int vs, .int vo, .int vi, .int vn])), (qr, .inl (cL, 11, .inr (.inl gr))), (qm, .inl (cI, 4096, .inl gm))]) hD hS hA [0, 1, 2] rfl
        refine va_calli (va_runV (As := [.long ((if (f_Mo_kind vc) = (1 : Int32) then (gr vs.toNatClampNeg) else (gr vd.toNatClampNeg)) + ((vo).toInt64)), .int (f_Mo_size vc)]) (rest := []) ⟨hx, hb, hml, hown, hT⟩ (c_Mo_atomic l G cB cL cI s.heap m0 vth qt vtp qp vpl qr qm vpc vst vc vd vs vo vi vn gr gm ((if (f_Mo_kind vc) = (1 : Int32) then (gr vs.toNatClampNeg) else (gr vd.toNatClampNeg)) + ((vo).toInt64)) (f_Mo_size vc) hPc (hDc.weaken (fun _ _ _ _ => trivial)) hs (msize_ok vc)) (cwV 2 hT (gB_V mw_780 mw_782 ms_25 mw_6 mw_783) rfl rfl rfl (by decide +kernel) ⟨Nat.le_of_ble_eq_true rfl, Nat.le_of_ble_eq_true rfl⟩) ⟨fun a U g mk q => ⟨q.1, q.2.1, va_K.moved (u := U) (U := U.calling g mk a) (Vm.Alike.refl U.vm) q.2.2⟩, va_recv hK hPc (ci := 5) (q0 := 0) rfl rfl, fun U hU hW => ⟨rfl, hU, va_K.moved hW.alike hK⟩⟩ rfl rfl hl.1 rfl (lv_room (Nat.le_of_ble_eq_true rfl)) dMo_access_61 ⟨Nat.zero_le _, Nat.zero_le _⟩) hS (fun q _ h => hFc q h) hFc (fun r u t H locs ht hvm hw hB hz8 hk8 hS => ?_)
        obtain ⟨rfl, rfl⟩ := hw
        obtain ⟨hP1, hD1⟩ := hB
        rw [ht] at hP1
        obtain ⟨hP, hD⟩ := va_join (wr := []) (w1 := [(m0, .inr (5, [.int vth, .ref qt, .int vtp, .ref qp, .int vpl, .ref qr, .ref qm, .int vpc, .int vst, .int vc, .int vd, .int vs, .int vo, .int vi, .int vn])), (qr, .inl (cL, 11, .inr (.inl ((f_Mo_atomic vs vi gr gm ((if (f_Mo_kind vc) = (1 : Int32) then (gr vs.toNatClampNeg) else (gr vd.toNatClampNeg)) + ((vo).toInt64)) (f_Mo_size vc)).2.1)))), (qm, .inl (cI, 4096, .inl ((f_Mo_atomic vs vi gr gm ((if (f_Mo_kind vc) = (1 : Int32) then (gr vs.toNatClampNeg) else (gr vd.toNatClampNeg)) + ((vo).toInt64)) (f_Mo_size vc)).2.2)))]) hP hD [0, 1, 2] [] rfl rfl (by decide) (by decide) hk8 hFc hP1 hD1
        have hP : va_P G vwCl [(m0, .inr (5, [.int vth, .ref qt, .int vtp, .ref qp, .int vpl, .ref qr, .ref qm, .int vpc, .int vst, .int vc, .int vd, .int vs, .int vo, .int vi, .int vn])), (qr, .inl (cL, 11, .inr (.inl ((f_Mo_atomic vs vi gr gm ((if (f_Mo_kind vc) = (1 : Int32) then (gr vs.toNatClampNeg) else (gr vd.toNatClampNeg)) + ((vo).toInt64)) (f_Mo_size vc)).2.1)))), (qm, .inl (cI, 4096, .inl ((f_Mo_atomic vs vi gr gm ((if (f_Mo_kind vc) = (1 : Int32) then (gr vs.toNatClampNeg) else (gr vd.toNatClampNeg)) + ((vo).toInt64)) (f_Mo_size vc)).2.2)))] H := hP
        have hD : va_D A [(m0, .inr (5, [.int vth, .ref qt, .int vtp, .ref qp, .int vpl, .ref qr, .ref qm, .int vpc, .int vst, .int vc, .int vd, .int vs, .int vo, .int vi, .int vn])), (qr, .inl (cL, 11, .inr (.inl ((f_Mo_atomic vs vi gr gm ((if (f_Mo_kind vc) = (1 : Int32) then (gr vs.toNatClampNeg) else (gr vd.toNatClampNeg)) + ((vo).toInt64)) (f_Mo_size vc)).2.1)))), (qm, .inl (cI, 4096, .inl ((f_Mo_atomic vs vi gr gm ((if (f_Mo_kind vc) = (1 : Int32) then (gr vs.toNatClampNeg) else (gr vd.toNatClampNeg)) + ((vo).toInt64)) (f_Mo_size vc)).2.2)))] := hD
        have hP9 := hP.sub (ws' := [(m0, .inr (5, [.int vth, .ref qt, .int vtp, .ref qp, .int vpl, .ref qr, .ref qm, .int vpc, .int vst, .int vc, .int vd, .int vs, .int vo, .int vi, .int vn])), (qr, .inl (cL, 11, .inr (.inl ((f_Mo_atomic vs vi gr gm ((if (f_Mo_kind vc) = (1 : Int32) then (gr vs.toNatClampNeg) else (gr vd.toNatClampNeg)) + ((vo).toInt64)) (f_Mo_size vc)).2.1)))), (qm, .inl (cI, 4096, .inl ((f_Mo_atomic vs vi gr gm ((if (f_Mo_kind vc) = (1 : Int32) then (gr vs.toNatClampNeg) else (gr vd.toNatClampNeg)) + ((vo).toInt64)) (f_Mo_size vc)).2.2)))]) [0, 1, 2] rfl
        have hD9 := hD.sub (ws' := [(m0, .inr (5, [.int vth, .ref qt, .int vtp, .ref qp, .int vpl, .ref qr, .ref qm, .int vpc, .int vst, .int vc, .int vd, .int vs, .int vo, .int vi, .int vn])), (qr, .inl (cL, 11, .inr (.inl ((f_Mo_atomic vs vi gr gm ((if (f_Mo_kind vc) = (1 : Int32) then (gr vs.toNatClampNeg) else (gr vd.toNatClampNeg)) + ((vo).toInt64)) (f_Mo_size vc)).2.1)))), (qm, .inl (cI, 4096, .inl ((f_Mo_atomic vs vi gr gm ((if (f_Mo_kind vc) = (1 : Int32) then (gr vs.toNatClampNeg) else (gr vd.toNatClampNeg)) + ((vo).toInt64)) (f_Mo_size vc)).2.2)))]) [0, 1, 2] (by decide) rfl
        exact W.zret (v := (bI (f_Mo_atomic vs vi gr gm ((if (f_Mo_kind vc) = (1 : Int32) then (gr vs.toNatClampNeg) else (gr vd.toNatClampNeg)) + ((vo).toInt64)) (f_Mo_size vc)).1)) hx hb hr (bI_nar _) (fun t ht hW => ⟨⟨(bI (f_Mo_atomic vs vi gr gm ((if (f_Mo_kind vc) = (1 : Int32) then (gr vs.toNatClampNeg) else (gr vd.toNatClampNeg)) + ((vo).toInt64)) (f_Mo_size vc)).1), (((f_Mo_atomic vs vi gr gm ((if (f_Mo_kind vc) = (1 : Int32) then (gr vs.toNatClampNeg) else (gr vd.toNatClampNeg)) + ((vo).toInt64)) (f_Mo_size vc)).2.1), ((f_Mo_atomic vs vi gr gm ((if (f_Mo_kind vc) = (1 : Int32) then (gr vs.toNatClampNeg) else (gr vd.toNatClampNeg)) + ((vo).toInt64)) (f_Mo_size vc)).2.2)), rfl, ⟨(by unfold f_Mo_access; rw [if_pos c2, if_pos c9]; try rfl), (by unfold f_Mo_access; rw [if_pos c2, if_pos c9]; try rfl)⟩, by rw [ht]; exact hP9, hD9⟩, hS.F ht⟩) hS.2.2 dMo_access_64
  refine lv_icmp_ne (tgt := 25) hx hb dMo_access_10 (by decide) (fun c16 => ?_) (fun c16 => ?_)
  · skip
    refine lv_aload_n hx hb dMo_access_25 rfl (lv_at hl 1 rfl) ?_
    refine va_get (D := G) (ci := 5) (v := .ref qr) (C := RMo) (T := TMo) (N := 15) hx hb hT inMo hown hK hP 0 rfl rfl 5 (by decide) (hT _ mw_570) (fun _ h9 => h9) rfl dMo_access_26 ?_
    refine lv_aload_n hx hb dMo_access_29 rfl (lv_at hl 1 rfl) ?_
    refine va_get (D := G) (ci := 5) (v := .int vd) (C := RMo) (T := TMo) (N := 15) hx hb hT inMo hown hK hP 0 rfl rfl 10 (by decide) (hT _ mw_575) (fun _ h9 => h9) rfl dMo_access_30 ?_
    refine va_lald hx hb hK hP 1 1 rfl rfl hd dMo_access_33 ?_
    exact jn1 (gr vd.toNatClampNeg) (by rw [if_neg c16]) _ hS
  · skip
    refine lv_aload_n hx hb dMo_access_13 rfl (lv_at hl 1 rfl) ?_
    refine va_get (D := G) (ci := 5) (v := .ref qr) (C := RMo) (T := TMo) (N := 15) hx hb hT inMo hown hK hP 0 rfl rfl 5 (by decide) (hT _ mw_570) (fun _ h9 => h9) rfl dMo_access_14 ?_
    refine lv_aload_n hx hb dMo_access_17 rfl (lv_at hl 1 rfl) ?_
    refine va_get (D := G) (ci := 5) (v := .int vs) (C := RMo) (T := TMo) (N := 15) hx hb hT inMo hown hK hP 0 rfl rfl 11 (by decide) (hT _ mw_576) (fun _ h9 => h9) rfl dMo_access_18 ?_
    refine va_lald hx hb hK hP 1 1 rfl rfl hs dMo_access_21 ?_
    refine lv_goto (tgt := 34) hx hb dMo_access_22 (by decide) ?_
    exact jn1 (gr vs.toNatClampNeg) (by rw [if_pos c16]) _ hS

def f_Mo_does (vc : Int32) (vd : Int32) (vs : Int32) (vo : Int32) (vi : Int32) (gp : Nat → Int32) (gr : Nat → Int64) (gm : Nat → Int32) (a0 : Int32) : Bool × (Nat → Int64) × (Nat → Int32) × (Int32) :=
  if (f_Mo_kind vc) = (0 : Int32) then
    (true, (vp_updL gr vd.toNatClampNeg ((j_lshl ((f_Mo_number gp (((8 : Int32) * a0) + (12 : Int32)) (4 : Int32)).toInt64) (32 : Int32)) ||| (((vi).toInt64) &&& (4294967295 : Int64)))), gm, (if (f_Mo_isWide vc) = true then (a0 + (2 : Int32)) else (a0 + (1 : Int32))))
  else
    if (f_Mo_kind vc) = (1 : Int32) then
      ((f_Mo_access vc vd vs vo vi gr gm).1, ((f_Mo_access vc vd vs vo vi gr gm).2.1), ((f_Mo_access vc vd vs vo vi gr gm).2.2), (if (f_Mo_isWide vc) = true then (a0 + (2 : Int32)) else (a0 + (1 : Int32))))
    else
      if (f_Mo_kind vc) = (2 : Int32) then
        ((f_Mo_access vc vd vs vo vi gr gm).1, ((f_Mo_access vc vd vs vo vi gr gm).2.1), ((f_Mo_access vc vd vs vo vi gr gm).2.2), (if (f_Mo_isWide vc) = true then (a0 + (2 : Int32)) else (a0 + (1 : Int32))))
      else
        if (f_Mo_kind vc) = (3 : Int32) then
          ((f_Mo_access vc vd vs vo vi gr gm).1, ((f_Mo_access vc vd vs vo vi gr gm).2.1), ((f_Mo_access vc vd vs vo vi gr gm).2.2), (if (f_Mo_isWide vc) = true then (a0 + (2 : Int32)) else (a0 + (1 : Int32))))
        else
          if (f_Mo_kind vc) = (4 : Int32) then
            (true, ((f_Mo_arithmetic vc vd vs vo vi gr)), gm, (if (f_Mo_isWide vc) = true then (a0 + (2 : Int32)) else (a0 + (1 : Int32))))
          else
            if (f_Mo_kind vc) = (5 : Int32) then
              (true, ((f_Mo_jump vc vd vs vo vi (if (f_Mo_isWide vc) = true then (a0 + (2 : Int32)) else (a0 + (1 : Int32))) gr a0).1), gm, ((f_Mo_jump vc vd vs vo vi (if (f_Mo_isWide vc) = true then (a0 + (2 : Int32)) else (a0 + (1 : Int32))) gr a0).2))
            else
              if (f_Mo_kind vc) = (6 : Int32) then
                (true, ((f_Mo_jump vc vd vs vo vi (if (f_Mo_isWide vc) = true then (a0 + (2 : Int32)) else (a0 + (1 : Int32))) gr a0).1), gm, ((f_Mo_jump vc vd vs vo vi (if (f_Mo_isWide vc) = true then (a0 + (2 : Int32)) else (a0 + (1 : Int32))) gr a0).2))
              else
                if (f_Mo_kind vc) = (7 : Int32) then
                  (true, ((f_Mo_arithmetic vc vd vs vo vi gr)), gm, (if (f_Mo_isWide vc) = true then (a0 + (2 : Int32)) else (a0 + (1 : Int32))))
                else
                  ((f_Mo_access vc vd vs vo vi gr gm).1, ((f_Mo_access vc vd vs vo vi gr gm).2.1), ((f_Mo_access vc vd vs vo vi gr gm).2.2), (if (f_Mo_isWide vc) = true then (a0 + (2 : Int32)) else (a0 + (1 : Int32))))
set_option maxHeartbeats 4000000 in
set_option maxRecDepth 100000 in
theorem c_Mo_does (l : Launch) (G : va_G) (cB cL cI : ClassId) (Hp : Heap) (m0 : Nat) (vth : Int32) (qt : Nat) (vtp : Int32) (qp : Nat) (vpl : Int32) (qr : Nat) (qm : Nat) (vpc : Int32) (vst : Int32) (vc : Int32) (vd : Int32) (vs : Int32) (vo : Int32) (vi : Int32) (vn : Int32) (gp : Nat → Int32) (gr : Nat → Int64) (gm : Nat → Int32) (a0 : Int32) (hP : va_P G vwCl [(m0, .inr (5, [.int vth, .ref qt, .int vtp, .ref qp, .int vpl, .ref qr, .ref qm, .int vpc, .int vst, .int vc, .int vd, .int vs, .int vo, .int vi, .int vn])), (qp, .inl (cI, 32768, .inl gp)), (qr, .inl (cL, 11, .inr (.inl gr))), (qm, .inl (cI, 4096, .inl gm))] Hp) (hD : va_D (fun _ => True) [(m0, .inr (5, [.int vth, .ref qt, .int vtp, .ref qp, .int vpl, .ref qr, .ref qm, .int vpc, .int vst, .int vc, .int vd, .int vs, .int vo, .int vi, .int vn])), (qp, .inl (cI, 32768, .inl gp)), (qr, .inl (cL, 11, .inr (.inl gr))), (qm, .inl (cI, 4096, .inl gm))]) (hd : vp_in vd 11) (hs : vp_in vs 11) (hi : ((f_Mo_kind vc) = (4 : Int32) ∨ (f_Mo_kind vc) = (7 : Int32)) → (f_Mo_n vc) = (13 : Int32) → (vi = 16 ∨ vi = 32 ∨ vi = 64)) (hp0 : 0 ≤ a0.toInt) (hp1 : a0.toInt < 4096) (hw : (f_Mo_kind vc) = (0 : Int32) → a0.toInt + 1 < 4096) : Met l yMo_does wsMo_does ({ frames := 5, cells := 0, slots := 0, locals := 136 }) (va_Pc [.ref m0, .int a0] (fun U => U.heap = Hp ∧ va_K G vwCl [(cB, .byte), (cL, .long), (cI, .int)] U)) (va_Qi (fun (r : Int32) (u : (Nat → Int64) × (Nat → Int32) × (Int32)) => r = bI ((f_Mo_does vc vd vs vo vi gp gr gm a0)).1 ∧ u = ((f_Mo_does vc vd vs vo vi gp gr gm a0)).2) (fun (u : (Nat → Int64) × (Nat → Int32) × (Int32)) t => va_P G vwCl [(m0, .inr (5, [.int vth, .ref qt, .int vtp, .ref qp, .int vpl, .ref qr, .ref qm, .int vpc, .int vst, .int vc, .int vd, .int vs, .int vo, .int vi, .int (u.2.2)])), (qp, .inl (cI, 32768, .inl gp)), (qr, .inl (cL, 11, .inr (.inl (u.1)))), (qm, .inl (cI, 4096, .inl (u.2.1)))] t.heap ∧ va_D (va_A [(m0, .inr (5, [.int vth, .ref qt, .int vtp, .ref qp, .int vpl, .ref qr, .ref qm, .int vpc, .int vst, .int vc, .int vd, .int vs, .int vo, .int vi, .int vn])), (qp, .inl (cI, 32768, .inl gp)), (qr, .inl (cL, 11, .inr (.inl gr))), (qm, .inl (cI, 4096, .inl gm))] Hp.size) [(m0, .inr (5, [.int vth, .ref qt, .int vtp, .ref qp, .int vpl, .ref qr, .ref qm, .int vpc, .int vst, .int vc, .int vd, .int vs, .int vo, .int vi, .int (u.2.2)])), (qp, .inl (cI, 32768, .inl gp)), (qr, .inl (cL, 11, .inr (.inl (u.1)))), (qm, .inl (cI, 4096, .inl (u.2.1)))]) (va_A [(m0, .inr (5, [.int vth, .ref qt, .int vtp, .ref qp, .int vpl, .ref qr, .ref qm, .int vpc, .int vst, .int vc, .int vd, .int vs, .int vo, .int vi, .int vn])), (qp, .inl (cI, 32768, .inl gp)), (qr, .inl (cL, 11, .inr (.inl gr))), (qm, .inl (cI, 4096, .inl gm))] Hp.size)) 0 0 (va_A [(m0, .inr (5, [.int vth, .ref qt, .int vtp, .ref qp, .int vpl, .ref qr, .ref qm, .int vpc, .int vst, .int vc, .int vd, .int vs, .int vo, .int vi, .int vn])), (qp, .inl (cI, 32768, .inl gp)), (qr, .inl (cL, 11, .inr (.inl gr))), (qm, .inl (cI, 4096, .inl gm))] Hp.size) := by
  refine Met.ofW (cc := cMo_does) (maxL := 4) (ret := (some .boolean)) (by decide) rfl ?_
  intro p e s m args below meth c s₁ B hml hv
  obtain ⟨rfl, rfl, hK⟩ := hv
  have hx := B.exec
  have hb := B.bytes
  have hr := B.returns
  have hT : ∀ w ∈ tB, w.before _ s = true := fun w h => atoms_spec (ws := wsMo_does) B.pre w (List.mem_cons_of_mem _ h)
  have hown : s.vm.findClass "CompiledProgramModel" = some m.cls := findClass_of_methodNamed B.named
  have hlocks := B.notSynchronized
  have hD := hD.self (sz := s.heap.size)
  generalize hAe : va_A [(m0, .inr (5, [.int vth, .ref qt, .int vtp, .ref qp, .int vpl, .ref qr, .ref qm, .int vpc, .int vst, .int vc, .int vd, .int vs, .int vo, .int vi, .int vn])), (qp, .inl (cI, 32768, .inl gp)), (qr, .inl (cL, 11, .inr (.inl gr))), (qm, .inl (cI, 4096, .inl gm))] s.heap.size = A at hD ⊢
  have hA : ∀ q : Nat, s.heap.size ≤ q → A q := fun q h => by rw [← hAe]; exact Or.inr h
  have hS : va_S A s.heap s.heap [] := va_S.rf
  have hl := lv_entry ([.ref m0, .int a0]) (n := 4) (Nat.le_of_ble_eq_true rfl)
  rw [lg_entry_eq]
  generalize (lg_sl ([.ref m0, .int a0]) ++ List.replicate (4 - (lg_sl ([.ref m0, .int a0])).length) Slot.unset).toArray = ls at hl ⊢
  have hl : lv_has ls 4 [(0, .ref m0), (1, .int a0)] := hl
  refine lv_aload_n hx hb dMo_does_0 rfl (lv_at hl 0 rfl) ?_
  refine lv_aload_n hx hb dMo_does_1 rfl (lv_at hl 0 rfl) ?_
  have hPc := hP.sub (ws' := [(m0, .inr (5, [.int vth, .ref qt, .int vtp, .ref qp, .int vpl, .ref qr, .ref qm, .int vpc, .int vst, .int vc, .int vd, .int vs, .int vo, .int vi, .int vn]))]) [0] rfl
  refine va_calli (va_runV (As := []) (rest := [.ref m0]) ⟨hx, hb, hml, hown, hT⟩ (c_Mo_isWide l G cB cL cI s.heap m0 vth qt vtp qp vpl qr qm vpc vst vc vd vs vo vi vn hPc ) (cwV 0 hT (gB_V mw_679 mw_681 ms_13 mw_6 mw_682) rfl rfl rfl (by decide +kernel) ⟨Nat.le_of_ble_eq_true rfl, Nat.le_of_ble_eq_true rfl⟩) ⟨fun a U g mk q => ⟨q.1, q.2.1, va_K.moved (u := U) (U := U.calling g mk a) (Vm.Alike.refl U.vm) q.2.2⟩, va_recv hK hPc (ci := 5) (q0 := 0) rfl rfl, fun U hU hW => ⟨rfl, hU, va_K.moved hW.alike hK⟩⟩ rfl rfl hl.1 rfl (lv_room (Nat.le_of_ble_eq_true rfl)) dMo_does_2 ⟨Nat.zero_le _, Nat.zero_le _⟩) hS (fun _ _ h => h.elim) (fun _ h => h.elim) (fun r u t H1 locs ht hvm hw hB hz8 hk8 hS => ?_)
  obtain rfl : s.heap = H1 := hB.symm.trans ht
  subst hw
  have jn1 : ∀ (x1 : Int32), x1 = (if (f_Mo_isWide vc) = true then (a0 + (2 : Int32)) else (a0 + (1 : Int32))) → ∀ (locs : List Loc), va_S A s.heap s.heap locs → W p l e (headSpec wsMo_does ({ frames := 5, cells := 0, slots := 0, locals := 136 })).room s m ([.ref m0, .int a0] : List Value).toArray below meth c s.heap locs 0 0 (MQ below (va_Qi (fun (r : Int32) (u : (Nat → Int64) × (Nat → Int32) × (Int32)) => r = bI ((f_Mo_does vc vd vs vo vi gp gr gm a0)).1 ∧ u = ((f_Mo_does vc vd vs vo vi gp gr gm a0)).2) (fun (u : (Nat → Int64) × (Nat → Int32) × (Int32)) t => va_P G vwCl [(m0, .inr (5, [.int vth, .ref qt, .int vtp, .ref qp, .int vpl, .ref qr, .ref qm, .int vpc, .int vst, .int vc, .int vd, .int vs, .int vo, .int vi, .int (u.2.2)])), (qp, .inl (cI, 32768, .inl gp)), (qr, .inl (cL, 11, .inr (.inl (u.1)))), (qm, .inl (cI, 4096, .inl (u.2.1)))] t.heap ∧ va_D (A) [(m0, .inr (5, [.int vth, .ref qt, .int vtp, .ref qp, .int vpl, .ref qr, .ref qm, .int vpc, .int vst, .int vc, .int vd, .int vs, .int vo, .int vi, .int (u.2.2)])), (qp, .inl (cI, 32768, .inl gp)), (qr, .inl (cL, 11, .inr (.inl (u.1)))), (qm, .inl (cI, 4096, .inl (u.2.1)))]) (A)) ([.ref m0, .int a0] : List Value).toArray s 0 0 A) (F0 m 17 ls [.int x1, .ref m0]) := by
    intro x1 hx1 locs hS
    subst hx1
    refine va_put (D := G) (ci := 5) (v := .int (if (f_Mo_isWide vc) = true then (a0 + (2 : Int32)) else (a0 + (1 : Int32)))) (ty := .int) (C := RMo) (T := TMo) (N := 15) hx hb hT inMo tyMo tyMo_ok nmMo hown hK hP hD hS 0 rfl rfl 14 (by decide) (hT _ mw_579) (fun _ h9 => h9) rfl (by decide +kernel) rfl rfl (Nat.le_of_ble_eq_true rfl) dMo_does_17 (fun H locs hP hD hS => ?_)
    have hP : va_P G vwCl [(m0, .inr (5, [.int vth, .ref qt, .int vtp, .ref qp, .int vpl, .ref qr, .ref qm, .int vpc, .int vst, .int vc, .int vd, .int vs, .int vo, .int vi, .int (if (f_Mo_isWide vc) = true then (a0 + (2 : Int32)) else (a0 + (1 : Int32)))])), (qp, .inl (cI, 32768, .inl gp)), (qr, .inl (cL, 11, .inr (.inl gr))), (qm, .inl (cI, 4096, .inl gm))] H := hP
    have hD : va_D A [(m0, .inr (5, [.int vth, .ref qt, .int vtp, .ref qp, .int vpl, .ref qr, .ref qm, .int vpc, .int vst, .int vc, .int vd, .int vs, .int vo, .int vi, .int (if (f_Mo_isWide vc) = true then (a0 + (2 : Int32)) else (a0 + (1 : Int32)))])), (qp, .inl (cI, 32768, .inl gp)), (qr, .inl (cL, 11, .inr (.inl gr))), (qm, .inl (cI, 4096, .inl gm))] := hD
    refine lv_aload_n hx hb dMo_does_20 rfl (lv_at hl 0 rfl) ?_
    have hPc := hP.sub (ws' := [(m0, .inr (5, [.int vth, .ref qt, .int vtp, .ref qp, .int vpl, .ref qr, .ref qm, .int vpc, .int vst, .int vc, .int vd, .int vs, .int vo, .int vi, .int (if (f_Mo_isWide vc) = true then (a0 + (2 : Int32)) else (a0 + (1 : Int32)))]))]) [0] rfl
    refine va_calli (va_runV (As := []) (rest := []) ⟨hx, hb, hml, hown, hT⟩ (c_Mo_kind l G cB cL cI H m0 vth qt vtp qp vpl qr qm vpc vst vc vd vs vo vi (if (f_Mo_isWide vc) = true then (a0 + (2 : Int32)) else (a0 + (1 : Int32))) hPc ) (cwV 0 hT (gB_V mw_643 mw_645 ms_4 mw_6 mw_646) rfl rfl rfl (by decide +kernel) ⟨Nat.le_of_ble_eq_true rfl, Nat.le_of_ble_eq_true rfl⟩) ⟨fun a U g mk q => ⟨q.1, q.2.1, va_K.moved (u := U) (U := U.calling g mk a) (Vm.Alike.refl U.vm) q.2.2⟩, va_recv hK hPc (ci := 5) (q0 := 0) rfl rfl, fun U hU hW => ⟨rfl, hU, va_K.moved hW.alike hK⟩⟩ rfl rfl hl.1 rfl (lv_room (Nat.le_of_ble_eq_true rfl)) dMo_does_21 ⟨Nat.zero_le _, Nat.zero_le _⟩) hS (fun _ _ h => h.elim) (fun _ h => h.elim) (fun r u t H1 locs ht hvm hw hB hz8 hk8 hS => ?_)
    obtain rfl : H = H1 := hB.symm.trans ht
    subst hw
    by_cases c2 : (f_Mo_kind vc) = (0 : Int32)
    · skip
      refine lv_tableIn (tgt := 85) (off := 61) hx hb dMo_does_24 (by rw [c2]; decide) (by rw [c2]; decide) (by rw [c2]; rfl) (by decide) ?_
      refine lv_aload_n hx hb dMo_does_85 rfl (lv_at hl 0 rfl) ?_
      refine va_get (D := G) (ci := 5) (v := .ref qp) (C := RMo) (T := TMo) (N := 15) hx hb hT inMo hown hK hP 0 rfl rfl 3 (by decide) (hT _ mw_568) (fun _ h9 => h9) rfl dMo_does_86 ?_
      refine lv_bipush (v := (8 : Int32)) hx hb dMo_does_89 (by decide) ?_
      refine lv_iload_n hx hb dMo_does_91 rfl (lv_at hl 1 rfl) ?_
      refine lv_imul hx hb dMo_does_92 ?_
      refine lv_bipush (v := (12 : Int32)) hx hb dMo_does_93 (by decide) ?_
      refine lv_iadd hx hb dMo_does_95 ?_
      refine lv_iconst (v := (4 : Int32)) hx hb dMo_does_96 (by decide) ?_
      have hPc := hP.sub (ws' := [(qp, .inl (cI, 32768, .inl gp))]) [1] rfl
      refine va_calli (va_runS (As := [.ref qp, .int (((8 : Int32) * a0) + (12 : Int32)), .int (4 : Int32)]) (rest := []) ⟨hx, hb, hml, hown, hT⟩ (c_Mo_number l G cB cL cI H qp gp (((8 : Int32) * a0) + (12 : Int32)) (4 : Int32) hPc (do_n hp0 hp1 (hw c2)).1 (by decide) (do_n hp0 hp1 (hw c2)).2) (cwS 3 hT (gB_S mw_640 mw_641 mw_6 mw_642) rfl rfl rfl (by decide +kernel) ⟨Nat.le_of_ble_eq_true rfl, Nat.le_of_ble_eq_true rfl⟩) ⟨fun a U g mk q => ⟨q.1, q.2.1, va_K.moved (u := U) (U := U.calling g mk a) (Vm.Alike.refl U.vm) q.2.2⟩, fun U hU hW => ⟨rfl, hU, va_K.moved hW.alike hK⟩⟩ rfl rfl hl.1 rfl (lv_room (Nat.le_of_ble_eq_true rfl)) dMo_does_97 ⟨Nat.zero_le _, Nat.zero_le _⟩) hS (fun _ _ h => h.elim) (fun _ h => h.elim) (fun r u t H1 locs ht hvm hw hB hz8 hk8 hS => ?_)
      obtain rfl : H = H1 := hB.symm.trans ht
      subst hw
      refine lv_i2l hx hb dMo_does_100 rfl ?_
      refine lv_lstore_n (lv' := [(2, .long ((f_Mo_number gp (((8 : Int32) * a0) + (12 : Int32)) (4 : Int32)).toInt64)), (0, .ref m0), (1, .int a0)]) hx hb dMo_does_101 rfl hl (by decide) rfl (fun ls hl => ?_)
      refine lv_aload_n hx hb dMo_does_102 rfl (lv_at hl 1 rfl) ?_
      refine va_get (D := G) (ci := 5) (v := .ref qr) (C := RMo) (T := TMo) (N := 15) hx hb hT inMo hown hK hP 0 rfl rfl 5 (by decide) (hT _ mw_570) (fun _ h9 => h9) rfl dMo_does_103 ?_
      refine lv_aload_n hx hb dMo_does_106 rfl (lv_at hl 1 rfl) ?_
      refine va_get (D := G) (ci := 5) (v := .int vd) (C := RMo) (T := TMo) (N := 15) hx hb hT inMo hown hK hP 0 rfl rfl 10 (by decide) (hT _ mw_575) (fun _ h9 => h9) rfl dMo_does_107 ?_
      refine lv_lload_n hx hb dMo_does_110 rfl (lv_at hl 0 rfl) ?_
      refine lv_bipush (v := (32 : Int32)) hx hb dMo_does_111 (by decide) ?_
      refine lv_lshl (v := (j_lshl ((f_Mo_number gp (((8 : Int32) * a0) + (12 : Int32)) (4 : Int32)).toInt64) (32 : Int32))) hx hb dMo_does_113 rfl ?_
      refine lv_aload_n hx hb dMo_does_114 rfl (lv_at hl 1 rfl) ?_
      refine va_get (D := G) (ci := 5) (v := .int vi) (C := RMo) (T := TMo) (N := 15) hx hb hT inMo hown hK hP 0 rfl rfl 13 (by decide) (hT _ mw_578) (fun _ h9 => h9) rfl dMo_does_115 ?_
      refine lv_i2l hx hb dMo_does_118 rfl ?_
      refine lv_ldc2 (v := (4294967295 : Int64)) hx hb hown (hT _ mw_775) dMo_does_119 ?_
      refine lv_land hx hb dMo_does_122 ?_
      refine lv_lor hx hb dMo_does_123 ?_
      refine va_last hx hb hK hP hD hS 2 1 rfl rfl hd dMo_does_124 (fun H locs hP hD hS => ?_)
      have hP : va_P G vwCl [(m0, .inr (5, [.int vth, .ref qt, .int vtp, .ref qp, .int vpl, .ref qr, .ref qm, .int vpc, .int vst, .int vc, .int vd, .int vs, .int vo, .int vi, .int (if (f_Mo_isWide vc) = true then (a0 + (2 : Int32)) else (a0 + (1 : Int32)))])), (qp, .inl (cI, 32768, .inl gp)), (qr, .inl (cL, 11, .inr (.inl (vp_updL gr vd.toNatClampNeg ((j_lshl ((f_Mo_number gp (((8 : Int32) * a0) + (12 : Int32)) (4 : Int32)).toInt64) (32 : Int32)) ||| (((vi).toInt64) &&& (4294967295 : Int64))))))), (qm, .inl (cI, 4096, .inl gm))] H := hP
      have hD : va_D A [(m0, .inr (5, [.int vth, .ref qt, .int vtp, .ref qp, .int vpl, .ref qr, .ref qm, .int vpc, .int vst, .int vc, .int vd, .int vs, .int vo, .int vi, .int (if (f_Mo_isWide vc) = true then (a0 + (2 : Int32)) else (a0 + (1 : Int32)))])), (qp, .inl (cI, 32768, .inl gp)), (qr, .inl (cL, 11, .inr (.inl (vp_updL gr vd.toNatClampNeg ((j_lshl ((f_Mo_number gp (((8 : Int32) * a0) + (12 : Int32)) (4 : Int32)).toInt64) (32 : Int32)) ||| (((vi).toInt64) &&& (4294967295 : Int64))))))), (qm, .inl (cI, 4096, .inl gm))] := hD
      refine lv_iconst (v := (1 : Int32)) hx hb dMo_does_125 (by decide) ?_
      have hP9 := hP.sub (ws' := [(m0, .inr (5, [.int vth, .ref qt, .int vtp, .ref qp, .int vpl, .ref qr, .ref qm, .int vpc, .int vst, .int vc, .int vd, .int vs, .int vo, .int vi, .int (if (f_Mo_isWide vc) = true then (a0 + (2 : Int32)) else (a0 + (1 : Int32)))])), (qp, .inl (cI, 32768, .inl gp)), (qr, .inl (cL, 11, .inr (.inl (vp_updL gr vd.toNatClampNeg ((j_lshl ((f_Mo_number gp (((8 : Int32) * a0) + (12 : Int32)) (4 : Int32)).toInt64) (32 : Int32)) ||| (((vi).toInt64) &&& (4294967295 : Int64))))))), (qm, .inl (cI, 4096, .inl gm))]) [0, 1, 2, 3] rfl
      have hD9 := hD.sub (ws' := [(m0, .inr (5, [.int vth, .ref qt, .int vtp, .ref qp, .int vpl, .ref qr, .ref qm, .int vpc, .int vst, .int vc, .int vd, .int vs, .int vo, .int vi, .int (if (f_Mo_isWide vc) = true then (a0 + (2 : Int32)) else (a0 + (1 : Int32)))])), (qp, .inl (cI, 32768, .inl gp)), (qr, .inl (cL, 11, .inr (.inl (vp_updL gr vd.toNatClampNeg ((j_lshl ((f_Mo_number gp (((8 : Int32) * a0) + (12 : Int32)) (4 : Int32)).toInt64) (32 : Int32)) ||| (((vi).toInt64) &&& (4294967295 : Int64))))))), (qm, .inl (cI, 4096, .inl gm))]) [0, 1, 2, 3] (by decide) rfl
      exact W.zret (v := (1 : Int32)) hx hb hr rfl (fun t ht hW => ⟨⟨(1 : Int32), ((vp_updL gr vd.toNatClampNeg ((j_lshl ((f_Mo_number gp (((8 : Int32) * a0) + (12 : Int32)) (4 : Int32)).toInt64) (32 : Int32)) ||| (((vi).toInt64) &&& (4294967295 : Int64)))), gm, (if (f_Mo_isWide vc) = true then (a0 + (2 : Int32)) else (a0 + (1 : Int32)))), rfl, ⟨(by unfold f_Mo_does; rw [if_pos c2]; try rfl), (by unfold f_Mo_does; rw [if_pos c2]; try rfl)⟩, by rw [ht]; exact hP9, hD9⟩, hS.F ht⟩) hS.2.2 dMo_does_126
    by_cases c3 : (f_Mo_kind vc) = (1 : Int32)
    · skip
      refine lv_tableIn (tgt := 127) (off := 103) hx hb dMo_does_24 (by rw [c3]; decide) (by rw [c3]; decide) (by rw [c3]; rfl) (by decide) ?_
      refine lv_aload_n hx hb dMo_does_127 rfl (lv_at hl 0 rfl) ?_
      have hPc := hP.sub (ws' := [(m0, .inr (5, [.int vth, .ref qt, .int vtp, .ref qp, .int vpl, .ref qr, .ref qm, .int vpc, .int vst, .int vc, .int vd, .int vs, .int vo, .int vi, .int (if (f_Mo_isWide vc) = true then (a0 + (2 : Int32)) else (a0 + (1 : Int32)))])), (qr, .inl (cL, 11, .inr (.inl gr))), (qm, .inl (cI, 4096, .inl gm))]) [0, 2, 3] rfl
      have hDc := hD.sub (ws' := [(m0, .inr (5, [.int vth, .ref qt, .int vtp, .ref qp, .int vpl, .ref qr, .ref qm, .int vpc, .int vst, .int vc, .int vd, .int vs, .int vo, .int vi, .int (if (f_Mo_isWide vc) = true then (a0 + (2 : Int32)) else (a0 + (1 : Int32)))])), (qr, .inl (cL, 11, .inr (.inl gr))), (qm, .inl (cI, 4096, .inl gm))]) [0, 2, 3] (by decide) rfl
      have hFc := va_free (wc := [(m0, .inr (5, [.int vth, .ref qt, .int vtp, .ref qp, .int vpl, .ref qr, .ref qm, .int vpc, .int vst, .int vc, .int vd, .int vs, .int vo, .int vi, .int (if (f_Mo_isWide vc) = true then (a0 + (2 : Int32)) else (a0 + (1 : Int32)))])), (qr, .inl (cL, 11, .inr (.inl gr))), (qm, .inl (cI, 4096, .inl gm))]) hD hS hA [0, 2, 3] rfl
      refine va_calli (va_runV (As := []) (rest := []) ⟨hx, hb, hml, hown, hT⟩ (c_Mo_access l G cB cL cI H m0 vth qt vtp qp vpl qr qm vpc vst vc vd vs vo vi (if (f_Mo_isWide vc) = true then (a0 + (2 : Int32)) else (a0 + (1 : Int32))) gr gm hPc (hDc.weaken (fun _ _ _ _ => trivial)) hd hs) (cwV 0 hT (gB_V mw_776 mw_778 ms_24 mw_6 mw_779) rfl rfl rfl (by decide +kernel) ⟨Nat.le_of_ble_eq_true rfl, Nat.le_of_ble_eq_true rfl⟩) ⟨fun a U g mk q => ⟨q.1, q.2.1, va_K.moved (u := U) (U := U.calling g mk a) (Vm.Alike.refl U.vm) q.2.2⟩, va_recv hK hPc (ci := 5) (q0 := 0) rfl rfl, fun U hU hW => ⟨rfl, hU, va_K.moved hW.alike hK⟩⟩ rfl rfl hl.1 rfl (lv_room (Nat.le_of_ble_eq_true rfl)) dMo_does_128 ⟨Nat.zero_le _, Nat.zero_le _⟩) hS (fun q _ h => hFc q h) hFc (fun r u t H locs ht hvm hw hB hz8 hk8 hS => ?_)
      obtain ⟨rfl, rfl⟩ := hw
      obtain ⟨hP1, hD1⟩ := hB
      rw [ht] at hP1
      obtain ⟨hP, hD⟩ := va_join (wr := [(qp, .inl (cI, 32768, .inl gp))]) (w1 := [(m0, .inr (5, [.int vth, .ref qt, .int vtp, .ref qp, .int vpl, .ref qr, .ref qm, .int vpc, .int vst, .int vc, .int vd, .int vs, .int vo, .int vi, .int (if (f_Mo_isWide vc) = true then (a0 + (2 : Int32)) else (a0 + (1 : Int32)))])), (qr, .inl (cL, 11, .inr (.inl ((f_Mo_access vc vd vs vo vi gr gm).2.1)))), (qm, .inl (cI, 4096, .inl ((f_Mo_access vc vd vs vo vi gr gm).2.2)))]) hP hD [0, 2, 3] [1] rfl rfl (by decide) (by decide) hk8 hFc hP1 hD1
      have hP : va_P G vwCl [(qp, .inl (cI, 32768, .inl gp)), (m0, .inr (5, [.int vth, .ref qt, .int vtp, .ref qp, .int vpl, .ref qr, .ref qm, .int vpc, .int vst, .int vc, .int vd, .int vs, .int vo, .int vi, .int (if (f_Mo_isWide vc) = true then (a0 + (2 : Int32)) else (a0 + (1 : Int32)))])), (qr, .inl (cL, 11, .inr (.inl ((f_Mo_access vc vd vs vo vi gr gm).2.1)))), (qm, .inl (cI, 4096, .inl ((f_Mo_access vc vd vs vo vi gr gm).2.2)))] H := hP
      have hD : va_D A [(qp, .inl (cI, 32768, .inl gp)), (m0, .inr (5, [.int vth, .ref qt, .int vtp, .ref qp, .int vpl, .ref qr, .ref qm, .int vpc, .int vst, .int vc, .int vd, .int vs, .int vo, .int vi, .int (if (f_Mo_isWide vc) = true then (a0 + (2 : Int32)) else (a0 + (1 : Int32)))])), (qr, .inl (cL, 11, .inr (.inl ((f_Mo_access vc vd vs vo vi gr gm).2.1)))), (qm, .inl (cI, 4096, .inl ((f_Mo_access vc vd vs vo vi gr gm).2.2)))] := hD
      have hP9 := hP.sub (ws' := [(m0, .inr (5, [.int vth, .ref qt, .int vtp, .ref qp, .int vpl, .ref qr, .ref qm, .int vpc, .int vst, .int vc, .int vd, .int vs, .int vo, .int vi, .int (if (f_Mo_isWide vc) = true then (a0 + (2 : Int32)) else (a0 + (1 : Int32)))])), (qp, .inl (cI, 32768, .inl gp)), (qr, .inl (cL, 11, .inr (.inl ((f_Mo_access vc vd vs vo vi gr gm).2.1)))), (qm, .inl (cI, 4096, .inl ((f_Mo_access vc vd vs vo vi gr gm).2.2)))]) [1, 0, 2, 3] rfl
      have hD9 := hD.sub (ws' := [(m0, .inr (5, [.int vth, .ref qt, .int vtp, .ref qp, .int vpl, .ref qr, .ref qm, .int vpc, .int vst, .int vc, .int vd, .int vs, .int vo, .int vi, .int (if (f_Mo_isWide vc) = true then (a0 + (2 : Int32)) else (a0 + (1 : Int32)))])), (qp, .inl (cI, 32768, .inl gp)), (qr, .inl (cL, 11, .inr (.inl ((f_Mo_access vc vd vs vo vi gr gm).2.1)))), (qm, .inl (cI, 4096, .inl ((f_Mo_access vc vd vs vo vi gr gm).2.2)))]) [1, 0, 2, 3] (by decide) rfl
      exact W.zret (v := (bI (f_Mo_access vc vd vs vo vi gr gm).1)) hx hb hr (bI_nar _) (fun t ht hW => ⟨⟨(bI (f_Mo_access vc vd vs vo vi gr gm).1), (((f_Mo_access vc vd vs vo vi gr gm).2.1), ((f_Mo_access vc vd vs vo vi gr gm).2.2), (if (f_Mo_isWide vc) = true then (a0 + (2 : Int32)) else (a0 + (1 : Int32)))), rfl, ⟨(by unfold f_Mo_does; rw [if_neg c2, if_pos c3]; try rfl), (by unfold f_Mo_does; rw [if_neg c2, if_pos c3]; try rfl)⟩, by rw [ht]; exact hP9, hD9⟩, hS.F ht⟩) hS.2.2 dMo_does_131
    by_cases c4 : (f_Mo_kind vc) = (2 : Int32)
    · skip
      refine lv_tableIn (tgt := 127) (off := 103) hx hb dMo_does_24 (by rw [c4]; decide) (by rw [c4]; decide) (by rw [c4]; rfl) (by decide) ?_
      refine lv_aload_n hx hb dMo_does_127 rfl (lv_at hl 0 rfl) ?_
      have hPc := hP.sub (ws' := [(m0, .inr (5, [.int vth, .ref qt, .int vtp, .ref qp, .int vpl, .ref qr, .ref qm, .int vpc, .int vst, .int vc, .int vd, .int vs, .int vo, .int vi, .int (if (f_Mo_isWide vc) = true then (a0 + (2 : Int32)) else (a0 + (1 : Int32)))])), (qr, .inl (cL, 11, .inr (.inl gr))), (qm, .inl (cI, 4096, .inl gm))]) [0, 2, 3] rfl
      have hDc := hD.sub (ws' := [(m0, .inr (5, [.int vth, .ref qt, .int vtp, .ref qp, .int vpl, .ref qr, .ref qm, .int vpc, .int vst, .int vc, .int vd, .int vs, .int vo, .int vi, .int (if (f_Mo_isWide vc) = true then (a0 + (2 : Int32)) else (a0 + (1 : Int32)))])), (qr, .inl (cL, 11, .inr (.inl gr))), (qm, .inl (cI, 4096, .inl gm))]) [0, 2, 3] (by decide) rfl
      have hFc := va_free (wc := [(m0, .inr (5, [.int vth, .ref qt, .int vtp, .ref qp, .int vpl, .ref qr, .ref qm, .int vpc, .int vst, .int vc, .int vd, .int vs, .int vo, .int vi, .int (if (f_Mo_isWide vc) = true then (a0 + (2 : Int32)) else (a0 + (1 : Int32)))])), (qr, .inl (cL, 11, .inr (.inl gr))), (qm, .inl (cI, 4096, .inl gm))]) hD hS hA [0, 2, 3] rfl
      refine va_calli (va_runV (As := []) (rest := []) ⟨hx, hb, hml, hown, hT⟩ (c_Mo_access l G cB cL cI H m0 vth qt vtp qp vpl qr qm vpc vst vc vd vs vo vi (if (f_Mo_isWide vc) = true then (a0 + (2 : Int32)) else (a0 + (1 : Int32))) gr gm hPc (hDc.weaken (fun _ _ _ _ => trivial)) hd hs) (cwV 0 hT (gB_V mw_776 mw_778 ms_24 mw_6 mw_779) rfl rfl rfl (by decide +kernel) ⟨Nat.le_of_ble_eq_true rfl, Nat.le_of_ble_eq_true rfl⟩) ⟨fun a U g mk q => ⟨q.1, q.2.1, va_K.moved (u := U) (U := U.calling g mk a) (Vm.Alike.refl U.vm) q.2.2⟩, va_recv hK hPc (ci := 5) (q0 := 0) rfl rfl, fun U hU hW => ⟨rfl, hU, va_K.moved hW.alike hK⟩⟩ rfl rfl hl.1 rfl (lv_room (Nat.le_of_ble_eq_true rfl)) dMo_does_128 ⟨Nat.zero_le _, Nat.zero_le _⟩) hS (fun q _ h => hFc q h) hFc (fun r u t H locs ht hvm hw hB hz8 hk8 hS => ?_)
      obtain ⟨rfl, rfl⟩ := hw
      obtain ⟨hP1, hD1⟩ := hB
      rw [ht] at hP1
      obtain ⟨hP, hD⟩ := va_join (wr := [(qp, .inl (cI, 32768, .inl gp))]) (w1 := [(m0, .inr (5, [.int vth, .ref qt, .int vtp, .ref qp, .int vpl, .ref qr, .ref qm, .int vpc, .int vst, .int vc, .int vd, .int vs, .int vo, .int vi, .int (if (f_Mo_isWide vc) = true then (a0 + (2 : Int32)) else (a0 + (1 : Int32)))])), (qr, .inl (cL, 11, .inr (.inl ((f_Mo_access vc vd vs vo vi gr gm).2.1)))), (qm, .inl (cI, 4096, .inl ((f_Mo_access vc vd vs vo vi gr gm).2.2)))]) hP hD [0, 2, 3] [1] rfl rfl (by decide) (by decide) hk8 hFc hP1 hD1
      have hP : va_P G vwCl [(qp, .inl (cI, 32768, .inl gp)), (m0, .inr (5, [.int vth, .ref qt, .int vtp, .ref qp, .int vpl, .ref qr, .ref qm, .int vpc, .int vst, .int vc, .int vd, .int vs, .int vo, .int vi, .int (if (f_Mo_isWide vc) = true then (a0 + (2 : Int32)) else (a0 + (1 : Int32)))])), (qr, .inl (cL, 11, .inr (.inl ((f_Mo_access vc vd vs vo vi gr gm).2.1)))), (qm, .inl (cI, 4096, .inl ((f_Mo_access vc vd vs vo vi gr gm).2.2)))] H := hP
      have hD : va_D A [(qp, .inl (cI, 32768, .inl gp)), (m0, .inr (5, [.int vth, .ref qt, .int vtp, .ref qp, .int vpl, .ref qr, .ref qm, .int vpc, .int vst, .int vc, .int vd, .int vs, .int vo, .int vi, .int (if (f_Mo_isWide vc) = true then (a0 + (2 : Int32)) else (a0 + (1 : Int32)))])), (qr, .inl (cL, 11, .inr (.inl ((f_Mo_access vc vd vs vo vi gr gm).2.1)))), (qm, .inl (cI, 4096, .inl ((f_Mo_access vc vd vs vo vi gr gm).2.2)))] := hD
      have hP9 := hP.sub (ws' := [(m0, .inr (5, [.int vth, .ref qt, .int vtp, .ref qp, .int vpl, .ref qr, .ref qm, .int vpc, .int vst, .int vc, .int vd, .int vs, .int vo, .int vi, .int (if (f_Mo_isWide vc) = true then (a0 + (2 : Int32)) else (a0 + (1 : Int32)))])), (qp, .inl (cI, 32768, .inl gp)), (qr, .inl (cL, 11, .inr (.inl ((f_Mo_access vc vd vs vo vi gr gm).2.1)))), (qm, .inl (cI, 4096, .inl ((f_Mo_access vc vd vs vo vi gr gm).2.2)))]) [1, 0, 2, 3] rfl
      have hD9 := hD.sub (ws' := [(m0, .inr (5, [.int vth, .ref qt, .int vtp, .ref qp, .int vpl, .ref qr, .ref qm, .int vpc, .int vst, .int vc, .int vd, .int vs, .int vo, .int vi, .int (if (f_Mo_isWide vc) = true then (a0 + (2 : Int32)) else (a0 + (1 : Int32)))])), (qp, .inl (cI, 32768, .inl gp)), (qr, .inl (cL, 11, .inr (.inl ((f_Mo_access vc vd vs vo vi gr gm).2.1)))), (qm, .inl (cI, 4096, .inl ((f_Mo_access vc vd vs vo vi gr gm).2.2)))]) [1, 0, 2, 3] (by decide) rfl
      exact W.zret (v := (bI (f_Mo_access vc vd vs vo vi gr gm).1)) hx hb hr (bI_nar _) (fun t ht hW => ⟨⟨(bI (f_Mo_access vc vd vs vo vi gr gm).1), (((f_Mo_access vc vd vs vo vi gr gm).2.1), ((f_Mo_access vc vd vs vo vi gr gm).2.2), (if (f_Mo_isWide vc) = true then (a0 + (2 : Int32)) else (a0 + (1 : Int32)))), rfl, ⟨(by unfold f_Mo_does; rw [if_neg c2, if_neg c3, if_pos c4]; try rfl), (by unfold f_Mo_does; rw [if_neg c2, if_neg c3, if_pos c4]; try rfl)⟩, by rw [ht]; exact hP9, hD9⟩, hS.F ht⟩) hS.2.2 dMo_does_131
    by_cases c5 : (f_Mo_kind vc) = (3 : Int32)
    · skip
      refine lv_tableIn (tgt := 127) (off := 103) hx hb dMo_does_24 (by rw [c5]; decide) (by rw [c5]; decide) (by rw [c5]; rfl) (by decide) ?_
      refine lv_aload_n hx hb dMo_does_127 rfl (lv_at hl 0 rfl) ?_
      have hPc := hP.sub (ws' := [(m0, .inr (5, [.int vth, .ref qt, .int vtp, .ref qp, .int vpl, .ref qr, .ref qm, .int vpc, .int vst, .int vc, .int vd, .int vs, .int vo, .int vi, .int (if (f_Mo_isWide vc) = true then (a0 + (2 : Int32)) else (a0 + (1 : Int32)))])), (qr, .inl (cL, 11, .inr (.inl gr))), (qm, .inl (cI, 4096, .inl gm))]) [0, 2, 3] rfl
      have hDc := hD.sub (ws' := [(m0, .inr (5, [.int vth, .ref qt, .int vtp, .ref qp, .int vpl, .ref qr, .ref qm, .int vpc, .int vst, .int vc, .int vd, .int vs, .int vo, .int vi, .int (if (f_Mo_isWide vc) = true then (a0 + (2 : Int32)) else (a0 + (1 : Int32)))])), (qr, .inl (cL, 11, .inr (.inl gr))), (qm, .inl (cI, 4096, .inl gm))]) [0, 2, 3] (by decide) rfl
      have hFc := va_free (wc := [(m0, .inr (5, [.int vth, .ref qt, .int vtp, .ref qp, .int vpl, .ref qr, .ref qm, .int vpc, .int vst, .int vc, .int vd, .int vs, .int vo, .int vi, .int (if (f_Mo_isWide vc) = true then (a0 + (2 : Int32)) else (a0 + (1 : Int32)))])), (qr, .inl (cL, 11, .inr (.inl gr))), (qm, .inl (cI, 4096, .inl gm))]) hD hS hA [0, 2, 3] rfl
      refine va_calli (va_runV (As := []) (rest := []) ⟨hx, hb, hml, hown, hT⟩ (c_Mo_access l G cB cL cI H m0 vth qt vtp qp vpl qr qm vpc vst vc vd vs vo vi (if (f_Mo_isWide vc) = true then (a0 + (2 : Int32)) else (a0 + (1 : Int32))) gr gm hPc (hDc.weaken (fun _ _ _ _ => trivial)) hd hs) (cwV 0 hT (gB_V mw_776 mw_778 ms_24 mw_6 mw_779) rfl rfl rfl (by decide +kernel) ⟨Nat.le_of_ble_eq_true rfl, Nat.le_of_ble_eq_true rfl⟩) ⟨fun a U g mk q => ⟨q.1, q.2.1, va_K.moved (u := U) (U := U.calling g mk a) (Vm.Alike.refl U.vm) q.2.2⟩, va_recv hK hPc (ci := 5) (q0 := 0) rfl rfl, fun U hU hW => ⟨rfl, hU, va_K.moved hW.alike hK⟩⟩ rfl rfl hl.1 rfl (lv_room (Nat.le_of_ble_eq_true rfl)) dMo_does_128 ⟨Nat.zero_le _, Nat.zero_le _⟩) hS (fun q _ h => hFc q h) hFc (fun r u t H locs ht hvm hw hB hz8 hk8 hS => ?_)
      obtain ⟨rfl, rfl⟩ := hw
      obtain ⟨hP1, hD1⟩ := hB
      rw [ht] at hP1
      obtain ⟨hP, hD⟩ := va_join (wr := [(qp, .inl (cI, 32768, .inl gp))]) (w1 := [(m0, .inr (5, [.int vth, .ref qt, .int vtp, .ref qp, .int vpl, .ref qr, .ref qm, .int vpc, .int vst, .int vc, .int vd, .int vs, .int vo, .int vi, .int (if (f_Mo_isWide vc) = true then (a0 + (2 : Int32)) else (a0 + (1 : Int32)))])), (qr, .inl (cL, 11, .inr (.inl ((f_Mo_access vc vd vs vo vi gr gm).2.1)))), (qm, .inl (cI, 4096, .inl ((f_Mo_access vc vd vs vo vi gr gm).2.2)))]) hP hD [0, 2, 3] [1] rfl rfl (by decide) (by decide) hk8 hFc hP1 hD1
      have hP : va_P G vwCl [(qp, .inl (cI, 32768, .inl gp)), (m0, .inr (5, [.int vth, .ref qt, .int vtp, .ref qp, .int vpl, .ref qr, .ref qm, .int vpc, .int vst, .int vc, .int vd, .int vs, .int vo, .int vi, .int (if (f_Mo_isWide vc) = true then (a0 + (2 : Int32)) else (a0 + (1 : Int32)))])), (qr, .inl (cL, 11, .inr (.inl ((f_Mo_access vc vd vs vo vi gr gm).2.1)))), (qm, .inl (cI, 4096, .inl ((f_Mo_access vc vd vs vo vi gr gm).2.2)))] H := hP
      have hD : va_D A [(qp, .inl (cI, 32768, .inl gp)), (m0, .inr (5, [.int vth, .ref qt, .int vtp, .ref qp, .int vpl, .ref qr, .ref qm, .int vpc, .int vst, .int vc, .int vd, .int vs, .int vo, .int vi, .int (if (f_Mo_isWide vc) = true then (a0 + (2 : Int32)) else (a0 + (1 : Int32)))])), (qr, .inl (cL, 11, .inr (.inl ((f_Mo_access vc vd vs vo vi gr gm).2.1)))), (qm, .inl (cI, 4096, .inl ((f_Mo_access vc vd vs vo vi gr gm).2.2)))] := hD
      have hP9 := hP.sub (ws' := [(m0, .inr (5, [.int vth, .ref qt, .int vtp, .ref qp, .int vpl, .ref qr, .ref qm, .int vpc, .int vst, .int vc, .int vd, .int vs, .int vo, .int vi, .int (if (f_Mo_isWide vc) = true then (a0 + (2 : Int32)) else (a0 + (1 : Int32)))])), (qp, .inl (cI, 32768, .inl gp)), (qr, .inl (cL, 11, .inr (.inl ((f_Mo_access vc vd vs vo vi gr gm).2.1)))), (qm, .inl (cI, 4096, .inl ((f_Mo_access vc vd vs vo vi gr gm).2.2)))]) [1, 0, 2, 3] rfl
      have hD9 := hD.sub (ws' := [(m0, .inr (5, [.int vth, .ref qt, .int vtp, .ref qp, .int vpl, .ref qr, .ref qm, .int vpc, .int vst, .int vc, .int vd, .int vs, .int vo, .int vi, .int (if (f_Mo_isWide vc) = true then (a0 + (2 : Int32)) else (a0 + (1 : Int32)))])), (qp, .inl (cI, 32768, .inl gp)), (qr, .inl (cL, 11, .inr (.inl ((f_Mo_access vc vd vs vo vi gr gm).2.1)))), (qm, .inl (cI, 4096, .inl ((f_Mo_access vc vd vs vo vi gr gm).2.2)))]) [1, 0, 2, 3] (by decide) rfl
      exact W.zret (v := (bI (f_Mo_access vc vd vs vo vi gr gm).1)) hx hb hr (bI_nar _) (fun t ht hW => ⟨⟨(bI (f_Mo_access vc vd vs vo vi gr gm).1), (((f_Mo_access vc vd vs vo vi gr gm).2.1), ((f_Mo_access vc vd vs vo vi gr gm).2.2), (if (f_Mo_isWide vc) = true then (a0 + (2 : Int32)) else (a0 + (1 : Int32)))), rfl, ⟨(by unfold f_Mo_does; rw [if_neg c2, if_neg c3, if_neg c4, if_pos c5]; try rfl), (by unfold f_Mo_does; rw [if_neg c2, if_neg c3, if_neg c4, if_pos c5]; try rfl)⟩, by rw [ht]; exact hP9, hD9⟩, hS.F ht⟩) hS.2.2 dMo_does_131
    by_cases c6 : (f_Mo_kind vc) = (4 : Int32)
    · skip
      refine lv_tableIn (tgt := 72) (off := 48) hx hb dMo_does_24 (by rw [c6]; decide) (by rw [c6]; decide) (by rw [c6]; rfl) (by decide) ?_
      refine lv_aload_n hx hb dMo_does_72 rfl (lv_at hl 0 rfl) ?_
      have hPc := hP.sub (ws' := [(m0, .inr (5, [.int vth, .ref qt, .int vtp, .ref qp, .int vpl, .ref qr, .ref qm, .int vpc, .int vst, .int vc, .int vd, .int vs, .int vo, .int vi, .int (if (f_Mo_isWide vc) = true then (a0 + (2 : Int32)) else (a0 + (1 : Int32)))])), (qr, .inl (cL, 11, .inr (.inl gr)))]) [0, 2] rfl
      have hDc := hD.sub (ws' := [(m0, .inr (5, [.int vth, .ref qt, .int vtp, .ref qp, .int vpl, .ref qr, .ref qm, .int vpc, .int vst, .int vc, .int vd, .int vs, .int vo, .int vi, .int (if (f_Mo_isWide vc) = true then (a0 + (2 : Int32)) else (a0 + (1 : Int32)))])), (qr, .inl (cL, 11, .inr (.inl gr)))]) [0, 2] (by decide) rfl
      have hFc := va_free (wc := [(m0, .inr (5, [.int vth, .ref qt, .int vtp, .ref qp, .int vpl, .ref qr, .ref qm, .int vpc, .int vst, .int vc, .int vd, .int vs, .int vo, .int vi, .int (if (f_Mo_isWide vc) = true then (a0 + (2 : Int32)) else (a0 + (1 : Int32)))])), (qr, .inl (cL, 11, .inr (.inl gr)))]) hD hS hA [0, 2] rfl
      refine va_callv (va_runV (As := []) (rest := []) ⟨hx, hb, hml, hown, hT⟩ (c_Mo_arithmetic l G cB cL cI H m0 vth qt vtp qp vpl qr qm vpc vst vc vd vs vo vi (if (f_Mo_isWide vc) = true then (a0 + (2 : Int32)) else (a0 + (1 : Int32))) gr hPc (hDc.weaken (fun _ _ _ _ => trivial)) hd hs (hi (Or.inl c6))) (cwV 0 hT (gB_V mw_734 mw_736 ms_19 mw_6 mw_737) rfl rfl rfl (by decide +kernel) ⟨Nat.le_of_ble_eq_true rfl, Nat.le_of_ble_eq_true rfl⟩) ⟨fun a U g mk q => ⟨q.1, q.2.1, va_K.moved (u := U) (U := U.calling g mk a) (Vm.Alike.refl U.vm) q.2.2⟩, va_recv hK hPc (ci := 5) (q0 := 0) rfl rfl, fun U hU hW => ⟨rfl, hU, va_K.moved hW.alike hK⟩⟩ rfl rfl hl.1 rfl (lv_room (Nat.le_of_ble_eq_true rfl)) dMo_does_73 ⟨Nat.zero_le _, Nat.zero_le _⟩) hS (fun q _ h => hFc q h) hFc (fun u t H locs ht hvm hw hB hz8 hk8 hS => ?_)
      subst hw
      obtain ⟨hP1, hD1⟩ := hB
      rw [ht] at hP1
      obtain ⟨hP, hD⟩ := va_join (wr := [(qp, .inl (cI, 32768, .inl gp)), (qm, .inl (cI, 4096, .inl gm))]) (w1 := [(m0, .inr (5, [.int vth, .ref qt, .int vtp, .ref qp, .int vpl, .ref qr, .ref qm, .int vpc, .int vst, .int vc, .int vd, .int vs, .int vo, .int vi, .int (if (f_Mo_isWide vc) = true then (a0 + (2 : Int32)) else (a0 + (1 : Int32)))])), (qr, .inl (cL, 11, .inr (.inl ((f_Mo_arithmetic vc vd vs vo vi gr)))))]) hP hD [0, 2] [1, 3] rfl rfl (by decide) (by decide) hk8 hFc hP1 hD1
      have hP : va_P G vwCl [(qp, .inl (cI, 32768, .inl gp)), (qm, .inl (cI, 4096, .inl gm)), (m0, .inr (5, [.int vth, .ref qt, .int vtp, .ref qp, .int vpl, .ref qr, .ref qm, .int vpc, .int vst, .int vc, .int vd, .int vs, .int vo, .int vi, .int (if (f_Mo_isWide vc) = true then (a0 + (2 : Int32)) else (a0 + (1 : Int32)))])), (qr, .inl (cL, 11, .inr (.inl ((f_Mo_arithmetic vc vd vs vo vi gr)))))] H := hP
      have hD : va_D A [(qp, .inl (cI, 32768, .inl gp)), (qm, .inl (cI, 4096, .inl gm)), (m0, .inr (5, [.int vth, .ref qt, .int vtp, .ref qp, .int vpl, .ref qr, .ref qm, .int vpc, .int vst, .int vc, .int vd, .int vs, .int vo, .int vi, .int (if (f_Mo_isWide vc) = true then (a0 + (2 : Int32)) else (a0 + (1 : Int32)))])), (qr, .inl (cL, 11, .inr (.inl ((f_Mo_arithmetic vc vd vs vo vi gr)))))] := hD
      refine lv_iconst (v := (1 : Int32)) hx hb dMo_does_76 (by decide) ?_
      have hP9 := hP.sub (ws' := [(m0, .inr (5, [.int vth, .ref qt, .int vtp, .ref qp, .int vpl, .ref qr, .ref qm, .int vpc, .int vst, .int vc, .int vd, .int vs, .int vo, .int vi, .int (if (f_Mo_isWide vc) = true then (a0 + (2 : Int32)) else (a0 + (1 : Int32)))])), (qp, .inl (cI, 32768, .inl gp)), (qr, .inl (cL, 11, .inr (.inl ((f_Mo_arithmetic vc vd vs vo vi gr))))), (qm, .inl (cI, 4096, .inl gm))]) [2, 0, 3, 1] rfl
      have hD9 := hD.sub (ws' := [(m0, .inr (5, [.int vth, .ref qt, .int vtp, .ref qp, .int vpl, .ref qr, .ref qm, .int vpc, .int vst, .int vc, .int vd, .int vs, .int vo, .int vi, .int (if (f_Mo_isWide vc) = true then (a0 + (2 : Int32)) else (a0 + (1 : Int32)))])), (qp, .inl (cI, 32768, .inl gp)), (qr, .inl (cL, 11, .inr (.inl ((f_Mo_arithmetic vc vd vs vo vi gr))))), (qm, .inl (cI, 4096, .inl gm))]) [2, 0, 3, 1] (by decide) rfl
      exact W.zret (v := (1 : Int32)) hx hb hr rfl (fun t ht hW => ⟨⟨(1 : Int32), (((f_Mo_arithmetic vc vd vs vo vi gr)), gm, (if (f_Mo_isWide vc) = true then (a0 + (2 : Int32)) else (a0 + (1 : Int32)))), rfl, ⟨(by unfold f_Mo_does; rw [if_neg c2, if_neg c3, if_neg c4, if_neg c5, if_pos c6]; try rfl), (by unfold f_Mo_does; rw [if_neg c2, if_neg c3, if_neg c4, if_neg c5, if_pos c6]; try rfl)⟩, by rw [ht]; exact hP9, hD9⟩, hS.F ht⟩) hS.2.2 dMo_does_77
    by_cases c7 : (f_Mo_kind vc) = (5 : Int32)
    · skip
      refine lv_tableIn (tgt := 78) (off := 54) hx hb dMo_does_24 (by rw [c7]; decide) (by rw [c7]; decide) (by rw [c7]; rfl) (by decide) ?_
      refine lv_aload_n hx hb dMo_does_78 rfl (lv_at hl 0 rfl) ?_
      refine lv_iload_n hx hb dMo_does_79 rfl (lv_at hl 1 rfl) ?_
      have hPc := hP.sub (ws' := [(m0, .inr (5, [.int vth, .ref qt, .int vtp, .ref qp, .int vpl, .ref qr, .ref qm, .int vpc, .int vst, .int vc, .int vd, .int vs, .int vo, .int vi, .int (if (f_Mo_isWide vc) = true then (a0 + (2 : Int32)) else (a0 + (1 : Int32)))])), (qr, .inl (cL, 11, .inr (.inl gr)))]) [0, 2] rfl
      have hDc := hD.sub (ws' := [(m0, .inr (5, [.int vth, .ref qt, .int vtp, .ref qp, .int vpl, .ref qr, .ref qm, .int vpc, .int vst, .int vc, .int vd, .int vs, .int vo, .int vi, .int (if (f_Mo_isWide vc) = true then (a0 + (2 : Int32)) else (a0 + (1 : Int32)))])), (qr, .inl (cL, 11, .inr (.inl gr)))]) [0, 2] (by decide) rfl
      have hFc := va_free (wc := [(m0, .inr (5, [.int vth, .ref qt, .int vtp, .ref qp, .int vpl, .ref qr, .ref qm, .int vpc, .int vst, .int vc, .int vd, .int vs, .int vo, .int vi, .int (if (f_Mo_isWide vc) = true then (a0 + (2 : Int32)) else (a0 + (1 : Int32)))])), (qr, .inl (cL, 11, .inr (.inl gr)))]) hD hS hA [0, 2] rfl
      refine va_callv (va_runV (As := [.int a0]) (rest := []) ⟨hx, hb, hml, hown, hT⟩ (c_Mo_jump l G cB cL cI H m0 vth qt vtp qp vpl qr qm vpc vst vc vd vs vo vi (if (f_Mo_isWide vc) = true then (a0 + (2 : Int32)) else (a0 + (1 : Int32))) gr a0 hPc (hDc.weaken (fun _ _ _ _ => trivial)) hd hs) (cwV 1 hT (gB_V mw_762 mw_764 ms_21 mw_6 mw_765) rfl rfl rfl (by decide +kernel) ⟨Nat.le_of_ble_eq_true rfl, Nat.le_of_ble_eq_true rfl⟩) ⟨fun a U g mk q => ⟨q.1, q.2.1, va_K.moved (u := U) (U := U.calling g mk a) (Vm.Alike.refl U.vm) q.2.2⟩, va_recv hK hPc (ci := 5) (q0 := 0) rfl rfl, fun U hU hW => ⟨rfl, hU, va_K.moved hW.alike hK⟩⟩ rfl rfl hl.1 rfl (lv_room (Nat.le_of_ble_eq_true rfl)) dMo_does_80 ⟨Nat.zero_le _, Nat.zero_le _⟩) hS (fun q _ h => hFc q h) hFc (fun u t H locs ht hvm hw hB hz8 hk8 hS => ?_)
      subst hw
      obtain ⟨hP1, hD1⟩ := hB
      rw [ht] at hP1
      obtain ⟨hP, hD⟩ := va_join (wr := [(qp, .inl (cI, 32768, .inl gp)), (qm, .inl (cI, 4096, .inl gm))]) (w1 := [(m0, .inr (5, [.int vth, .ref qt, .int vtp, .ref qp, .int vpl, .ref qr, .ref qm, .int vpc, .int vst, .int vc, .int vd, .int vs, .int vo, .int vi, .int ((f_Mo_jump vc vd vs vo vi (if (f_Mo_isWide vc) = true then (a0 + (2 : Int32)) else (a0 + (1 : Int32))) gr a0).2)])), (qr, .inl (cL, 11, .inr (.inl ((f_Mo_jump vc vd vs vo vi (if (f_Mo_isWide vc) = true then (a0 + (2 : Int32)) else (a0 + (1 : Int32))) gr a0).1))))]) hP hD [0, 2] [1, 3] rfl rfl (by decide) (by decide) hk8 hFc hP1 hD1
      have hP : va_P G vwCl [(qp, .inl (cI, 32768, .inl gp)), (qm, .inl (cI, 4096, .inl gm)), (m0, .inr (5, [.int vth, .ref qt, .int vtp, .ref qp, .int vpl, .ref qr, .ref qm, .int vpc, .int vst, .int vc, .int vd, .int vs, .int vo, .int vi, .int ((f_Mo_jump vc vd vs vo vi (if (f_Mo_isWide vc) = true then (a0 + (2 : Int32)) else (a0 + (1 : Int32))) gr a0).2)])), (qr, .inl (cL, 11, .inr (.inl ((f_Mo_jump vc vd vs vo vi (if (f_Mo_isWide vc) = true then (a0 + (2 : Int32)) else (a0 + (1 : Int32))) gr a0).1))))] H := hP
      have hD : va_D A [(qp, .inl (cI, 32768, .inl gp)), (qm, .inl (cI, 4096, .inl gm)), (m0, .inr (5, [.int vth, .ref qt, .int vtp, .ref qp, .int vpl, .ref qr, .ref qm, .int vpc, .int vst, .int vc, .int vd, .int vs, .int vo, .int vi, .int ((f_Mo_jump vc vd vs vo vi (if (f_Mo_isWide vc) = true then (a0 + (2 : Int32)) else (a0 + (1 : Int32))) gr a0).2)])), (qr, .inl (cL, 11, .inr (.inl ((f_Mo_jump vc vd vs vo vi (if (f_Mo_isWide vc) = true then (a0 + (2 : Int32)) else (a0 + (1 : Int32))) gr a0).1))))] := hD
      refine lv_iconst (v := (1 : Int32)) hx hb dMo_does_83 (by decide) ?_
      have hP9 := hP.sub (ws' := [(m0, .inr (5, [.int vth, .ref qt, .int vtp, .ref qp, .int vpl, .ref qr, .ref qm, .int vpc, .int vst, .int vc, .int vd, .int vs, .int vo, .int vi, .int ((f_Mo_jump vc vd vs vo vi (if (f_Mo_isWide vc) = true then (a0 + (2 : Int32)) else (a0 + (1 : Int32))) gr a0).2)])), (qp, .inl (cI, 32768, .inl gp)), (qr, .inl (cL, 11, .inr (.inl ((f_Mo_jump vc vd vs vo vi (if (f_Mo_isWide vc) = true then (a0 + (2 : Int32)) else (a0 + (1 : Int32))) gr a0).1)))), (qm, .inl (cI, 4096, .inl gm))]) [2, 0, 3, 1] rfl
      have hD9 := hD.sub (ws' := [(m0, .inr (5, [.int vth, .ref qt, .int vtp, .ref qp, .int vpl, .ref qr, .ref qm, .int vpc, .int vst, .int vc, .int vd, .int vs, .int vo, .int vi, .int ((f_Mo_jump vc vd vs vo vi (if (f_Mo_isWide vc) = true then (a0 + (2 : Int32)) else (a0 + (1 : Int32))) gr a0).2)])), (qp, .inl (cI, 32768, .inl gp)), (qr, .inl (cL, 11, .inr (.inl ((f_Mo_jump vc vd vs vo vi (if (f_Mo_isWide vc) = true then (a0 + (2 : Int32)) else (a0 + (1 : Int32))) gr a0).1)))), (qm, .inl (cI, 4096, .inl gm))]) [2, 0, 3, 1] (by decide) rfl
      exact W.zret (v := (1 : Int32)) hx hb hr rfl (fun t ht hW => ⟨⟨(1 : Int32), (((f_Mo_jump vc vd vs vo vi (if (f_Mo_isWide vc) = true then (a0 + (2 : Int32)) else (a0 + (1 : Int32))) gr a0).1), gm, ((f_Mo_jump vc vd vs vo vi (if (f_Mo_isWide vc) = true then (a0 + (2 : Int32)) else (a0 + (1 : Int32))) gr a0).2)), rfl, ⟨(by unfold f_Mo_does; rw [if_neg c2, if_neg c3, if_neg c4, if_neg c5, if_neg c6, if_pos c7]; try rfl), (by unfold f_Mo_does; rw [if_neg c2, if_neg c3, if_neg c4, if_neg c5, if_neg c6, if_pos c7]; try rfl)⟩, by rw [ht]; exact hP9, hD9⟩, hS.F ht⟩) hS.2.2 dMo_does_84
    by_cases c8 : (f_Mo_kind vc) = (6 : Int32)
    · skip
      refine lv_tableIn (tgt := 78) (off := 54) hx hb dMo_does_24 (by rw [c8]; decide) (by rw [c8]; decide) (by rw [c8]; rfl) (by decide) ?_
      refine lv_aload_n hx hb dMo_does_78 rfl (lv_at hl 0 rfl) ?_
      refine lv_iload_n hx hb dMo_does_79 rfl (lv_at hl 1 rfl) ?_
      have hPc := hP.sub (ws' := [(m0, .inr (5, [.int vth, .ref qt, .int vtp, .ref qp, .int vpl, .ref qr, .ref qm, .int vpc, .int vst, .int vc, .int vd, .int vs, .int vo, .int vi, .int (if (f_Mo_isWide vc) = true then (a0 + (2 : Int32)) else (a0 + (1 : Int32)))])), (qr, .inl (cL, 11, .inr (.inl gr)))]) [0, 2] rfl
      have hDc := hD.sub (ws' := [(m0, .inr (5, [.int vth, .ref qt, .int vtp, .ref qp, .int vpl, .ref qr, .ref qm, .int vpc, .int vst, .int vc, .int vd, .int vs, .int vo, .int vi, .int (if (f_Mo_isWide vc) = true then (a0 + (2 : Int32)) else (a0 + (1 : Int32)))])), (qr, .inl (cL, 11, .inr (.inl gr)))]) [0, 2] (by decide) rfl
      have hFc := va_free (wc := [(m0, .inr (5, [.int vth, .ref qt, .int vtp, .ref qp, .int vpl, .ref qr, .ref qm, .int vpc, .int vst, .int vc, .int vd, .int vs, .int vo, .int vi, .int (if (f_Mo_isWide vc) = true then (a0 + (2 : Int32)) else (a0 + (1 : Int32)))])), (qr, .inl (cL, 11, .inr (.inl gr)))]) hD hS hA [0, 2] rfl
      refine va_callv (va_runV (As := [.int a0]) (rest := []) ⟨hx, hb, hml, hown, hT⟩ (c_Mo_jump l G cB cL cI H m0 vth qt vtp qp vpl qr qm vpc vst vc vd vs vo vi (if (f_Mo_isWide vc) = true then (a0 + (2 : Int32)) else (a0 + (1 : Int32))) gr a0 hPc (hDc.weaken (fun _ _ _ _ => trivial)) hd hs) (cwV 1 hT (gB_V mw_762 mw_764 ms_21 mw_6 mw_765) rfl rfl rfl (by decide +kernel) ⟨Nat.le_of_ble_eq_true rfl, Nat.le_of_ble_eq_true rfl⟩) ⟨fun a U g mk q => ⟨q.1, q.2.1, va_K.moved (u := U) (U := U.calling g mk a) (Vm.Alike.refl U.vm) q.2.2⟩, va_recv hK hPc (ci := 5) (q0 := 0) rfl rfl, fun U hU hW => ⟨rfl, hU, va_K.moved hW.alike hK⟩⟩ rfl rfl hl.1 rfl (lv_room (Nat.le_of_ble_eq_true rfl)) dMo_does_80 ⟨Nat.zero_le _, Nat.zero_le _⟩) hS (fun q _ h => hFc q h) hFc (fun u t H locs ht hvm hw hB hz8 hk8 hS => ?_)
      subst hw
      obtain ⟨hP1, hD1⟩ := hB
      rw [ht] at hP1
      obtain ⟨hP, hD⟩ := va_join (wr := [(qp, .inl (cI, 32768, .inl gp)), (qm, .inl (cI, 4096, .inl gm))]) (w1 := [(m0, .inr (5, [.int vth, .ref qt, .int vtp, .ref qp, .int vpl, .ref qr, .ref qm, .int vpc, .int vst, .int vc, .int vd, .int vs, .int vo, .int vi, .int ((f_Mo_jump vc vd vs vo vi (if (f_Mo_isWide vc) = true then (a0 + (2 : Int32)) else (a0 + (1 : Int32))) gr a0).2)])), (qr, .inl (cL, 11, .inr (.inl ((f_Mo_jump vc vd vs vo vi (if (f_Mo_isWide vc) = true then (a0 + (2 : Int32)) else (a0 + (1 : Int32))) gr a0).1))))]) hP hD [0, 2] [1, 3] rfl rfl (by decide) (by decide) hk8 hFc hP1 hD1
      have hP : va_P G vwCl [(qp, .inl (cI, 32768, .inl gp)), (qm, .inl (cI, 4096, .inl gm)), (m0, .inr (5, [.int vth, .ref qt, .int vtp, .ref qp, .int vpl, .ref qr, .ref qm, .int vpc, .int vst, .int vc, .int vd, .int vs, .int vo, .int vi, .int ((f_Mo_jump vc vd vs vo vi (if (f_Mo_isWide vc) = true then (a0 + (2 : Int32)) else (a0 + (1 : Int32))) gr a0).2)])), (qr, .inl (cL, 11, .inr (.inl ((f_Mo_jump vc vd vs vo vi (if (f_Mo_isWide vc) = true then (a0 + (2 : Int32)) else (a0 + (1 : Int32))) gr a0).1))))] H := hP
      have hD : va_D A [(qp, .inl (cI, 32768, .inl gp)), (qm, .inl (cI, 4096, .inl gm)), (m0, .inr (5, [.int vth, .ref qt, .int vtp, .ref qp, .int vpl, .ref qr, .ref qm, .int vpc, .int vst, .int vc, .int vd, .int vs, .int vo, .int vi, .int ((f_Mo_jump vc vd vs vo vi (if (f_Mo_isWide vc) = true then (a0 + (2 : Int32)) else (a0 + (1 : Int32))) gr a0).2)])), (qr, .inl (cL, 11, .inr (.inl ((f_Mo_jump vc vd vs vo vi (if (f_Mo_isWide vc) = true then (a0 + (2 : Int32)) else (a0 + (1 : Int32))) gr a0).1))))] := hD
      refine lv_iconst (v := (1 : Int32)) hx hb dMo_does_83 (by decide) ?_
      have hP9 := hP.sub (ws' := [(m0, .inr (5, [.int vth, .ref qt, .int vtp, .ref qp, .int vpl, .ref qr, .ref qm, .int vpc, .int vst, .int vc, .int vd, .int vs, .int vo, .int vi, .int ((f_Mo_jump vc vd vs vo vi (if (f_Mo_isWide vc) = true then (a0 + (2 : Int32)) else (a0 + (1 : Int32))) gr a0).2)])), (qp, .inl (cI, 32768, .inl gp)), (qr, .inl (cL, 11, .inr (.inl ((f_Mo_jump vc vd vs vo vi (if (f_Mo_isWide vc) = true then (a0 + (2 : Int32)) else (a0 + (1 : Int32))) gr a0).1)))), (qm, .inl (cI, 4096, .inl gm))]) [2, 0, 3, 1] rfl
      have hD9 := hD.sub (ws' := [(m0, .inr (5, [.int vth, .ref qt, .int vtp, .ref qp, .int vpl, .ref qr, .ref qm, .int vpc, .int vst, .int vc, .int vd, .int vs, .int vo, .int vi, .int ((f_Mo_jump vc vd vs vo vi (if (f_Mo_isWide vc) = true then (a0 + (2 : Int32)) else (a0 + (1 : Int32))) gr a0).2)])), (qp, .inl (cI, 32768, .inl gp)), (qr, .inl (cL, 11, .inr (.inl ((f_Mo_jump vc vd vs vo vi (if (f_Mo_isWide vc) = true then (a0 + (2 : Int32)) else (a0 + (1 : Int32))) gr a0).1)))), (qm, .inl (cI, 4096, .inl gm))]) [2, 0, 3, 1] (by decide) rfl
      exact W.zret (v := (1 : Int32)) hx hb hr rfl (fun t ht hW => ⟨⟨(1 : Int32), (((f_Mo_jump vc vd vs vo vi (if (f_Mo_isWide vc) = true then (a0 + (2 : Int32)) else (a0 + (1 : Int32))) gr a0).1), gm, ((f_Mo_jump vc vd vs vo vi (if (f_Mo_isWide vc) = true then (a0 + (2 : Int32)) else (a0 + (1 : Int32))) gr a0).2)), rfl, ⟨(by unfold f_Mo_does; rw [if_neg c2, if_neg c3, if_neg c4, if_neg c5, if_neg c6, if_neg c7, if_pos c8]; try rfl), (by unfold f_Mo_does; rw [if_neg c2, if_neg c3, if_neg c4, if_neg c5, if_neg c6, if_neg c7, if_pos c8]; try rfl)⟩, by rw [ht]; exact hP9, hD9⟩, hS.F ht⟩) hS.2.2 dMo_does_84
    by_cases c9 : (f_Mo_kind vc) = (7 : Int32)
    · skip
      refine lv_tableIn (tgt := 72) (off := 48) hx hb dMo_does_24 (by rw [c9]; decide) (by rw [c9]; decide) (by rw [c9]; rfl) (by decide) ?_
      refine lv_aload_n hx hb dMo_does_72 rfl (lv_at hl 0 rfl) ?_
      have hPc := hP.sub (ws' := [(m0, .inr (5, [.int vth, .ref qt, .int vtp, .ref qp, .int vpl, .ref qr, .ref qm, .int vpc, .int vst, .int vc, .int vd, .int vs, .int vo, .int vi, .int (if (f_Mo_isWide vc) = true then (a0 + (2 : Int32)) else (a0 + (1 : Int32)))])), (qr, .inl (cL, 11, .inr (.inl gr)))]) [0, 2] rfl
      have hDc := hD.sub (ws' := [(m0, .inr (5, [.int vth, .ref qt, .int vtp, .ref qp, .int vpl, .ref qr, .ref qm, .int vpc, .int vst, .int vc, .int vd, .int vs, .int vo, .int vi, .int (if (f_Mo_isWide vc) = true then (a0 + (2 : Int32)) else (a0 + (1 : Int32)))])), (qr, .inl (cL, 11, .inr (.inl gr)))]) [0, 2] (by decide) rfl
      have hFc := va_free (wc := [(m0, .inr (5, [.int vth, .ref qt, .int vtp, .ref qp, .int vpl, .ref qr, .ref qm, .int vpc, .int vst, .int vc, .int vd, .int vs, .int vo, .int vi, .int (if (f_Mo_isWide vc) = true then (a0 + (2 : Int32)) else (a0 + (1 : Int32)))])), (qr, .inl (cL, 11, .inr (.inl gr)))]) hD hS hA [0, 2] rfl
      refine va_callv (va_runV (As := []) (rest := []) ⟨hx, hb, hml, hown, hT⟩ (c_Mo_arithmetic l G cB cL cI H m0 vth qt vtp qp vpl qr qm vpc vst vc vd vs vo vi (if (f_Mo_isWide vc) = true then (a0 + (2 : Int32)) else (a0 + (1 : Int32))) gr hPc (hDc.weaken (fun _ _ _ _ => trivial)) hd hs (hi (Or.inr c9))) (cwV 0 hT (gB_V mw_734 mw_736 ms_19 mw_6 mw_737) rfl rfl rfl (by decide +kernel) ⟨Nat.le_of_ble_eq_true rfl, Nat.le_of_ble_eq_true rfl⟩) ⟨fun a U g mk q => ⟨q.1, q.2.1, va_K.moved (u := U) (U := U.calling g mk a) (Vm.Alike.refl U.vm) q.2.2⟩, va_recv hK hPc (ci := 5) (q0 := 0) rfl rfl, fun U hU hW => ⟨rfl, hU, va_K.moved hW.alike hK⟩⟩ rfl rfl hl.1 rfl (lv_room (Nat.le_of_ble_eq_true rfl)) dMo_does_73 ⟨Nat.zero_le _, Nat.zero_le _⟩) hS (fun q _ h => hFc q h) hFc (fun u t H locs ht hvm hw hB hz8 hk8 hS => ?_)
      subst hw
      obtain ⟨hP1, hD1⟩ := hB
      rw [ht] at hP1
      obtain ⟨hP, hD⟩ := va_join (wr := [(qp, .inl (cI, 32768, .inl gp)), (qm, .inl (cI, 4096, .inl gm))]) (w1 := [(m0, .inr (5, [.int vth, .ref qt, .int vtp, .ref qp, .int vpl, .ref qr, .ref qm, .int vpc, .int vst, .int vc, .int vd, .int vs, .int vo, .int vi, .int (if (f_Mo_isWide vc) = true then (a0 + (2 : Int32)) else (a0 + (1 : Int32)))])), (qr, .inl (cL, 11, .inr (.inl ((f_Mo_arithmetic vc vd vs vo vi gr)))))]) hP hD [0, 2] [1, 3] rfl rfl (by decide) (by decide) hk8 hFc hP1 hD1
      have hP : va_P G vwCl [(qp, .inl (cI, 32768, .inl gp)), (qm, .inl (cI, 4096, .inl gm)), (m0, .inr (5, [.int vth, .ref qt, .int vtp, .ref qp, .int vpl, .ref qr, .ref qm, .int vpc, .int vst, .int vc, .int vd, .int vs, .int vo, .int vi, .int (if (f_Mo_isWide vc) = true then (a0 + (2 : Int32)) else (a0 + (1 : Int32)))])), (qr, .inl (cL, 11, .inr (.inl ((f_Mo_arithmetic vc vd vs vo vi gr)))))] H := hP
      have hD : va_D A [(qp, .inl (cI, 32768, .inl gp)), (qm, .inl (cI, 4096, .inl gm)), (m0, .inr (5, [.int vth, .ref qt, .int vtp, .ref qp, .int vpl, .ref qr, .ref qm, .int vpc, .int vst, .int vc, .int vd, .int vs, .int vo, .int vi, .int (if (f_Mo_isWide vc) = true then (a0 + (2 : Int32)) else (a0 + (1 : Int32)))])), (qr, .inl (cL, 11, .inr (.inl ((f_Mo_arithmetic vc vd vs vo vi gr)))))] := hD
      refine lv_iconst (v := (1 : Int32)) hx hb dMo_does_76 (by decide) ?_
      have hP9 := hP.sub (ws' := [(m0, .inr (5, [.int vth, .ref qt, .int vtp, .ref qp, .int vpl, .ref qr, .ref qm, .int vpc, .int vst, .int vc, .int vd, .int vs, .int vo, .int vi, .int (if (f_Mo_isWide vc) = true then (a0 + (2 : Int32)) else (a0 + (1 : Int32)))])), (qp, .inl (cI, 32768, .inl gp)), (qr, .inl (cL, 11, .inr (.inl ((f_Mo_arithmetic vc vd vs vo vi gr))))), (qm, .inl (cI, 4096, .inl gm))]) [2, 0, 3, 1] rfl
      have hD9 := hD.sub (ws' := [(m0, .inr (5, [.int vth, .ref qt, .int vtp, .ref qp, .int vpl, .ref qr, .ref qm, .int vpc, .int vst, .int vc, .int vd, .int vs, .int vo, .int vi, .int (if (f_Mo_isWide vc) = true then (a0 + (2 : Int32)) else (a0 + (1 : Int32)))])), (qp, .inl (cI, 32768, .inl gp)), (qr, .inl (cL, 11, .inr (.inl ((f_Mo_arithmetic vc vd vs vo vi gr))))), (qm, .inl (cI, 4096, .inl gm))]) [2, 0, 3, 1] (by decide) rfl
      exact W.zret (v := (1 : Int32)) hx hb hr rfl (fun t ht hW => ⟨⟨(1 : Int32), (((f_Mo_arithmetic vc vd vs vo vi gr)), gm, (if (f_Mo_isWide vc) = true then (a0 + (2 : Int32)) else (a0 + (1 : Int32)))), rfl, ⟨(by unfold f_Mo_does; rw [if_neg c2, if_neg c3, if_neg c4, if_neg c5, if_neg c6, if_neg c7, if_neg c8, if_pos c9]; try rfl), (by unfold f_Mo_does; rw [if_neg c2, if_neg c3, if_neg c4, if_neg c5, if_neg c6, if_neg c7, if_neg c8, if_pos c9]; try rfl)⟩, by rw [ht]; exact hP9, hD9⟩, hS.F ht⟩) hS.2.2 dMo_does_77
    refine lv_tableOut (tgt := 127) hx hb dMo_does_24 (by have h0 := lv_neT c2 (a := 0) (by decide); have h1 := lv_neT c3 (a := 1) (by decide); have h2 := lv_neT c4 (a := 2) (by decide); have h3 := lv_neT c5 (a := 3) (by decide); have h4 := lv_neT c6 (a := 4) (by decide); have h5 := lv_neT c7 (a := 5) (by decide); have h6 := lv_neT c8 (a := 6) (by decide); have h7 := lv_neT c9 (a := 7) (by decide); omega) (by decide) ?_
    refine lv_aload_n hx hb dMo_does_127 rfl (lv_at hl 0 rfl) ?_
    have hPc := hP.sub (ws' := [(m0, .inr (5, [.int vth, .ref qt, .int vtp, .ref qp, .int vpl, .ref qr, .ref qm, .int vpc, .int vst, .int vc, .int vd, .int vs, .int vo, .int vi, .int (if (f_Mo_isWide vc) = true then (a0 + (2 : Int32)) else (a0 + (1 : Int32)))])), (qr, .inl (cL, 11, .inr (.inl gr))), (qm, .inl (cI, 4096, .inl gm))]) [0, 2, 3] rfl
    have hDc := hD.sub (ws' := [(m0, .inr (5, [.int vth, .ref qt, .int vtp, .ref qp, .int vpl, .ref qr, .ref qm, .int vpc, .int vst, .int vc, .int vd, .int vs, .int vo, .int vi, .int (if (f_Mo_isWide vc) = true then (a0 + (2 : Int32)) else (a0 + (1 : Int32)))])), (qr, .inl (cL, 11, .inr (.inl gr))), (qm, .inl (cI, 4096, .inl gm))]) [0, 2, 3] (by decide) rfl
    have hFc := va_free (wc := [(m0, .inr (5, [.int vth, .ref qt, .int vtp, .ref qp, .int vpl, .ref qr, .ref qm, .int vpc, .int vst, .int vc, .int vd, .int vs, .int vo, .int vi, .int (if (f_Mo_isWide vc) = true then (a0 + (2 : Int32)) else (a0 + (1 : Int32)))])), (qr, .inl (cL, 11, .inr (.inl gr))), (qm, .inl (cI, 4096, .inl gm))]) hD hS hA [0, 2, 3] rfl
    refine va_calli (va_runV (As := []) (rest := []) ⟨hx, hb, hml, hown, hT⟩ (c_Mo_access l G cB cL cI H m0 vth qt vtp qp vpl qr qm vpc vst vc vd vs vo vi (if (f_Mo_isWide vc) = true then (a0 + (2 : Int32)) else (a0 + (1 : Int32))) gr gm hPc (hDc.weaken (fun _ _ _ _ => trivial)) hd hs) (cwV 0 hT (gB_V mw_776 mw_778 ms_24 mw_6 mw_779) rfl rfl rfl (by decide +kernel) ⟨Nat.le_of_ble_eq_true rfl, Nat.le_of_ble_eq_true rfl⟩) ⟨fun a U g mk q => ⟨q.1, q.2.1, va_K.moved (u := U) (U := U.calling g mk a) (Vm.Alike.refl U.vm) q.2.2⟩, va_recv hK hPc (ci := 5) (q0 := 0) rfl rfl, fun U hU hW => ⟨rfl, hU, va_K.moved hW.alike hK⟩⟩ rfl rfl hl.1 rfl (lv_room (Nat.le_of_ble_eq_true rfl)) dMo_does_128 ⟨Nat.zero_le _, Nat.zero_le _⟩) hS (fun q _ h => hFc q h) hFc (fun r u t H locs ht hvm hw hB hz8 hk8 hS => ?_)
    obtain ⟨rfl, rfl⟩ := hw
    obtain ⟨hP1, hD1⟩ := hB
    rw [ht] at hP1
    obtain ⟨hP, hD⟩ := va_join (wr := [(qp, .inl (cI, 32768, .inl gp))]) (w1 := [(m0, .inr (5, [.int vth, .ref qt, .int vtp, .ref qp, .int vpl, .ref qr, .ref qm, .int vpc, .int vst, .int vc, .int vd, .int vs, .int vo, .int vi, .int (if (f_Mo_isWide vc) = true then (a0 + (2 : Int32)) else (a0 + (1 : Int32)))])), (qr, .inl (cL, 11, .inr (.inl ((f_Mo_access vc vd vs vo vi gr gm).2.1)))), (qm, .inl (cI, 4096, .inl ((f_Mo_access vc vd vs vo vi gr gm).2.2)))]) hP hD [0, 2, 3] [1] rfl rfl (by decide) (by decide) hk8 hFc hP1 hD1
    have hP : va_P G vwCl [(qp, .inl (cI, 32768, .inl gp)), (m0, .inr (5, [.int vth, .ref qt, .int vtp, .ref qp, .int vpl, .ref qr, .ref qm, .int vpc, .int vst, .int vc, .int vd, .int vs, .int vo, .int vi, .int (if (f_Mo_isWide vc) = true then (a0 + (2 : Int32)) else (a0 + (1 : Int32)))])), (qr, .inl (cL, 11, .inr (.inl ((f_Mo_access vc vd vs vo vi gr gm).2.1)))), (qm, .inl (cI, 4096, .inl ((f_Mo_access vc vd vs vo vi gr gm).2.2)))] H := hP
    have hD : va_D A [(qp, .inl (cI, 32768, .inl gp)), (m0, .inr (5, [.int vth, .ref qt, .int vtp, .ref qp, .int vpl, .ref qr, .ref qm, .int vpc, .int vst, .int vc, .int vd, .int vs, .int vo, .int vi, .int (if (f_Mo_isWide vc) = true then (a0 + (2 : Int32)) else (a0 + (1 : Int32)))])), (qr, .inl (cL, 11, .inr (.inl ((f_Mo_access vc vd vs vo vi gr gm).2.1)))), (qm, .inl (cI, 4096, .inl ((f_Mo_access vc vd vs vo vi gr gm).2.2)))] := hD
    have hP9 := hP.sub (ws' := [(m0, .inr (5, [.int vth, .ref qt, .int vtp, .ref qp, .int vpl, .ref qr, .ref qm, .int vpc, .int vst, .int vc, .int vd, .int vs, .int vo, .int vi, .int (if (f_Mo_isWide vc) = true then (a0 + (2 : Int32)) else (a0 + (1 : Int32)))])), (qp, .inl (cI, 32768, .inl gp)), (qr, .inl (cL, 11, .inr (.inl ((f_Mo_access vc vd vs vo vi gr gm).2.1)))), (qm, .inl (cI, 4096, .inl ((f_Mo_access vc vd vs vo vi gr gm).2.2)))]) [1, 0, 2, 3] rfl
    have hD9 := hD.sub (ws' := [(m0, .inr (5, [.int vth, .ref qt, .int vtp, .ref qp, .int vpl, .ref qr, .ref qm, .int vpc, .int vst, .int vc, .int vd, .int vs, .int vo, .int vi, .int (if (f_Mo_isWide vc) = true then (a0 + (2 : Int32)) else (a0 + (1 : Int32)))])), (qp, .inl (cI, 32768, .inl gp)), (qr, .inl (cL, 11, .inr (.inl ((f_Mo_access vc vd vs vo vi gr gm).2.1)))), (qm, .inl (cI, 4096, .inl ((f_Mo_access vc vd vs vo vi gr gm).2.2)))]) [1, 0, 2, 3] (by decide) rfl
    exact W.zret (v := (bI (f_Mo_access vc vd vs vo vi gr gm).1)) hx hb hr (bI_nar _) (fun t ht hW => ⟨⟨(bI (f_Mo_access vc vd vs vo vi gr gm).1), (((f_Mo_access vc vd vs vo vi gr gm).2.1), ((f_Mo_access vc vd vs vo vi gr gm).2.2), (if (f_Mo_isWide vc) = true then (a0 + (2 : Int32)) else (a0 + (1 : Int32)))), rfl, ⟨(by unfold f_Mo_does; rw [if_neg c2, if_neg c3, if_neg c4, if_neg c5, if_neg c6, if_neg c7, if_neg c8, if_neg c9]; try rfl), (by unfold f_Mo_does; rw [if_neg c2, if_neg c3, if_neg c4, if_neg c5, if_neg c6, if_neg c7, if_neg c8, if_neg c9]; try rfl)⟩, by rw [ht]; exact hP9, hD9⟩, hS.F ht⟩) hS.2.2 dMo_does_131
  refine lv_if_eq (tgt := 14) hx hb dMo_does_5 (by decide) (fun c10 => ?_) (fun c10 => ?_)
  · have c10 := bI_z c10
    refine lv_iload_n hx hb dMo_does_14 rfl (lv_at hl 1 rfl) ?_
    refine lv_iconst (v := (1 : Int32)) hx hb dMo_does_15 (by decide) ?_
    refine lv_iadd hx hb dMo_does_16 ?_
    exact jn1 (a0 + (1 : Int32)) (by rw [if_neg c10]) _ hS
  · have c10 := bI_n c10
    refine lv_iload_n hx hb dMo_does_8 rfl (lv_at hl 1 rfl) ?_
    refine lv_iconst (v := (2 : Int32)) hx hb dMo_does_9 (by decide) ?_
    refine lv_iadd hx hb dMo_does_10 ?_
    refine lv_goto (tgt := 17) hx hb dMo_does_11 (by decide) ?_
    exact jn1 (a0 + (2 : Int32)) (by rw [if_pos c10]) _ hS
