def f_Mo_end (vtp : Int32) (a0 : Int32) : (Int32) × (Int32) :=
  ((bI (if a0 < 0 then true else (if a0 ≤ vtp then false else true))), (if (if a0 < 0 then true else (if a0 ≤ vtp then false else true)) = true then vtp else a0))
set_option maxHeartbeats 4000000 in
set_option maxRecDepth 100000 in
theorem c_Mo_end (l : Launch) (G : va_G) (cB cL cI : ClassId) (Hp : Heap) (m0 : Nat) (vth : Int32) (qt : Nat) (vtp : Int32) (qp : Nat) (vpl : Int32) (qr : Nat) (qm : Nat) (vpc : Int32) (vst : Int32) (vc : Int32) (vd : Int32) (vs : Int32) (vo : Int32) (vi : Int32) (vn : Int32) (a0 : Int32) (hP : va_P G vwCl [(m0, .inr (5, [.int vth, .ref qt, .int vtp, .ref qp, .int vpl, .ref qr, .ref qm, .int vpc, .int vst, .int vc, .int vd, .int vs, .int vo, .int vi, .int vn]))] Hp) (hD : va_D (fun _ => True) [(m0, .inr (5, [.int vth, .ref qt, .int vtp, .ref qp, .int vpl, .ref qr, .ref qm, .int vpc, .int vst, .int vc, .int vd, .int vs, .int vo, .int vi, .int vn]))]) : Met l yMo_end wsMo_end ({ frames := 0, cells := 0, slots := 0, locals := 0 }) (va_Pc [.ref m0, .int a0] (fun U => U.heap = Hp ∧ va_K G vwCl [(cB, .byte), (cL, .long), (cI, .int)] U)) (va_Qv (fun (u : (Int32) × (Int32)) => u = (f_Mo_end vtp a0)) (fun (u : (Int32) × (Int32)) t => va_P G vwCl [(m0, .inr (5, [.int (u.1), .ref qt, .int (u.2), .ref qp, .int vpl, .ref qr, .ref qm, .int vpc, .int vst, .int vc, .int vd, .int vs, .int vo, .int vi, .int vn]))] t.heap ∧ va_D (va_A [(m0, .inr (5, [.int vth, .ref qt, .int vtp, .ref qp, .int vpl, .ref qr, .ref qm, .int vpc, .int vst, .int vc, .int vd, .int vs, .int vo, .int vi, .int vn]))] Hp.size) [(m0, .inr (5, [.int (u.1), .ref qt, .int (u.2), .ref qp, .int vpl, .ref qr, .ref qm, .int vpc, .int vst, .int vc, .int vd, .int vs, .int vo, .int vi, .int vn]))]) (va_A [(m0, .inr (5, [.int vth, .ref qt, .int vtp, .ref qp, .int vpl, .ref qr, .ref qm, .int vpc, .int vst, .int vc, .int vd, .int vs, .int vo, .int vi, .int vn]))] Hp.size)) 0 0 (va_A [(m0, .inr (5, [.int vth, .ref qt, .int vtp, .ref qp, .int vpl, .ref qr, .ref qm, .int vpc, .int vst, .int vc, .int vd, .int vs, .int vo, .int vi, .int vn]))] Hp.size) := by
  refine Met.ofW (cc := cMo_end) (maxL := 2) (ret := none) (by decide) rfl ?_
  intro p e s m args below meth c s₁ B hml hv
  obtain ⟨rfl, rfl, hK⟩ := hv
  have hx := B.exec
  have hb := B.bytes
  have hr := B.returns
  have hT : ∀ w ∈ tB, w.before _ s = true := fun w h => atoms_spec (ws := wsMo_end) B.pre w (List.mem_cons_of_mem _ h)
  have hown : s.vm.findClass "CompiledProgramModel" = some m.cls := findClass_of_methodNamed B.named
  have hlocks := B.notSynchronized
  have hD := hD.self (sz := s.heap.size)
  generalize hAe : va_A [(m0, .inr (5, [.int vth, .ref qt, .int vtp, .ref qp, .int vpl, .ref qr, .ref qm, .int vpc, .int vst, .int vc, .int vd, .int vs, .int vo, .int vi, .int vn]))] s.heap.size = A at hD ⊢
  have hA : ∀ q : Nat, s.heap.size ≤ q → A q := fun q h => by rw [← hAe]; exact Or.inr h
  have hS : va_S A s.heap s.heap [] := va_S.rf
  have hl := lv_entry ([.ref m0, .int a0]) (n := 2) (Nat.le_of_ble_eq_true rfl)
  rw [lg_entry_eq]
  generalize (lg_sl ([.ref m0, .int a0]) ++ List.replicate (2 - (lg_sl ([.ref m0, .int a0])).length) Slot.unset).toArray = ls at hl ⊢
  have hl : lv_has ls 2 [(0, .ref m0), (1, .int a0)] := hl
  refine lv_aload_n hx hb dMo_end_0 rfl (lv_at hl 0 rfl) ?_
  refine lv_iload_n hx hb dMo_end_1 rfl (lv_at hl 1 rfl) ?_
  have jn1 : ∀ (x1 : Bool), x1 = (if a0 < 0 then true else (if a0 ≤ vtp then false else true)) → ∀ (locs : List Loc), va_S A s.heap s.heap locs → W p l e (headSpec wsMo_end ({ frames := 0, cells := 0, slots := 0, locals := 0 })).room s m ([.ref m0, .int a0] : List Value).toArray below meth c s.heap locs 0 0 (MQ below (va_Qv (fun (u : (Int32) × (Int32)) => u = (f_Mo_end vtp a0)) (fun (u : (Int32) × (Int32)) t => va_P G vwCl [(m0, .inr (5, [.int (u.1), .ref qt, .int (u.2), .ref qp, .int vpl, .ref qr, .ref qm, .int vpc, .int vst, .int vc, .int vd, .int vs, .int vo, .int vi, .int vn]))] t.heap ∧ va_D (A) [(m0, .inr (5, [.int (u.1), .ref qt, .int (u.2), .ref qp, .int vpl, .ref qr, .ref qm, .int vpc, .int vst, .int vc, .int vd, .int vs, .int vo, .int vi, .int vn]))]) (A)) ([.ref m0, .int a0] : List Value).toArray s 0 0 A) (F0 m 18 ls [.int (bI x1), .ref m0]) := by
    intro x1 hx1 locs hS
    subst hx1
    refine va_put (D := G) (ci := 5) (v := .int (bI (if a0 < 0 then true else (if a0 ≤ vtp then false else true)))) (ty := .int) (C := RMo) (T := TMo) (N := 15) hx hb hT inMo tyMo tyMo_ok nmMo hown hK hP hD hS 0 rfl rfl 0 (by decide) (hT _ mw_565) (fun _ h9 => h9) rfl (by decide +kernel) rfl rfl (Nat.le_of_ble_eq_true rfl) dMo_end_18 (fun H locs hP hD hS => ?_)
    have hP : va_P G vwCl [(m0, .inr (5, [.int (bI (if a0 < 0 then true else (if a0 ≤ vtp then false else true))), .ref qt, .int vtp, .ref qp, .int vpl, .ref qr, .ref qm, .int vpc, .int vst, .int vc, .int vd, .int vs, .int vo, .int vi, .int vn]))] H := hP
    have hD : va_D A [(m0, .inr (5, [.int (bI (if a0 < 0 then true else (if a0 ≤ vtp then false else true))), .ref qt, .int vtp, .ref qp, .int vpl, .ref qr, .ref qm, .int vpc, .int vst, .int vc, .int vd, .int vs, .int vo, .int vi, .int vn]))] := hD
    refine lv_aload_n hx hb dMo_end_21 rfl (lv_at hl 0 rfl) ?_
    refine lv_aload_n hx hb dMo_end_22 rfl (lv_at hl 0 rfl) ?_
    refine va_get (D := G) (ci := 5) (v := .int (bI (if a0 < 0 then true else (if a0 ≤ vtp then false else true)))) (C := RMo) (T := TMo) (N := 15) hx hb hT inMo hown hK hP 0 rfl rfl 0 (by decide) (hT _ mw_565) (fun _ h9 => h9) rfl dMo_end_23 ?_
    have jn2 : ∀ (x2 : Int32), x2 = (if (if a0 < 0 then true else (if a0 ≤ vtp then false else true)) = true then vtp else a0) → ∀ (locs : List Loc), va_S A s.heap H locs → W p l e (headSpec wsMo_end ({ frames := 0, cells := 0, slots := 0, locals := 0 })).room s m ([.ref m0, .int a0] : List Value).toArray below meth c H locs 0 0 (MQ below (va_Qv (fun (u : (Int32) × (Int32)) => u = (f_Mo_end vtp a0)) (fun (u : (Int32) × (Int32)) t => va_P G vwCl [(m0, .inr (5, [.int (u.1), .ref qt, .int (u.2), .ref qp, .int vpl, .ref qr, .ref qm, .int vpc, .int vst, .int vc, .int vd, .int vs, .int vo, .int vi, .int vn]))] t.heap ∧ va_D (A) [(m0, .inr (5, [.int (u.1), .ref qt, .int (u.2), .ref qp, .int vpl, .ref qr, .ref qm, .int vpc, .int vst, .int vc, .int vd, .int vs, .int vo, .int vi, .int vn]))]) (A)) ([.ref m0, .int a0] : List Value).toArray s 0 0 A) (F0 m 37 ls [.int x2, .ref m0]) := by
      intro x2 hx2 locs hS
      subst hx2
      refine va_put (D := G) (ci := 5) (v := .int (if (if a0 < 0 then true else (if a0 ≤ vtp then false else true)) = true then vtp else a0)) (ty := .int) (C := RMo) (T := TMo) (N := 15) hx hb hT inMo tyMo tyMo_ok nmMo hown hK hP hD hS 0 rfl rfl 2 (by decide) (hT _ mw_567) (fun _ h9 => h9) rfl (by decide +kernel) rfl rfl (Nat.le_of_ble_eq_true rfl) dMo_end_37 (fun H locs hP hD hS => ?_)
      have hP : va_P G vwCl [(m0, .inr (5, [.int (bI (if a0 < 0 then true else (if a0 ≤ vtp then false else true))), .ref qt, .int (if (if a0 < 0 then true else (if a0 ≤ vtp then false else true)) = true then vtp else a0), .ref qp, .int vpl, .ref qr, .ref qm, .int vpc, .int vst, .int vc, .int vd, .int vs, .int vo, .int vi, .int vn]))] H := hP
      have hD : va_D A [(m0, .inr (5, [.int (bI (if a0 < 0 then true else (if a0 ≤ vtp then false else true))), .ref qt, .int (if (if a0 < 0 then true else (if a0 ≤ vtp then false else true)) = true then vtp else a0), .ref qp, .int vpl, .ref qr, .ref qm, .int vpc, .int vst, .int vc, .int vd, .int vs, .int vo, .int vi, .int vn]))] := hD
      have hP9 := hP.sub (ws' := [(m0, .inr (5, [.int (bI (if a0 < 0 then true else (if a0 ≤ vtp then false else true))), .ref qt, .int (if (if a0 < 0 then true else (if a0 ≤ vtp then false else true)) = true then vtp else a0), .ref qp, .int vpl, .ref qr, .ref qm, .int vpc, .int vst, .int vc, .int vd, .int vs, .int vo, .int vi, .int vn]))]) [0] rfl
      have hD9 := hD.sub (ws' := [(m0, .inr (5, [.int (bI (if a0 < 0 then true else (if a0 ≤ vtp then false else true))), .ref qt, .int (if (if a0 < 0 then true else (if a0 ≤ vtp then false else true)) = true then vtp else a0), .ref qp, .int vpl, .ref qr, .ref qm, .int vpc, .int vst, .int vc, .int vd, .int vs, .int vo, .int vi, .int vn]))]) [0] (by decide) rfl
      exact W.vret hx hb hr (fun t ht hW => ⟨⟨((bI (if a0 < 0 then true else (if a0 ≤ vtp then false else true))), (if (if a0 < 0 then true else (if a0 ≤ vtp then false else true)) = true then vtp else a0)), rfl, rfl, by rw [ht]; exact hP9, hD9⟩, hS.F ht⟩) hS.2.2 dMo_end_40
    refine lv_if_le (tgt := 36) hx hb dMo_end_26 (by decide) (fun c3 => ?_) (fun c3 => ?_)
    · have c3 := bI_lez c3
      refine lv_iload_n hx hb dMo_end_36 rfl (lv_at hl 1 rfl) ?_
      exact jn2 a0 (by rw [if_neg c3]) _ hS
    · have c3 := bI_len c3
      refine lv_aload_n hx hb dMo_end_29 rfl (lv_at hl 0 rfl) ?_
      refine va_get (D := G) (ci := 5) (v := .int vtp) (C := RMo) (T := TMo) (N := 15) hx hb hT inMo hown hK hP 0 rfl rfl 2 (by decide) (hT _ mw_567) (fun _ h9 => h9) rfl dMo_end_30 ?_
      refine lv_goto (tgt := 37) hx hb dMo_end_33 (by decide) ?_
      exact jn2 vtp (by rw [if_pos c3]) _ hS
  refine lv_if_lt (tgt := 13) hx hb dMo_end_2 (by decide) (fun c4 => ?_) (fun c4 => ?_)
  · skip
    refine lv_iconst (v := (1 : Int32)) hx hb dMo_end_13 (by decide) ?_
    refine lv_goto (tgt := 18) hx hb dMo_end_14 (by decide) ?_
    exact jn1 true (by rw [if_pos c4]) _ hS
  · skip
    refine lv_iload_n hx hb dMo_end_5 rfl (lv_at hl 1 rfl) ?_
    refine lv_aload_n hx hb dMo_end_6 rfl (lv_at hl 0 rfl) ?_
    refine va_get (D := G) (ci := 5) (v := .int vtp) (C := RMo) (T := TMo) (N := 15) hx hb hT inMo hown hK hP 0 rfl rfl 2 (by decide) (hT _ mw_567) (fun _ h9 => h9) rfl dMo_end_7 ?_
    refine lv_icmp_le (tgt := 17) hx hb dMo_end_10 (by decide) (fun c5 => ?_) (fun c5 => ?_)
    · skip
      refine lv_iconst (v := (0 : Int32)) hx hb dMo_end_17 (by decide) ?_
      exact jn1 false (by rw [if_neg c4, if_pos c5]) _ hS
    · skip
      refine lv_iconst (v := (1 : Int32)) hx hb dMo_end_13 (by decide) ?_
      refine lv_goto (tgt := 18) hx hb dMo_end_14 (by decide) ?_
      exact jn1 true (by rw [if_neg c4, if_neg c5]) _ hS

def f_Mo_places (vpl : Int32) : Int32 × (Int32) :=
  (vpl, (0 : Int32))
set_option maxHeartbeats 4000000 in
set_option maxRecDepth 100000 in
theorem c_Mo_places (l : Launch) (G : va_G) (cB cL cI : ClassId) (Hp : Heap) (m0 : Nat) (vth : Int32) (qt : Nat) (vtp : Int32) (qp : Nat) (vpl : Int32) (qr : Nat) (qm : Nat) (vpc : Int32) (vst : Int32) (vc : Int32) (vd : Int32) (vs : Int32) (vo : Int32) (vi : Int32) (vn : Int32) (hP : va_P G vwCl [(m0, .inr (5, [.int vth, .ref qt, .int vtp, .ref qp, .int vpl, .ref qr, .ref qm, .int vpc, .int vst, .int vc, .int vd, .int vs, .int vo, .int vi, .int vn]))] Hp) (hD : va_D (fun _ => True) [(m0, .inr (5, [.int vth, .ref qt, .int vtp, .ref qp, .int vpl, .ref qr, .ref qm, .int vpc, .int vst, .int vc, .int vd, .int vs, .int vo, .int vi, .int vn]))]) : Met l yMo_places wsMo_places ({ frames := 0, cells := 0, slots := 0, locals := 0 }) (va_Pc [.ref m0] (fun U => U.heap = Hp ∧ va_K G vwCl [(cB, .byte), (cL, .long), (cI, .int)] U)) (va_Qi (fun (r : Int32) (u : (Int32)) => (r, u) = (f_Mo_places vpl)) (fun (u : (Int32)) t => va_P G vwCl [(m0, .inr (5, [.int (u), .ref qt, .int vtp, .ref qp, .int vpl, .ref qr, .ref qm, .int vpc, .int vst, .int vc, .int vd, .int vs, .int vo, .int vi, .int vn]))] t.heap ∧ va_D (va_A [(m0, .inr (5, [.int vth, .ref qt, .int vtp, .ref qp, .int vpl, .ref qr, .ref qm, .int vpc, .int vst, .int vc, .int vd, .int vs, .int vo, .int vi, .int vn]))] Hp.size) [(m0, .inr (5, [.int (u), .ref qt, .int vtp, .ref qp, .int vpl, .ref qr, .ref qm, .int vpc, .int vst, .int vc, .int vd, .int vs, .int vo, .int vi, .int vn]))]) (va_A [(m0, .inr (5, [.int vth, .ref qt, .int vtp, .ref qp, .int vpl, .ref qr, .ref qm, .int vpc, .int vst, .int vc, .int vd, .int vs, .int vo, .int vi, .int vn]))] Hp.size)) 0 0 (va_A [(m0, .inr (5, [.int vth, .ref qt, .int vtp, .ref qp, .int vpl, .ref qr, .ref qm, .int vpc, .int vst, .int vc, .int vd, .int vs, .int vo, .int vi, .int vn]))] Hp.size) := by
  refine Met.ofW (cc := cMo_places) (maxL := 1) (ret := (some .int)) (by decide) rfl ?_
  intro p e s m args below meth c s₁ B hml hv
  obtain ⟨rfl, rfl, hK⟩ := hv
  have hx := B.exec
  have hb := B.bytes
  have hr := B.returns
  have hT : ∀ w ∈ tB, w.before _ s = true := fun w h => atoms_spec (ws := wsMo_places) B.pre w (List.mem_cons_of_mem _ h)
  have hown : s.vm.findClass "CompiledProgramModel" = some m.cls := findClass_of_methodNamed B.named
  have hlocks := B.notSynchronized
  have hD := hD.self (sz := s.heap.size)
  generalize hAe : va_A [(m0, .inr (5, [.int vth, .ref qt, .int vtp, .ref qp, .int vpl, .ref qr, .ref qm, .int vpc, .int vst, .int vc, .int vd, .int vs, .int vo, .int vi, .int vn]))] s.heap.size = A at hD ⊢
  have hA : ∀ q : Nat, s.heap.size ≤ q → A q := fun q h => by rw [← hAe]; exact Or.inr h
  have hS : va_S A s.heap s.heap [] := va_S.rf
  have hl := lv_entry ([.ref m0]) (n := 1) (Nat.le_of_ble_eq_true rfl)
  rw [lg_entry_eq]
  generalize (lg_sl ([.ref m0]) ++ List.replicate (1 - (lg_sl ([.ref m0])).length) Slot.unset).toArray = ls at hl ⊢
  have hl : lv_has ls 1 [(0, .ref m0)] := hl
  refine lv_aload_n hx hb dMo_places_0 rfl (lv_at hl 0 rfl) ?_
  refine lv_iconst (v := (0 : Int32)) hx hb dMo_places_1 (by decide) ?_
  refine va_put (D := G) (ci := 5) (v := .int (0 : Int32)) (ty := .int) (C := RMo) (T := TMo) (N := 15) hx hb hT inMo tyMo tyMo_ok nmMo hown hK hP hD hS 0 rfl rfl 0 (by decide) (hT _ mw_565) (fun _ h9 => h9) rfl (by decide +kernel) rfl rfl (Nat.le_of_ble_eq_true rfl) dMo_places_2 (fun H locs hP hD hS => ?_)
  have hP : va_P G vwCl [(m0, .inr (5, [.int (0 : Int32), .ref qt, .int vtp, .ref qp, .int vpl, .ref qr, .ref qm, .int vpc, .int vst, .int vc, .int vd, .int vs, .int vo, .int vi, .int vn]))] H := hP
  have hD : va_D A [(m0, .inr (5, [.int (0 : Int32), .ref qt, .int vtp, .ref qp, .int vpl, .ref qr, .ref qm, .int vpc, .int vst, .int vc, .int vd, .int vs, .int vo, .int vi, .int vn]))] := hD
  refine lv_aload_n hx hb dMo_places_5 rfl (lv_at hl 0 rfl) ?_
  refine va_get (D := G) (ci := 5) (v := .int vpl) (C := RMo) (T := TMo) (N := 15) hx hb hT inMo hown hK hP 0 rfl rfl 4 (by decide) (hT _ mw_569) (fun _ h9 => h9) rfl dMo_places_6 ?_
  have hP9 := hP.sub (ws' := [(m0, .inr (5, [.int (0 : Int32), .ref qt, .int vtp, .ref qp, .int vpl, .ref qr, .ref qm, .int vpc, .int vst, .int vc, .int vd, .int vs, .int vo, .int vi, .int vn]))]) [0] rfl
  have hD9 := hD.sub (ws' := [(m0, .inr (5, [.int (0 : Int32), .ref qt, .int vtp, .ref qp, .int vpl, .ref qr, .ref qm, .int vpc, .int vst, .int vc, .int vd, .int vs, .int vo, .int vi, .int vn]))]) [0] (by decide) rfl
  exact W.iret (v := vpl) hx hb hr (fun t ht hW => ⟨⟨vpl, ((0 : Int32)), rfl, rfl, by rw [ht]; exact hP9, hD9⟩, hS.F ht⟩) hS.2.2 dMo_places_9

def f_Mo_place (vpc : Int32) : Int32 × (Int32) :=
  (vpc, (0 : Int32))
set_option maxHeartbeats 4000000 in
set_option maxRecDepth 100000 in
theorem c_Mo_place (l : Launch) (G : va_G) (cB cL cI : ClassId) (Hp : Heap) (m0 : Nat) (vth : Int32) (qt : Nat) (vtp : Int32) (qp : Nat) (vpl : Int32) (qr : Nat) (qm : Nat) (vpc : Int32) (vst : Int32) (vc : Int32) (vd : Int32) (vs : Int32) (vo : Int32) (vi : Int32) (vn : Int32) (hP : va_P G vwCl [(m0, .inr (5, [.int vth, .ref qt, .int vtp, .ref qp, .int vpl, .ref qr, .ref qm, .int vpc, .int vst, .int vc, .int vd, .int vs, .int vo, .int vi, .int vn]))] Hp) (hD : va_D (fun _ => True) [(m0, .inr (5, [.int vth, .ref qt, .int vtp, .ref qp, .int vpl, .ref qr, .ref qm, .int vpc, .int vst, .int vc, .int vd, .int vs, .int vo, .int vi, .int vn]))]) : Met l yMo_place wsMo_place ({ frames := 0, cells := 0, slots := 0, locals := 0 }) (va_Pc [.ref m0] (fun U => U.heap = Hp ∧ va_K G vwCl [(cB, .byte), (cL, .long), (cI, .int)] U)) (va_Qi (fun (r : Int32) (u : (Int32)) => (r, u) = (f_Mo_place vpc)) (fun (u : (Int32)) t => va_P G vwCl [(m0, .inr (5, [.int (u), .ref qt, .int vtp, .ref qp, .int vpl, .ref qr, .ref qm, .int vpc, .int vst, .int vc, .int vd, .int vs, .int vo, .int vi, .int vn]))] t.heap ∧ va_D (va_A [(m0, .inr (5, [.int vth, .ref qt, .int vtp, .ref qp, .int vpl, .ref qr, .ref qm, .int vpc, .int vst, .int vc, .int vd, .int vs, .int vo, .int vi, .int vn]))] Hp.size) [(m0, .inr (5, [.int (u), .ref qt, .int vtp, .ref qp, .int vpl, .ref qr, .ref qm, .int vpc, .int vst, .int vc, .int vd, .int vs, .int vo, .int vi, .int vn]))]) (va_A [(m0, .inr (5, [.int vth, .ref qt, .int vtp, .ref qp, .int vpl, .ref qr, .ref qm, .int vpc, .int vst, .int vc, .int vd, .int vs, .int vo, .int vi, .int vn]))] Hp.size)) 0 0 (va_A [(m0, .inr (5, [.int vth, .ref qt, .int vtp, .ref qp, .int vpl, .ref qr, .ref qm, .int vpc, .int vst, .int vc, .int vd, .int vs, .int vo, .int vi, .int vn]))] Hp.size) := by
  refine Met.ofW (cc := cMo_place) (maxL := 1) (ret := (some .int)) (by decide) rfl ?_
  intro p e s m args below meth c s₁ B hml hv
  obtain ⟨rfl, rfl, hK⟩ := hv
  have hx := B.exec
  have hb := B.bytes
  have hr := B.returns
  have hT : ∀ w ∈ tB, w.before _ s = true := fun w h => atoms_spec (ws := wsMo_place) B.pre w (List.mem_cons_of_mem _ h)
  have hown : s.vm.findClass "CompiledProgramModel" = some m.cls := findClass_of_methodNamed B.named
  have hlocks := B.notSynchronized
  have hD := hD.self (sz := s.heap.size)
  generalize hAe : va_A [(m0, .inr (5, [.int vth, .ref qt, .int vtp, .ref qp, .int vpl, .ref qr, .ref qm, .int vpc, .int vst, .int vc, .int vd, .int vs, .int vo, .int vi, .int vn]))] s.heap.size = A at hD ⊢
  have hA : ∀ q : Nat, s.heap.size ≤ q → A q := fun q h => by rw [← hAe]; exact Or.inr h
  have hS : va_S A s.heap s.heap [] := va_S.rf
  have hl := lv_entry ([.ref m0]) (n := 1) (Nat.le_of_ble_eq_true rfl)
  rw [lg_entry_eq]
  generalize (lg_sl ([.ref m0]) ++ List.replicate (1 - (lg_sl ([.ref m0])).length) Slot.unset).toArray = ls at hl ⊢
  have hl : lv_has ls 1 [(0, .ref m0)] := hl
  refine lv_aload_n hx hb dMo_place_0 rfl (lv_at hl 0 rfl) ?_
  refine lv_iconst (v := (0 : Int32)) hx hb dMo_place_1 (by decide) ?_
  refine va_put (D := G) (ci := 5) (v := .int (0 : Int32)) (ty := .int) (C := RMo) (T := TMo) (N := 15) hx hb hT inMo tyMo tyMo_ok nmMo hown hK hP hD hS 0 rfl rfl 0 (by decide) (hT _ mw_565) (fun _ h9 => h9) rfl (by decide +kernel) rfl rfl (Nat.le_of_ble_eq_true rfl) dMo_place_2 (fun H locs hP hD hS => ?_)
  have hP : va_P G vwCl [(m0, .inr (5, [.int (0 : Int32), .ref qt, .int vtp, .ref qp, .int vpl, .ref qr, .ref qm, .int vpc, .int vst, .int vc, .int vd, .int vs, .int vo, .int vi, .int vn]))] H := hP
  have hD : va_D A [(m0, .inr (5, [.int (0 : Int32), .ref qt, .int vtp, .ref qp, .int vpl, .ref qr, .ref qm, .int vpc, .int vst, .int vc, .int vd, .int vs, .int vo, .int vi, .int vn]))] := hD
  refine lv_aload_n hx hb dMo_place_5 rfl (lv_at hl 0 rfl) ?_
  refine va_get (D := G) (ci := 5) (v := .int vpc) (C := RMo) (T := TMo) (N := 15) hx hb hT inMo hown hK hP 0 rfl rfl 7 (by decide) (hT _ mw_572) (fun _ h9 => h9) rfl dMo_place_6 ?_
  have hP9 := hP.sub (ws' := [(m0, .inr (5, [.int (0 : Int32), .ref qt, .int vtp, .ref qp, .int vpl, .ref qr, .ref qm, .int vpc, .int vst, .int vc, .int vd, .int vs, .int vo, .int vi, .int vn]))]) [0] rfl
  have hD9 := hD.sub (ws' := [(m0, .inr (5, [.int (0 : Int32), .ref qt, .int vtp, .ref qp, .int vpl, .ref qr, .ref qm, .int vpc, .int vst, .int vc, .int vd, .int vs, .int vo, .int vi, .int vn]))]) [0] (by decide) rfl
  exact W.iret (v := vpc) hx hb hr (fun t ht hW => ⟨⟨vpc, ((0 : Int32)), rfl, rfl, by rw [ht]; exact hP9, hD9⟩, hS.F ht⟩) hS.2.2 dMo_place_9

def f_Mo_steps (vst : Int32) : Int32 × (Int32) :=
  (vst, (0 : Int32))
set_option maxHeartbeats 4000000 in
set_option maxRecDepth 100000 in
theorem c_Mo_steps (l : Launch) (G : va_G) (cB cL cI : ClassId) (Hp : Heap) (m0 : Nat) (vth : Int32) (qt : Nat) (vtp : Int32) (qp : Nat) (vpl : Int32) (qr : Nat) (qm : Nat) (vpc : Int32) (vst : Int32) (vc : Int32) (vd : Int32) (vs : Int32) (vo : Int32) (vi : Int32) (vn : Int32) (hP : va_P G vwCl [(m0, .inr (5, [.int vth, .ref qt, .int vtp, .ref qp, .int vpl, .ref qr, .ref qm, .int vpc, .int vst, .int vc, .int vd, .int vs, .int vo, .int vi, .int vn]))] Hp) (hD : va_D (fun _ => True) [(m0, .inr (5, [.int vth, .ref qt, .int vtp, .ref qp, .int vpl, .ref qr, .ref qm, .int vpc, .int vst, .int vc, .int vd, .int vs, .int vo, .int vi, .int vn]))]) : Met l yMo_steps wsMo_steps ({ frames := 0, cells := 0, slots := 0, locals := 0 }) (va_Pc [.ref m0] (fun U => U.heap = Hp ∧ va_K G vwCl [(cB, .byte), (cL, .long), (cI, .int)] U)) (va_Qi (fun (r : Int32) (u : (Int32)) => (r, u) = (f_Mo_steps vst)) (fun (u : (Int32)) t => va_P G vwCl [(m0, .inr (5, [.int (u), .ref qt, .int vtp, .ref qp, .int vpl, .ref qr, .ref qm, .int vpc, .int vst, .int vc, .int vd, .int vs, .int vo, .int vi, .int vn]))] t.heap ∧ va_D (va_A [(m0, .inr (5, [.int vth, .ref qt, .int vtp, .ref qp, .int vpl, .ref qr, .ref qm, .int vpc, .int vst, .int vc, .int vd, .int vs, .int vo, .int vi, .int vn]))] Hp.size) [(m0, .inr (5, [.int (u), .ref qt, .int vtp, .ref qp, .int vpl, .ref qr, .ref qm, .int vpc, .int vst, .int vc, .int vd, .int vs, .int vo, .int vi, .int vn]))]) (va_A [(m0, .inr (5, [.int vth, .ref qt, .int vtp, .ref qp, .int vpl, .ref qr, .ref qm, .int vpc, .int vst, .int vc, .int vd, .int vs, .int vo, .int vi, .int vn]))] Hp.size)) 0 0 (va_A [(m0, .inr (5, [.int vth, .ref qt, .int vtp, .ref qp, .int vpl, .ref qr, .ref qm, .int vpc, .int vst, .int vc, .int vd, .int vs, .int vo, .int vi, .int vn]))] Hp.size) := by
  refine Met.ofW (cc := cMo_steps) (maxL := 1) (ret := (some .int)) (by decide) rfl ?_
  intro p e s m args below meth c s₁ B hml hv
  obtain ⟨rfl, rfl, hK⟩ := hv
  have hx := B.exec
  have hb := B.bytes
  have hr := B.returns
  have hT : ∀ w ∈ tB, w.before _ s = true := fun w h => atoms_spec (ws := wsMo_steps) B.pre w (List.mem_cons_of_mem _ h)
  have hown : s.vm.findClass "CompiledProgramModel" = some m.cls := findClass_of_methodNamed B.named
  have hlocks := B.notSynchronized
  have hD := hD.self (sz := s.heap.size)
  generalize hAe : va_A [(m0, .inr (5, [.int vth, .ref qt, .int vtp, .ref qp, .int vpl, .ref qr, .ref qm, .int vpc, .int vst, .int vc, .int vd, .int vs, .int vo, .int vi, .int vn]))] s.heap.size = A at hD ⊢
  have hA : ∀ q : Nat, s.heap.size ≤ q → A q := fun q h => by rw [← hAe]; exact Or.inr h
  have hS : va_S A s.heap s.heap [] := va_S.rf
  have hl := lv_entry ([.ref m0]) (n := 1) (Nat.le_of_ble_eq_true rfl)
  rw [lg_entry_eq]
  generalize (lg_sl ([.ref m0]) ++ List.replicate (1 - (lg_sl ([.ref m0])).length) Slot.unset).toArray = ls at hl ⊢
  have hl : lv_has ls 1 [(0, .ref m0)] := hl
  refine lv_aload_n hx hb dMo_steps_0 rfl (lv_at hl 0 rfl) ?_
  refine lv_iconst (v := (0 : Int32)) hx hb dMo_steps_1 (by decide) ?_
  refine va_put (D := G) (ci := 5) (v := .int (0 : Int32)) (ty := .int) (C := RMo) (T := TMo) (N := 15) hx hb hT inMo tyMo tyMo_ok nmMo hown hK hP hD hS 0 rfl rfl 0 (by decide) (hT _ mw_565) (fun _ h9 => h9) rfl (by decide +kernel) rfl rfl (Nat.le_of_ble_eq_true rfl) dMo_steps_2 (fun H locs hP hD hS => ?_)
  have hP : va_P G vwCl [(m0, .inr (5, [.int (0 : Int32), .ref qt, .int vtp, .ref qp, .int vpl, .ref qr, .ref qm, .int vpc, .int vst, .int vc, .int vd, .int vs, .int vo, .int vi, .int vn]))] H := hP
  have hD : va_D A [(m0, .inr (5, [.int (0 : Int32), .ref qt, .int vtp, .ref qp, .int vpl, .ref qr, .ref qm, .int vpc, .int vst, .int vc, .int vd, .int vs, .int vo, .int vi, .int vn]))] := hD
  refine lv_aload_n hx hb dMo_steps_5 rfl (lv_at hl 0 rfl) ?_
  refine va_get (D := G) (ci := 5) (v := .int vst) (C := RMo) (T := TMo) (N := 15) hx hb hT inMo hown hK hP 0 rfl rfl 8 (by decide) (hT _ mw_573) (fun _ h9 => h9) rfl dMo_steps_6 ?_
  have hP9 := hP.sub (ws' := [(m0, .inr (5, [.int (0 : Int32), .ref qt, .int vtp, .ref qp, .int vpl, .ref qr, .ref qm, .int vpc, .int vst, .int vc, .int vd, .int vs, .int vo, .int vi, .int vn]))]) [0] rfl
  have hD9 := hD.sub (ws' := [(m0, .inr (5, [.int (0 : Int32), .ref qt, .int vtp, .ref qp, .int vpl, .ref qr, .ref qm, .int vpc, .int vst, .int vc, .int vd, .int vs, .int vo, .int vi, .int vn]))]) [0] (by decide) rfl
  exact W.iret (v := vst) hx hb hr (fun t ht hW => ⟨⟨vst, ((0 : Int32)), rfl, rfl, by rw [ht]; exact hP9, hD9⟩, hS.F ht⟩) hS.2.2 dMo_steps_9

def f_Mo_set (gr : Nat → Int64) (a0 : Int32) (a1 : Int64) : (Int32) × (Nat → Int64) :=
  if (if a0 < 0 then true else (if a0 ≤ (10 : Int32) then false else true)) = true then
    ((bI (if a0 < 0 then true else (if a0 ≤ (10 : Int32) then false else true))), gr)
  else
    ((bI (if a0 < 0 then true else (if a0 ≤ (10 : Int32) then false else true))), (vp_updL gr a0.toNatClampNeg a1))
set_option maxHeartbeats 4000000 in
set_option maxRecDepth 100000 in
theorem c_Mo_set (l : Launch) (G : va_G) (cB cL cI : ClassId) (Hp : Heap) (m0 : Nat) (vth : Int32) (qt : Nat) (vtp : Int32) (qp : Nat) (vpl : Int32) (qr : Nat) (qm : Nat) (vpc : Int32) (vst : Int32) (vc : Int32) (vd : Int32) (vs : Int32) (vo : Int32) (vi : Int32) (vn : Int32) (gr : Nat → Int64) (a0 : Int32) (a1 : Int64) (hP : va_P G vwCl [(m0, .inr (5, [.int vth, .ref qt, .int vtp, .ref qp, .int vpl, .ref qr, .ref qm, .int vpc, .int vst, .int vc, .int vd, .int vs, .int vo, .int vi, .int vn])), (qr, .inl (cL, 11, .inr (.inl gr)))] Hp) (hD : va_D (fun _ => True) [(m0, .inr (5, [.int vth, .ref qt, .int vtp, .ref qp, .int vpl, .ref qr, .ref qm, .int vpc, .int vst, .int vc, .int vd, .int vs, .int vo, .int vi, .int vn])), (qr, .inl (cL, 11, .inr (.inl gr)))]) : Met l yMo_set wsMo_set ({ frames := 0, cells := 0, slots := 0, locals := 0 }) (va_Pc [.ref m0, .int a0, .long a1] (fun U => U.heap = Hp ∧ va_K G vwCl [(cB, .byte), (cL, .long), (cI, .int)] U)) (va_Qv (fun (u : (Int32) × (Nat → Int64)) => u = (f_Mo_set gr a0 a1)) (fun (u : (Int32) × (Nat → Int64)) t => va_P G vwCl [(m0, .inr (5, [.int (u.1), .ref qt, .int vtp, .ref qp, .int vpl, .ref qr, .ref qm, .int vpc, .int vst, .int vc, .int vd, .int vs, .int vo, .int vi, .int vn])), (qr, .inl (cL, 11, .inr (.inl (u.2))))] t.heap ∧ va_D (va_A [(m0, .inr (5, [.int vth, .ref qt, .int vtp, .ref qp, .int vpl, .ref qr, .ref qm, .int vpc, .int vst, .int vc, .int vd, .int vs, .int vo, .int vi, .int vn])), (qr, .inl (cL, 11, .inr (.inl gr)))] Hp.size) [(m0, .inr (5, [.int (u.1), .ref qt, .int vtp, .ref qp, .int vpl, .ref qr, .ref qm, .int vpc, .int vst, .int vc, .int vd, .int vs, .int vo, .int vi, .int vn])), (qr, .inl (cL, 11, .inr (.inl (u.2))))]) (va_A [(m0, .inr (5, [.int vth, .ref qt, .int vtp, .ref qp, .int vpl, .ref qr, .ref qm, .int vpc, .int vst, .int vc, .int vd, .int vs, .int vo, .int vi, .int vn])), (qr, .inl (cL, 11, .inr (.inl gr)))] Hp.size)) 0 0 (va_A [(m0, .inr (5, [.int vth, .ref qt, .int vtp, .ref qp, .int vpl, .ref qr, .ref qm, .int vpc, .int vst, .int vc, .int vd, .int vs, .int vo, .int vi, .int vn])), (qr, .inl (cL, 11, .inr (.inl gr)))] Hp.size) := by
  refine Met.ofW (cc := cMo_set) (maxL := 4) (ret := none) (by decide) rfl ?_
  intro p e s m args below meth c s₁ B hml hv
  obtain ⟨rfl, rfl, hK⟩ := hv
  have hx := B.exec
  have hb := B.bytes
  have hr := B.returns
  have hT : ∀ w ∈ tB, w.before _ s = true := fun w h => atoms_spec (ws := wsMo_set) B.pre w (List.mem_cons_of_mem _ h)
  have hown : s.vm.findClass "CompiledProgramModel" = some m.cls := findClass_of_methodNamed B.named
  have hlocks := B.notSynchronized
  have hD := hD.self (sz := s.heap.size)
  generalize hAe : va_A [(m0, .inr (5, [.int vth, .ref qt, .int vtp, .ref qp, .int vpl, .ref qr, .ref qm, .int vpc, .int vst, .int vc, .int vd, .int vs, .int vo, .int vi, .int vn])), (qr, .inl (cL, 11, .inr (.inl gr)))] s.heap.size = A at hD ⊢
  have hA : ∀ q : Nat, s.heap.size ≤ q → A q := fun q h => by rw [← hAe]; exact Or.inr h
  have hS : va_S A s.heap s.heap [] := va_S.rf
  have hl := lv_entry ([.ref m0, .int a0, .long a1]) (n := 4) (Nat.le_of_ble_eq_true rfl)
  rw [lg_entry_eq]
  generalize (lg_sl ([.ref m0, .int a0, .long a1]) ++ List.replicate (4 - (lg_sl ([.ref m0, .int a0, .long a1])).length) Slot.unset).toArray = ls at hl ⊢
  have hl : lv_has ls 4 [(0, .ref m0), (1, .int a0), (2, .long a1)] := hl
  refine lv_aload_n hx hb dMo_set_0 rfl (lv_at hl 0 rfl) ?_
  refine lv_iload_n hx hb dMo_set_1 rfl (lv_at hl 1 rfl) ?_
  have jn1 : ∀ (x1 : Bool), x1 = (if a0 < 0 then true else (if a0 ≤ (10 : Int32) then false else true)) → ∀ (locs : List Loc), va_S A s.heap s.heap locs → W p l e (headSpec wsMo_set ({ frames := 0, cells := 0, slots := 0, locals := 0 })).room s m ([.ref m0, .int a0, .long a1] : List Value).toArray below meth c s.heap locs 0 0 (MQ below (va_Qv (fun (u : (Int32) × (Nat → Int64)) => u = (f_Mo_set gr a0 a1)) (fun (u : (Int32) × (Nat → Int64)) t => va_P G vwCl [(m0, .inr (5, [.int (u.1), .ref qt, .int vtp, .ref qp, .int vpl, .ref qr, .ref qm, .int vpc, .int vst, .int vc, .int vd, .int vs, .int vo, .int vi, .int vn])), (qr, .inl (cL, 11, .inr (.inl (u.2))))] t.heap ∧ va_D (A) [(m0, .inr (5, [.int (u.1), .ref qt, .int vtp, .ref qp, .int vpl, .ref qr, .ref qm, .int vpc, .int vst, .int vc, .int vd, .int vs, .int vo, .int vi, .int vn])), (qr, .inl (cL, 11, .inr (.inl (u.2))))]) (A)) ([.ref m0, .int a0, .long a1] : List Value).toArray s 0 0 A) (F0 m 16 ls [.int (bI x1), .ref m0]) := by
    intro x1 hx1 locs hS
    subst hx1
    refine va_put (D := G) (ci := 5) (v := .int (bI (if a0 < 0 then true else (if a0 ≤ (10 : Int32) then false else true)))) (ty := .int) (C := RMo) (T := TMo) (N := 15) hx hb hT inMo tyMo tyMo_ok nmMo hown hK hP hD hS 0 rfl rfl 0 (by decide) (hT _ mw_565) (fun _ h9 => h9) rfl (by decide +kernel) rfl rfl (Nat.le_of_ble_eq_true rfl) dMo_set_16 (fun H locs hP hD hS => ?_)
    have hP : va_P G vwCl [(m0, .inr (5, [.int (bI (if a0 < 0 then true else (if a0 ≤ (10 : Int32) then false else true))), .ref qt, .int vtp, .ref qp, .int vpl, .ref qr, .ref qm, .int vpc, .int vst, .int vc, .int vd, .int vs, .int vo, .int vi, .int vn])), (qr, .inl (cL, 11, .inr (.inl gr)))] H := hP
    have hD : va_D A [(m0, .inr (5, [.int (bI (if a0 < 0 then true else (if a0 ≤ (10 : Int32) then false else true))), .ref qt, .int vtp, .ref qp, .int vpl, .ref qr, .ref qm, .int vpc, .int vst, .int vc, .int vd, .int vs, .int vo, .int vi, .int vn])), (qr, .inl (cL, 11, .inr (.inl gr)))] := hD
    refine lv_aload_n hx hb dMo_set_19 rfl (lv_at hl 0 rfl) ?_
    refine va_get (D := G) (ci := 5) (v := .int (bI (if a0 < 0 then true else (if a0 ≤ (10 : Int32) then false else true)))) (C := RMo) (T := TMo) (N := 15) hx hb hT inMo hown hK hP 0 rfl rfl 0 (by decide) (hT _ mw_565) (fun _ h9 => h9) rfl dMo_set_20 ?_
    refine lv_if_ne (tgt := 33) hx hb dMo_set_23 (by decide) (fun c2 => ?_) (fun c2 => ?_)
    · have c2 := bI_n c2
      have hP9 := hP.sub (ws' := [(m0, .inr (5, [.int (bI (if a0 < 0 then true else (if a0 ≤ (10 : Int32) then false else true))), .ref qt, .int vtp, .ref qp, .int vpl, .ref qr, .ref qm, .int vpc, .int vst, .int vc, .int vd, .int vs, .int vo, .int vi, .int vn])), (qr, .inl (cL, 11, .inr (.inl gr)))]) [0, 1] rfl
      have hD9 := hD.sub (ws' := [(m0, .inr (5, [.int (bI (if a0 < 0 then true else (if a0 ≤ (10 : Int32) then false else true))), .ref qt, .int vtp, .ref qp, .int vpl, .ref qr, .ref qm, .int vpc, .int vst, .int vc, .int vd, .int vs, .int vo, .int vi, .int vn])), (qr, .inl (cL, 11, .inr (.inl gr)))]) [0, 1] (by decide) rfl
      exact W.vret hx hb hr (fun t ht hW => ⟨⟨((bI (if a0 < 0 then true else (if a0 ≤ (10 : Int32) then false else true))), gr), rfl, (by unfold f_Mo_set; rw [if_pos c2]; try rfl), by rw [ht]; exact hP9, hD9⟩, hS.F ht⟩) hS.2.2 dMo_set_33
    · have c2 := bI_z c2
      refine lv_aload_n hx hb dMo_set_26 rfl (lv_at hl 0 rfl) ?_
      refine va_get (D := G) (ci := 5) (v := .ref qr) (C := RMo) (T := TMo) (N := 15) hx hb hT inMo hown hK hP 0 rfl rfl 5 (by decide) (hT _ mw_570) (fun _ h9 => h9) rfl dMo_set_27 ?_
      refine lv_iload_n hx hb dMo_set_30 rfl (lv_at hl 1 rfl) ?_
      refine lv_lload_n hx hb dMo_set_31 rfl (lv_at hl 2 rfl) ?_
      refine va_last hx hb hK hP hD hS 1 1 rfl rfl (se_in c2) dMo_set_32 (fun H locs hP hD hS => ?_)
      have hP : va_P G vwCl [(m0, .inr (5, [.int (bI (if a0 < 0 then true else (if a0 ≤ (10 : Int32) then false else true))), .ref qt, .int vtp, .ref qp, .int vpl, .ref qr, .ref qm, .int vpc, .int vst, .int vc, .int vd, .int vs, .int vo, .int vi, .int vn])), (qr, .inl (cL, 11, .inr (.inl (vp_updL gr a0.toNatClampNeg a1))))] H := hP
      have hD : va_D A [(m0, .inr (5, [.int (bI (if a0 < 0 then true else (if a0 ≤ (10 : Int32) then false else true))), .ref qt, .int vtp, .ref qp, .int vpl, .ref qr, .ref qm, .int vpc, .int vst, .int vc, .int vd, .int vs, .int vo, .int vi, .int vn])), (qr, .inl (cL, 11, .inr (.inl (vp_updL gr a0.toNatClampNeg a1))))] := hD
      have hP9 := hP.sub (ws' := [(m0, .inr (5, [.int (bI (if a0 < 0 then true else (if a0 ≤ (10 : Int32) then false else true))), .ref qt, .int vtp, .ref qp, .int vpl, .ref qr, .ref qm, .int vpc, .int vst, .int vc, .int vd, .int vs, .int vo, .int vi, .int vn])), (qr, .inl (cL, 11, .inr (.inl (vp_updL gr a0.toNatClampNeg a1))))]) [0, 1] rfl
      have hD9 := hD.sub (ws' := [(m0, .inr (5, [.int (bI (if a0 < 0 then true else (if a0 ≤ (10 : Int32) then false else true))), .ref qt, .int vtp, .ref qp, .int vpl, .ref qr, .ref qm, .int vpc, .int vst, .int vc, .int vd, .int vs, .int vo, .int vi, .int vn])), (qr, .inl (cL, 11, .inr (.inl (vp_updL gr a0.toNatClampNeg a1))))]) [0, 1] (by decide) rfl
      exact W.vret hx hb hr (fun t ht hW => ⟨⟨((bI (if a0 < 0 then true else (if a0 ≤ (10 : Int32) then false else true))), (vp_updL gr a0.toNatClampNeg a1)), rfl, (by unfold f_Mo_set; rw [if_neg c2]; try rfl), by rw [ht]; exact hP9, hD9⟩, hS.F ht⟩) hS.2.2 dMo_set_33
  refine lv_if_lt (tgt := 11) hx hb dMo_set_2 (by decide) (fun c3 => ?_) (fun c3 => ?_)
  · skip
    refine lv_iconst (v := (1 : Int32)) hx hb dMo_set_11 (by decide) ?_
    refine lv_goto (tgt := 16) hx hb dMo_set_12 (by decide) ?_
    exact jn1 true (by rw [if_pos c3]) _ hS
  · skip
    refine lv_iload_n hx hb dMo_set_5 rfl (lv_at hl 1 rfl) ?_
    refine lv_bipush (v := (10 : Int32)) hx hb dMo_set_6 (by decide) ?_
    refine lv_icmp_le (tgt := 15) hx hb dMo_set_8 (by decide) (fun c4 => ?_) (fun c4 => ?_)
    · skip
      refine lv_iconst (v := (0 : Int32)) hx hb dMo_set_15 (by decide) ?_
      exact jn1 false (by rw [if_neg c3, if_pos c4]) _ hS
    · skip
      refine lv_iconst (v := (1 : Int32)) hx hb dMo_set_11 (by decide) ?_
      refine lv_goto (tgt := 16) hx hb dMo_set_12 (by decide) ?_
      exact jn1 true (by rw [if_neg c3, if_neg c4]) _ hS

def f_Mo_get (gr : Nat → Int64) (a0 : Int32) : Int64 × (Int32) :=
  if (if a0 < 0 then true else (if a0 ≤ (10 : Int32) then false else true)) = true then
    ((0 : Int64), (bI (if a0 < 0 then true else (if a0 ≤ (10 : Int32) then false else true))))
  else
    ((gr a0.toNatClampNeg), (bI (if a0 < 0 then true else (if a0 ≤ (10 : Int32) then false else true))))
set_option maxHeartbeats 4000000 in
set_option maxRecDepth 100000 in
theorem c_Mo_get (l : Launch) (G : va_G) (cB cL cI : ClassId) (Hp : Heap) (m0 : Nat) (vth : Int32) (qt : Nat) (vtp : Int32) (qp : Nat) (vpl : Int32) (qr : Nat) (qm : Nat) (vpc : Int32) (vst : Int32) (vc : Int32) (vd : Int32) (vs : Int32) (vo : Int32) (vi : Int32) (vn : Int32) (gr : Nat → Int64) (a0 : Int32) (hP : va_P G vwCl [(m0, .inr (5, [.int vth, .ref qt, .int vtp, .ref qp, .int vpl, .ref qr, .ref qm, .int vpc, .int vst, .int vc, .int vd, .int vs, .int vo, .int vi, .int vn])), (qr, .inl (cL, 11, .inr (.inl gr)))] Hp) (hD : va_D (fun _ => True) [(m0, .inr (5, [.int vth, .ref qt, .int vtp, .ref qp, .int vpl, .ref qr, .ref qm, .int vpc, .int vst, .int vc, .int vd, .int vs, .int vo, .int vi, .int vn])), (qr, .inl (cL, 11, .inr (.inl gr)))]) : Met l yMo_get wsMo_get ({ frames := 0, cells := 0, slots := 0, locals := 0 }) (va_Pc [.ref m0, .int a0] (fun U => U.heap = Hp ∧ va_K G vwCl [(cB, .byte), (cL, .long), (cI, .int)] U)) (va_Ql (fun (r : Int64) (u : (Int32)) => (r, u) = (f_Mo_get gr a0)) (fun (u : (Int32)) t => va_P G vwCl [(m0, .inr (5, [.int (u), .ref qt, .int vtp, .ref qp, .int vpl, .ref qr, .ref qm, .int vpc, .int vst, .int vc, .int vd, .int vs, .int vo, .int vi, .int vn])), (qr, .inl (cL, 11, .inr (.inl gr)))] t.heap ∧ va_D (va_A [(m0, .inr (5, [.int vth, .ref qt, .int vtp, .ref qp, .int vpl, .ref qr, .ref qm, .int vpc, .int vst, .int vc, .int vd, .int vs, .int vo, .int vi, .int vn])), (qr, .inl (cL, 11, .inr (.inl gr)))] Hp.size) [(m0, .inr (5, [.int (u), .ref qt, .int vtp, .ref qp, .int vpl, .ref qr, .ref qm, .int vpc, .int vst, .int vc, .int vd, .int vs, .int vo, .int vi, .int vn])), (qr, .inl (cL, 11, .inr (.inl gr)))]) (va_A [(m0, .inr (5, [.int vth, .ref qt, .int vtp, .ref qp, .int vpl, .ref qr, .ref qm, .int vpc, .int vst, .int vc, .int vd, .int vs, .int vo, .int vi, .int vn])), (qr, .inl (cL, 11, .inr (.inl gr)))] Hp.size)) 0 0 (va_A [(m0, .inr (5, [.int vth, .ref qt, .int vtp, .ref qp, .int vpl, .ref qr, .ref qm, .int vpc, .int vst, .int vc, .int vd, .int vs, .int vo, .int vi, .int vn])), (qr, .inl (cL, 11, .inr (.inl gr)))] Hp.size) := by
  refine Met.ofW (cc := cMo_get) (maxL := 2) (ret := (some .long)) (by decide) rfl ?_
  intro p e s m args below meth c s₁ B hml hv
  obtain ⟨rfl, rfl, hK⟩ := hv
  have hx := B.exec
  have hb := B.bytes
  have hr := B.returns
  have hT : ∀ w ∈ tB, w.before _ s = true := fun w h => atoms_spec (ws := wsMo_get) B.pre w (List.mem_cons_of_mem _ h)
  have hown : s.vm.findClass "CompiledProgramModel" = some m.cls := findClass_of_methodNamed B.named
  have hlocks := B.notSynchronized
  have hD := hD.self (sz := s.heap.size)
  generalize hAe : va_A [(m0, .inr (5, [.int vth, .ref qt, .int vtp, .ref qp, .int vpl, .ref qr, .ref qm, .int vpc, .int vst, .int vc, .int vd, .int vs, .int vo, .int vi, .int vn])), (qr, .inl (cL, 11, .inr (.inl gr)))] s.heap.size = A at hD ⊢
  have hA : ∀ q : Nat, s.heap.size ≤ q → A q := fun q h => by rw [← hAe]; exact Or.inr h
  have hS : va_S A s.heap s.heap [] := va_S.rf
  have hl := lv_entry ([.ref m0, .int a0]) (n := 2) (Nat.le_of_ble_eq_true rfl)
  rw [lg_entry_eq]
  generalize (lg_sl ([.ref m0, .int a0]) ++ List.replicate (2 - (lg_sl ([.ref m0, .int a0])).length) Slot.unset).toArray = ls at hl ⊢
  have hl : lv_has ls 2 [(0, .ref m0), (1, .int a0)] := hl
  refine lv_aload_n hx hb dMo_get_0 rfl (lv_at hl 0 rfl) ?_
  refine lv_iload_n hx hb dMo_get_1 rfl (lv_at hl 1 rfl) ?_
  have jn1 : ∀ (x1 : Bool), x1 = (if a0 < 0 then true else (if a0 ≤ (10 : Int32) then false else true)) → ∀ (locs : List Loc), va_S A s.heap s.heap locs → W p l e (headSpec wsMo_get ({ frames := 0, cells := 0, slots := 0, locals := 0 })).room s m ([.ref m0, .int a0] : List Value).toArray below meth c s.heap locs 0 0 (MQ below (va_Ql (fun (r : Int64) (u : (Int32)) => (r, u) = (f_Mo_get gr a0)) (fun (u : (Int32)) t => va_P G vwCl [(m0, .inr (5, [.int (u), .ref qt, .int vtp, .ref qp, .int vpl, .ref qr, .ref qm, .int vpc, .int vst, .int vc, .int vd, .int vs, .int vo, .int vi, .int vn])), (qr, .inl (cL, 11, .inr (.inl gr)))] t.heap ∧ va_D (A) [(m0, .inr (5, [.int (u), .ref qt, .int vtp, .ref qp, .int vpl, .ref qr, .ref qm, .int vpc, .int vst, .int vc, .int vd, .int vs, .int vo, .int vi, .int vn])), (qr, .inl (cL, 11, .inr (.inl gr)))]) (A)) ([.ref m0, .int a0] : List Value).toArray s 0 0 A) (F0 m 16 ls [.int (bI x1), .ref m0]) := by
    intro x1 hx1 locs hS
    subst hx1
    refine va_put (D := G) (ci := 5) (v := .int (bI (if a0 < 0 then true else (if a0 ≤ (10 : Int32) then false else true)))) (ty := .int) (C := RMo) (T := TMo) (N := 15) hx hb hT inMo tyMo tyMo_ok nmMo hown hK hP hD hS 0 rfl rfl 0 (by decide) (hT _ mw_565) (fun _ h9 => h9) rfl (by decide +kernel) rfl rfl (Nat.le_of_ble_eq_true rfl) dMo_get_16 (fun H locs hP hD hS => ?_)
    have hP : va_P G vwCl [(m0, .inr (5, [.int (bI (if a0 < 0 then true else (if a0 ≤ (10 : Int32) then false else true))), .ref qt, .int vtp, .ref qp, .int vpl, .ref qr, .ref qm, .int vpc, .int vst, .int vc, .int vd, .int vs, .int vo, .int vi, .int vn])), (qr, .inl (cL, 11, .inr (.inl gr)))] H := hP
    have hD : va_D A [(m0, .inr (5, [.int (bI (if a0 < 0 then true else (if a0 ≤ (10 : Int32) then false else true))), .ref qt, .int vtp, .ref qp, .int vpl, .ref qr, .ref qm, .int vpc, .int vst, .int vc, .int vd, .int vs, .int vo, .int vi, .int vn])), (qr, .inl (cL, 11, .inr (.inl gr)))] := hD
    refine lv_aload_n hx hb dMo_get_19 rfl (lv_at hl 0 rfl) ?_
    refine va_get (D := G) (ci := 5) (v := .int (bI (if a0 < 0 then true else (if a0 ≤ (10 : Int32) then false else true)))) (C := RMo) (T := TMo) (N := 15) hx hb hT inMo hown hK hP 0 rfl rfl 0 (by decide) (hT _ mw_565) (fun _ h9 => h9) rfl dMo_get_20 ?_
    refine lv_if_le (tgt := 30) hx hb dMo_get_23 (by decide) (fun c2 => ?_) (fun c2 => ?_)
    · have c2 := bI_lez c2
      refine lv_aload_n hx hb dMo_get_30 rfl (lv_at hl 0 rfl) ?_
      refine va_get (D := G) (ci := 5) (v := .ref qr) (C := RMo) (T := TMo) (N := 15) hx hb hT inMo hown hK hP 0 rfl rfl 5 (by decide) (hT _ mw_570) (fun _ h9 => h9) rfl dMo_get_31 ?_
      refine lv_iload_n hx hb dMo_get_34 rfl (lv_at hl 1 rfl) ?_
      refine va_lald hx hb hK hP 1 1 rfl rfl (se_in c2) dMo_get_35 ?_
      have hP9 := hP.sub (ws' := [(m0, .inr (5, [.int (bI (if a0 < 0 then true else (if a0 ≤ (10 : Int32) then false else true))), .ref qt, .int vtp, .ref qp, .int vpl, .ref qr, .ref qm, .int vpc, .int vst, .int vc, .int vd, .int vs, .int vo, .int vi, .int vn])), (qr, .inl (cL, 11, .inr (.inl gr)))]) [0, 1] rfl
      have hD9 := hD.sub (ws' := [(m0, .inr (5, [.int (bI (if a0 < 0 then true else (if a0 ≤ (10 : Int32) then false else true))), .ref qt, .int vtp, .ref qp, .int vpl, .ref qr, .ref qm, .int vpc, .int vst, .int vc, .int vd, .int vs, .int vo, .int vi, .int vn])), (qr, .inl (cL, 11, .inr (.inl gr)))]) [0, 1] (by decide) rfl
      exact W.lret (v := (gr a0.toNatClampNeg)) hx hb hr (fun t ht hW => ⟨⟨(gr a0.toNatClampNeg), ((bI (if a0 < 0 then true else (if a0 ≤ (10 : Int32) then false else true)))), rfl, (by unfold f_Mo_get; rw [if_neg c2]; try rfl), by rw [ht]; exact hP9, hD9⟩, hS.F ht⟩) hS.2.2 dMo_get_36
    · have c2 := bI_len c2
      refine lv_lconst (v := (0 : Int64)) hx hb dMo_get_26 (by decide) ?_
      refine lv_goto (tgt := 36) hx hb dMo_get_27 (by decide) ?_
      have hP9 := hP.sub (ws' := [(m0, .inr (5, [.int (bI (if a0 < 0 then true else (if a0 ≤ (10 : Int32) then false else true))), .ref qt, .int vtp, .ref qp, .int vpl, .ref qr, .ref qm, .int vpc, .int vst, .int vc, .int vd, .int vs, .int vo, .int vi, .int vn])), (qr, .inl (cL, 11, .inr (.inl gr)))]) [0, 1] rfl
      have hD9 := hD.sub (ws' := [(m0, .inr (5, [.int (bI (if a0 < 0 then true else (if a0 ≤ (10 : Int32) then false else true))), .ref qt, .int vtp, .ref qp, .int vpl, .ref qr, .ref qm, .int vpc, .int vst, .int vc, .int vd, .int vs, .int vo, .int vi, .int vn])), (qr, .inl (cL, 11, .inr (.inl gr)))]) [0, 1] (by decide) rfl
      exact W.lret (v := (0 : Int64)) hx hb hr (fun t ht hW => ⟨⟨(0 : Int64), ((bI (if a0 < 0 then true else (if a0 ≤ (10 : Int32) then false else true)))), rfl, (by unfold f_Mo_get; rw [if_pos c2]; try rfl), by rw [ht]; exact hP9, hD9⟩, hS.F ht⟩) hS.2.2 dMo_get_36
  refine lv_if_lt (tgt := 11) hx hb dMo_get_2 (by decide) (fun c3 => ?_) (fun c3 => ?_)
  · skip
    refine lv_iconst (v := (1 : Int32)) hx hb dMo_get_11 (by decide) ?_
    refine lv_goto (tgt := 16) hx hb dMo_get_12 (by decide) ?_
    exact jn1 true (by rw [if_pos c3]) _ hS
  · skip
    refine lv_iload_n hx hb dMo_get_5 rfl (lv_at hl 1 rfl) ?_
    refine lv_bipush (v := (10 : Int32)) hx hb dMo_get_6 (by decide) ?_
    refine lv_icmp_le (tgt := 15) hx hb dMo_get_8 (by decide) (fun c4 => ?_) (fun c4 => ?_)
    · skip
      refine lv_iconst (v := (0 : Int32)) hx hb dMo_get_15 (by decide) ?_
      exact jn1 false (by rw [if_neg c3, if_pos c4]) _ hS
    · skip
      refine lv_iconst (v := (1 : Int32)) hx hb dMo_get_11 (by decide) ?_
      refine lv_goto (tgt := 16) hx hb dMo_get_12 (by decide) ?_
      exact jn1 true (by rw [if_neg c3, if_neg c4]) _ hS

def f_Mo_put (gm : Nat → Int32) (a0 : Int64) (a1 : Int64) : (Int32) × (Nat → Int32) :=
  if (if (f_Mo_isThere a0 (8 : Int32)) = true then false else true) = true then
    ((bI (if (f_Mo_isThere a0 (8 : Int32)) = true then false else true)), gm)
  else
    ((bI (if (f_Mo_isThere a0 (8 : Int32)) = true then false else true)), ((f_Mo_store gm a0 (8 : Int32) a1)))
set_option maxHeartbeats 4000000 in
set_option maxRecDepth 100000 in
theorem c_Mo_put (l : Launch) (G : va_G) (cB cL cI : ClassId) (Hp : Heap) (m0 : Nat) (vth : Int32) (qt : Nat) (vtp : Int32) (qp : Nat) (vpl : Int32) (qr : Nat) (qm : Nat) (vpc : Int32) (vst : Int32) (vc : Int32) (vd : Int32) (vs : Int32) (vo : Int32) (vi : Int32) (vn : Int32) (gm : Nat → Int32) (a0 : Int64) (a1 : Int64) (hP : va_P G vwCl [(m0, .inr (5, [.int vth, .ref qt, .int vtp, .ref qp, .int vpl, .ref qr, .ref qm, .int vpc, .int vst, .int vc, .int vd, .int vs, .int vo, .int vi, .int vn])), (qm, .inl (cI, 4096, .inl gm))] Hp) (hD : va_D (fun _ => True) [(m0, .inr (5, [.int vth, .ref qt, .int vtp, .ref qp, .int vpl, .ref qr, .ref qm, .int vpc, .int vst, .int vc, .int vd, .int vs, .int vo, .int vi, .int vn])), (qm, .inl (cI, 4096, .inl gm))]) : Met l yMo_put wsMo_put ({ frames := 1, cells := 0, slots := 0, locals := 26 }) (va_Pc [.ref m0, .long a0, .long a1] (fun U => U.heap = Hp ∧ va_K G vwCl [(cB, .byte), (cL, .long), (cI, .int)] U)) (va_Qv (fun (u : (Int32) × (Nat → Int32)) => u = (f_Mo_put gm a0 a1)) (fun (u : (Int32) × (Nat → Int32)) t => va_P G vwCl [(m0, .inr (5, [.int (u.1), .ref qt, .int vtp, .ref qp, .int vpl, .ref qr, .ref qm, .int vpc, .int vst, .int vc, .int vd, .int vs, .int vo, .int vi, .int vn])), (qm, .inl (cI, 4096, .inl (u.2)))] t.heap ∧ va_D (va_A [(m0, .inr (5, [.int vth, .ref qt, .int vtp, .ref qp, .int vpl, .ref qr, .ref qm, .int vpc, .int vst, .int vc, .int vd, .int vs, .int vo, .int vi, .int vn])), (qm, .inl (cI, 4096, .inl gm))] Hp.size) [(m0, .inr (5, [.int (u.1), .ref qt, .int vtp, .ref qp, .int vpl, .ref qr, .ref qm, .int vpc, .int vst, .int vc, .int vd, .int vs, .int vo, .int vi, .int vn])), (qm, .inl (cI, 4096, .inl (u.2)))]) (va_A [(m0, .inr (5, [.int vth, .ref qt, .int vtp, .ref qp, .int vpl, .ref qr, .ref qm, .int vpc, .int vst, .int vc, .int vd, .int vs, .int vo, .int vi, .int vn])), (qm, .inl (cI, 4096, .inl gm))] Hp.size)) 0 0 (va_A [(m0, .inr (5, [.int vth, .ref qt, .int vtp, .ref qp, .int vpl, .ref qr, .ref qm, .int vpc, .int vst, .int vc, .int vd, .int vs, .int vo, .int vi, .int vn])), (qm, .inl (cI, 4096, .inl gm))] Hp.size) := by
  refine Met.ofW (cc := cMo_put) (maxL := 5) (ret := none) (by decide) rfl ?_
  intro p e s m args below meth c s₁ B hml hv
  obtain ⟨rfl, rfl, hK⟩ := hv
  have hx := B.exec
  have hb := B.bytes
  have hr := B.returns
  have hT : ∀ w ∈ tB, w.before _ s = true := fun w h => atoms_spec (ws := wsMo_put) B.pre w (List.mem_cons_of_mem _ h)
  have hown : s.vm.findClass "CompiledProgramModel" = some m.cls := findClass_of_methodNamed B.named
  have hlocks := B.notSynchronized
  have hD := hD.self (sz := s.heap.size)
  generalize hAe : va_A [(m0, .inr (5, [.int vth, .ref qt, .int vtp, .ref qp, .int vpl, .ref qr, .ref qm, .int vpc, .int vst, .int vc, .int vd, .int vs, .int vo, .int vi, .int vn])), (qm, .inl (cI, 4096, .inl gm))] s.heap.size = A at hD ⊢
  have hA : ∀ q : Nat, s.heap.size ≤ q → A q := fun q h => by rw [← hAe]; exact Or.inr h
  have hS : va_S A s.heap s.heap [] := va_S.rf
  have hl := lv_entry ([.ref m0, .long a0, .long a1]) (n := 5) (Nat.le_of_ble_eq_true rfl)
  rw [lg_entry_eq]
  generalize (lg_sl ([.ref m0, .long a0, .long a1]) ++ List.replicate (5 - (lg_sl ([.ref m0, .long a0, .long a1])).length) Slot.unset).toArray = ls at hl ⊢
  have hl : lv_has ls 5 [(0, .ref m0), (1, .long a0), (3, .long a1)] := hl
  refine lv_aload_n hx hb dMo_put_0 rfl (lv_at hl 0 rfl) ?_
  refine lv_lload_n hx hb dMo_put_1 rfl (lv_at hl 1 rfl) ?_
  refine lv_bipush (v := (8 : Int32)) hx hb dMo_put_2 (by decide) ?_
  have hPc := hP.sub (ws' := []) [] rfl
  refine va_calli (va_runS (As := [.long a0, .int (8 : Int32)]) (rest := [.ref m0]) ⟨hx, hb, hml, hown, hT⟩ (c_Mo_isThere l G cB cL cI s.heap a0 (8 : Int32) hPc ) (cwS 2 hT (gB_S mw_707 mw_708 mw_6 mw_709) rfl rfl rfl (by decide +kernel) ⟨Nat.le_of_ble_eq_true rfl, Nat.le_of_ble_eq_true rfl⟩) ⟨fun a U g mk q => ⟨q.1, q.2.1, va_K.moved (u := U) (U := U.calling g mk a) (Vm.Alike.refl U.vm) q.2.2⟩, fun U hU hW => ⟨rfl, hU, va_K.moved hW.alike hK⟩⟩ rfl rfl hl.1 rfl (lv_room (Nat.le_of_ble_eq_true rfl)) dMo_put_4 ⟨Nat.zero_le _, Nat.zero_le _⟩) hS (fun _ _ h => h.elim) (fun _ h => h.elim) (fun r u t H1 locs ht hvm hw hB hz8 hk8 hS => ?_)
  obtain rfl : s.heap = H1 := hB.symm.trans ht
  subst hw
  have jn1 : ∀ (x1 : Bool), x1 = (if (f_Mo_isThere a0 (8 : Int32)) = true then false else true) → ∀ (locs : List Loc), va_S A s.heap s.heap locs → W p l e (headSpec wsMo_put ({ frames := 1, cells := 0, slots := 0, locals := 26 })).room s m ([.ref m0, .long a0, .long a1] : List Value).toArray below meth c s.heap locs 0 0 (MQ below (va_Qv (fun (u : (Int32) × (Nat → Int32)) => u = (f_Mo_put gm a0 a1)) (fun (u : (Int32) × (Nat → Int32)) t => va_P G vwCl [(m0, .inr (5, [.int (u.1), .ref qt, .int vtp, .ref qp, .int vpl, .ref qr, .ref qm, .int vpc, .int vst, .int vc, .int vd, .int vs, .int vo, .int vi, .int vn])), (qm, .inl (cI, 4096, .inl (u.2)))] t.heap ∧ va_D (A) [(m0, .inr (5, [.int (u.1), .ref qt, .int vtp, .ref qp, .int vpl, .ref qr, .ref qm, .int vpc, .int vst, .int vc, .int vd, .int vs, .int vo, .int vi, .int vn])), (qm, .inl (cI, 4096, .inl (u.2)))]) (A)) ([.ref m0, .long a0, .long a1] : List Value).toArray s 0 0 A) (F0 m 15 ls [.int (bI x1), .ref m0]) := by
    intro x1 hx1 locs hS
    subst hx1
    refine va_put (D := G) (ci := 5) (v := .int (bI (if (f_Mo_isThere a0 (8 : Int32)) = true then false else true))) (ty := .int) (C := RMo) (T := TMo) (N := 15) hx hb hT inMo tyMo tyMo_ok nmMo hown hK hP hD hS 0 rfl rfl 0 (by decide) (hT _ mw_565) (fun _ h9 => h9) rfl (by decide +kernel) rfl rfl (Nat.le_of_ble_eq_true rfl) dMo_put_15 (fun H locs hP hD hS => ?_)
    have hP : va_P G vwCl [(m0, .inr (5, [.int (bI (if (f_Mo_isThere a0 (8 : Int32)) = true then false else true)), .ref qt, .int vtp, .ref qp, .int vpl, .ref qr, .ref qm, .int vpc, .int vst, .int vc, .int vd, .int vs, .int vo, .int vi, .int vn])), (qm, .inl (cI, 4096, .inl gm))] H := hP
    have hD : va_D A [(m0, .inr (5, [.int (bI (if (f_Mo_isThere a0 (8 : Int32)) = true then false else true)), .ref qt, .int vtp, .ref qp, .int vpl, .ref qr, .ref qm, .int vpc, .int vst, .int vc, .int vd, .int vs, .int vo, .int vi, .int vn])), (qm, .inl (cI, 4096, .inl gm))] := hD
    refine lv_aload_n hx hb dMo_put_18 rfl (lv_at hl 0 rfl) ?_
    refine va_get (D := G) (ci := 5) (v := .int (bI (if (f_Mo_isThere a0 (8 : Int32)) = true then false else true))) (C := RMo) (T := TMo) (N := 15) hx hb hT inMo hown hK hP 0 rfl rfl 0 (by decide) (hT _ mw_565) (fun _ h9 => h9) rfl dMo_put_19 ?_
    refine lv_if_ne (tgt := 33) hx hb dMo_put_22 (by decide) (fun c2 => ?_) (fun c2 => ?_)
    · have c2 := bI_n c2
      have hP9 := hP.sub (ws' := [(m0, .inr (5, [.int (bI (if (f_Mo_isThere a0 (8 : Int32)) = true then false else true)), .ref qt, .int vtp, .ref qp, .int vpl, .ref qr, .ref qm, .int vpc, .int vst, .int vc, .int vd, .int vs, .int vo, .int vi, .int vn])), (qm, .inl (cI, 4096, .inl gm))]) [0, 1] rfl
      have hD9 := hD.sub (ws' := [(m0, .inr (5, [.int (bI (if (f_Mo_isThere a0 (8 : Int32)) = true then false else true)), .ref qt, .int vtp, .ref qp, .int vpl, .ref qr, .ref qm, .int vpc, .int vst, .int vc, .int vd, .int vs, .int vo, .int vi, .int vn])), (qm, .inl (cI, 4096, .inl gm))]) [0, 1] (by decide) rfl
      exact W.vret hx hb hr (fun t ht hW => ⟨⟨((bI (if (f_Mo_isThere a0 (8 : Int32)) = true then false else true)), gm), rfl, (by unfold f_Mo_put; rw [if_pos c2]; try rfl), by rw [ht]; exact hP9, hD9⟩, hS.F ht⟩) hS.2.2 dMo_put_33
    · have c2 := bI_z c2
      refine lv_aload_n hx hb dMo_put_25 rfl (lv_at hl 0 rfl) ?_
      refine lv_lload_n hx hb dMo_put_26 rfl (lv_at hl 1 rfl) ?_
      refine lv_bipush (v := (8 : Int32)) hx hb dMo_put_27 (by decide) ?_
      refine lv_lload_n hx hb dMo_put_29 rfl (lv_at hl 2 rfl) ?_
      have hPc := hP.sub (ws' := [(m0, .inr (5, [.int (bI (if (f_Mo_isThere a0 (8 : Int32)) = true then false else true)), .ref qt, .int vtp, .ref qp, .int vpl, .ref qr, .ref qm, .int vpc, .int vst, .int vc, .int vd, .int vs, .int vo, .int vi, .int vn])), (qm, .inl (cI, 4096, .inl gm))]) [0, 1] rfl
      have hDc := hD.sub (ws' := [(m0, .inr (5, [.int (bI (if (f_Mo_isThere a0 (8 : Int32)) = true then false else true)), .ref qt, .int vtp, .ref qp, .int vpl, .ref qr, .ref qm, .int vpc, .int vst, .int vc, .int vd, .int vs, .int vo, .int vi, .int vn])), (qm, .inl (cI, 4096, .inl gm))]) [0, 1] (by decide) rfl
      have hFc := va_free (wc := [(m0, .inr (5, [.int (bI (if (f_Mo_isThere a0 (8 : Int32)) = true then false else true)), .ref qt, .int vtp, .ref qp, .int vpl, .ref qr, .ref qm, .int vpc, .int vst, .int vc, .int vd, .int vs, .int vo, .int vi, .int vn])), (qm, .inl (cI, 4096, .inl gm))]) hD hS hA [0, 1] rfl
      refine va_callv (va_runV (As := [.long a0, .int (8 : Int32), .long a1]) (rest := []) ⟨hx, hb, hml, hown, hT⟩ (c_Mo_store l G cB cL cI H m0 (bI (if (f_Mo_isThere a0 (8 : Int32)) = true then false else true)) qt vtp qp vpl qr qm vpc vst vc vd vs vo vi vn gm a0 (8 : Int32) a1 hPc (hDc.weaken (fun _ _ _ _ => trivial)) (pu_h c2) (by decide)) (cwV 3 hT (gB_V mw_712 mw_714 ms_16 mw_6 mw_715) rfl rfl rfl (by decide +kernel) ⟨Nat.le_of_ble_eq_true rfl, Nat.le_of_ble_eq_true rfl⟩) ⟨fun a U g mk q => ⟨q.1, q.2.1, va_K.moved (u := U) (U := U.calling g mk a) (Vm.Alike.refl U.vm) q.2.2⟩, va_recv hK hPc (ci := 5) (q0 := 0) rfl rfl, fun U hU hW => ⟨rfl, hU, va_K.moved hW.alike hK⟩⟩ rfl rfl hl.1 rfl (lv_room (Nat.le_of_ble_eq_true rfl)) dMo_put_30 ⟨Nat.zero_le _, Nat.zero_le _⟩) hS (fun q _ h => hFc q h) hFc (fun u t H locs ht hvm hw hB hz8 hk8 hS => ?_)
      subst hw
      obtain ⟨hP1, hD1⟩ := hB
      rw [ht] at hP1
      obtain ⟨hP, hD⟩ := va_join (wr := []) (w1 := [(m0, .inr (5, [.int (bI (if (f_Mo_isThere a0 (8 : Int32)) = true then false else true)), .ref qt, .int vtp, .ref qp, .int vpl, .ref qr, .ref qm, .int vpc, .int vst, .int vc, .int vd, .int vs, .int vo, .int vi, .int vn])), (qm, .inl (cI, 4096, .inl ((f_Mo_store gm a0 (8 : Int32) a1))))]) hP hD [0, 1] [] rfl rfl (by decide) (by decide) hk8 hFc hP1 hD1
      have hP : va_P G vwCl [(m0, .inr (5, [.int (bI (if (f_Mo_isThere a0 (8 : Int32)) = true then false else true)), .ref qt, .int vtp, .ref qp, .int vpl, .ref qr, .ref qm, .int vpc, .int vst, .int vc, .int vd, .int vs, .int vo, .int vi, .int vn])), (qm, .inl (cI, 4096, .inl ((f_Mo_store gm a0 (8 : Int32) a1))))] H := hP
      have hD : va_D A [(m0, .inr (5, [.int (bI (if (f_Mo_isThere a0 (8 : Int32)) = true then false else true)), .ref qt, .int vtp, .ref qp, .int vpl, .ref qr, .ref qm, .int vpc, .int vst, .int vc, .int vd, .int vs, .int vo, .int vi, .int vn])), (qm, .inl (cI, 4096, .inl ((f_Mo_store gm a0 (8 : Int32) a1))))] := hD
      have hP9 := hP.sub (ws' := [(m0, .inr (5, [.int (bI (if (f_Mo_isThere a0 (8 : Int32)) = true then false else true)), .ref qt, .int vtp, .ref qp, .int vpl, .ref qr, .ref qm, .int vpc, .int vst, .int vc, .int vd, .int vs, .int vo, .int vi, .int vn])), (qm, .inl (cI, 4096, .inl ((f_Mo_store gm a0 (8 : Int32) a1))))]) [0, 1] rfl
      have hD9 := hD.sub (ws' := [(m0, .inr (5, [.int (bI (if (f_Mo_isThere a0 (8 : Int32)) = true then false else true)), .ref qt, .int vtp, .ref qp, .int vpl, .ref qr, .ref qm, .int vpc, .int vst, .int vc, .int vd, .int vs, .int vo, .int vi, .int vn])), (qm, .inl (cI, 4096, .inl ((f_Mo_store gm a0 (8 : Int32) a1))))]) [0, 1] (by decide) rfl
      exact W.vret hx hb hr (fun t ht hW => ⟨⟨((bI (if (f_Mo_isThere a0 (8 : Int32)) = true then false else true)), ((f_Mo_store gm a0 (8 : Int32) a1))), rfl, (by unfold f_Mo_put; rw [if_neg c2]; try rfl), by rw [ht]; exact hP9, hD9⟩, hS.F ht⟩) hS.2.2 dMo_put_33
  refine lv_if_eq (tgt := 14) hx hb dMo_put_7 (by decide) (fun c3 => ?_) (fun c3 => ?_)
  · have c3 := bI_z c3
    refine lv_iconst (v := (1 : Int32)) hx hb dMo_put_14 (by decide) ?_
    exact jn1 true (by rw [if_neg c3]) _ hS
  · have c3 := bI_n c3
    refine lv_iconst (v := (0 : Int32)) hx hb dMo_put_10 (by decide) ?_
    refine lv_goto (tgt := 15) hx hb dMo_put_11 (by decide) ?_
    exact jn1 false (by rw [if_pos c3]) _ hS

def f_Mo_word (gm : Nat → Int32) (a0 : Int64) : Int64 × (Int32) :=
  if (if (f_Mo_isThere a0 (8 : Int32)) = true then false else true) = true then
    ((0 : Int64), (bI (if (f_Mo_isThere a0 (8 : Int32)) = true then false else true)))
  else
    ((f_Mo_loadJ gm a0 (8 : Int32)), (bI (if (f_Mo_isThere a0 (8 : Int32)) = true then false else true)))
set_option maxHeartbeats 4000000 in
set_option maxRecDepth 100000 in
theorem c_Mo_word (l : Launch) (G : va_G) (cB cL cI : ClassId) (Hp : Heap) (m0 : Nat) (vth : Int32) (qt : Nat) (vtp : Int32) (qp : Nat) (vpl : Int32) (qr : Nat) (qm : Nat) (vpc : Int32) (vst : Int32) (vc : Int32) (vd : Int32) (vs : Int32) (vo : Int32) (vi : Int32) (vn : Int32) (gm : Nat → Int32) (a0 : Int64) (hP : va_P G vwCl [(m0, .inr (5, [.int vth, .ref qt, .int vtp, .ref qp, .int vpl, .ref qr, .ref qm, .int vpc, .int vst, .int vc, .int vd, .int vs, .int vo, .int vi, .int vn])), (qm, .inl (cI, 4096, .inl gm))] Hp) (hD : va_D (fun _ => True) [(m0, .inr (5, [.int vth, .ref qt, .int vtp, .ref qp, .int vpl, .ref qr, .ref qm, .int vpc, .int vst, .int vc, .int vd, .int vs, .int vo, .int vi, .int vn])), (qm, .inl (cI, 4096, .inl gm))]) : Met l yMo_word wsMo_word ({ frames := 1, cells := 0, slots := 0, locals := 26 }) (va_Pc [.ref m0, .long a0] (fun U => U.heap = Hp ∧ va_K G vwCl [(cB, .byte), (cL, .long), (cI, .int)] U)) (va_Ql (fun (r : Int64) (u : (Int32)) => (r, u) = (f_Mo_word gm a0)) (fun (u : (Int32)) t => va_P G vwCl [(m0, .inr (5, [.int (u), .ref qt, .int vtp, .ref qp, .int vpl, .ref qr, .ref qm, .int vpc, .int vst, .int vc, .int vd, .int vs, .int vo, .int vi, .int vn])), (qm, .inl (cI, 4096, .inl gm))] t.heap ∧ va_D (va_A [(m0, .inr (5, [.int vth, .ref qt, .int vtp, .ref qp, .int vpl, .ref qr, .ref qm, .int vpc, .int vst, .int vc, .int vd, .int vs, .int vo, .int vi, .int vn])), (qm, .inl (cI, 4096, .inl gm))] Hp.size) [(m0, .inr (5, [.int (u), .ref qt, .int vtp, .ref qp, .int vpl, .ref qr, .ref qm, .int vpc, .int vst, .int vc, .int vd, .int vs, .int vo, .int vi, .int vn])), (qm, .inl (cI, 4096, .inl gm))]) (va_A [(m0, .inr (5, [.int vth, .ref qt, .int vtp, .ref qp, .int vpl, .ref qr, .ref qm, .int vpc, .int vst, .int vc, .int vd, .int vs, .int vo, .int vi, .int vn])), (qm, .inl (cI, 4096, .inl gm))] Hp.size)) 0 0 (va_A [(m0, .inr (5, [.int vth, .ref qt, .int vtp, .ref qp, .int vpl, .ref qr, .ref qm, .int vpc, .int vst, .int vc, .int vd, .int vs, .int vo, .int vi, .int vn])), (qm, .inl (cI, 4096, .inl gm))] Hp.size) := by
  refine Met.ofW (cc := cMo_word) (maxL := 3) (ret := (some .long)) (by decide) rfl ?_
  intro p e s m args below meth c s₁ B hml hv
  obtain ⟨rfl, rfl, hK⟩ := hv
  have hx := B.exec
  have hb := B.bytes
  have hr := B.returns
  have hT : ∀ w ∈ tB, w.before _ s = true := fun w h => atoms_spec (ws := wsMo_word) B.pre w (List.mem_cons_of_mem _ h)
  have hown : s.vm.findClass "CompiledProgramModel" = some m.cls := findClass_of_methodNamed B.named
  have hlocks := B.notSynchronized
  have hD := hD.self (sz := s.heap.size)
  generalize hAe : va_A [(m0, .inr (5, [.int vth, .ref qt, .int vtp, .ref qp, .int vpl, .ref qr, .ref qm, .int vpc, .int vst, .int vc, .int vd, .int vs, .int vo, .int vi, .int vn])), (qm, .inl (cI, 4096, .inl gm))] s.heap.size = A at hD ⊢
  have hA : ∀ q : Nat, s.heap.size ≤ q → A q := fun q h => by rw [← hAe]; exact Or.inr h
  have hS : va_S A s.heap s.heap [] := va_S.rf
  have hl := lv_entry ([.ref m0, .long a0]) (n := 3) (Nat.le_of_ble_eq_true rfl)
  rw [lg_entry_eq]
  generalize (lg_sl ([.ref m0, .long a0]) ++ List.replicate (3 - (lg_sl ([.ref m0, .long a0])).length) Slot.unset).toArray = ls at hl ⊢
  have hl : lv_has ls 3 [(0, .ref m0), (1, .long a0)] := hl
  refine lv_aload_n hx hb dMo_word_0 rfl (lv_at hl 0 rfl) ?_
  refine lv_lload_n hx hb dMo_word_1 rfl (lv_at hl 1 rfl) ?_
  refine lv_bipush (v := (8 : Int32)) hx hb dMo_word_2 (by decide) ?_
  have hPc := hP.sub (ws' := []) [] rfl
  refine va_calli (va_runS (As := [.long a0, .int (8 : Int32)]) (rest := [.ref m0]) ⟨hx, hb, hml, hown, hT⟩ (c_Mo_isThere l G cB cL cI s.heap a0 (8 : Int32) hPc ) (cwS 2 hT (gB_S mw_707 mw_708 mw_6 mw_709) rfl rfl rfl (by decide +kernel) ⟨Nat.le_of_ble_eq_true rfl, Nat.le_of_ble_eq_true rfl⟩) ⟨fun a U g mk q => ⟨q.1, q.2.1, va_K.moved (u := U) (U := U.calling g mk a) (Vm.Alike.refl U.vm) q.2.2⟩, fun U hU hW => ⟨rfl, hU, va_K.moved hW.alike hK⟩⟩ rfl rfl hl.1 rfl (lv_room (Nat.le_of_ble_eq_true rfl)) dMo_word_4 ⟨Nat.zero_le _, Nat.zero_le _⟩) hS (fun _ _ h => h.elim) (fun _ h => h.elim) (fun r u t H1 locs ht hvm hw hB hz8 hk8 hS => ?_)
  obtain rfl : s.heap = H1 := hB.symm.trans ht
  subst hw
  have jn1 : ∀ (x1 : Bool), x1 = (if (f_Mo_isThere a0 (8 : Int32)) = true then false else true) → ∀ (locs : List Loc), va_S A s.heap s.heap locs → W p l e (headSpec wsMo_word ({ frames := 1, cells := 0, slots := 0, locals := 26 })).room s m ([.ref m0, .long a0] : List Value).toArray below meth c s.heap locs 0 0 (MQ below (va_Ql (fun (r : Int64) (u : (Int32)) => (r, u) = (f_Mo_word gm a0)) (fun (u : (Int32)) t => va_P G vwCl [(m0, .inr (5, [.int (u), .ref qt, .int vtp, .ref qp, .int vpl, .ref qr, .ref qm, .int vpc, .int vst, .int vc, .int vd, .int vs, .int vo, .int vi, .int vn])), (qm, .inl (cI, 4096, .inl gm))] t.heap ∧ va_D (A) [(m0, .inr (5, [.int (u), .ref qt, .int vtp, .ref qp, .int vpl, .ref qr, .ref qm, .int vpc, .int vst, .int vc, .int vd, .int vs, .int vo, .int vi, .int vn])), (qm, .inl (cI, 4096, .inl gm))]) (A)) ([.ref m0, .long a0] : List Value).toArray s 0 0 A) (F0 m 15 ls [.int (bI x1), .ref m0]) := by
    intro x1 hx1 locs hS
    subst hx1
    refine va_put (D := G) (ci := 5) (v := .int (bI (if (f_Mo_isThere a0 (8 : Int32)) = true then false else true))) (ty := .int) (C := RMo) (T := TMo) (N := 15) hx hb hT inMo tyMo tyMo_ok nmMo hown hK hP hD hS 0 rfl rfl 0 (by decide) (hT _ mw_565) (fun _ h9 => h9) rfl (by decide +kernel) rfl rfl (Nat.le_of_ble_eq_true rfl) dMo_word_15 (fun H locs hP hD hS => ?_)
    have hP : va_P G vwCl [(m0, .inr (5, [.int (bI (if (f_Mo_isThere a0 (8 : Int32)) = true then false else true)), .ref qt, .int vtp, .ref qp, .int vpl, .ref qr, .ref qm, .int vpc, .int vst, .int vc, .int vd, .int vs, .int vo, .int vi, .int vn])), (qm, .inl (cI, 4096, .inl gm))] H := hP
    have hD : va_D A [(m0, .inr (5, [.int (bI (if (f_Mo_isThere a0 (8 : Int32)) = true then false else true)), .ref qt, .int vtp, .ref qp, .int vpl, .ref qr, .ref qm, .int vpc, .int vst, .int vc, .int vd, .int vs, .int vo, .int vi, .int vn])), (qm, .inl (cI, 4096, .inl gm))] := hD
    refine lv_aload_n hx hb dMo_word_18 rfl (lv_at hl 0 rfl) ?_
    refine va_get (D := G) (ci := 5) (v := .int (bI (if (f_Mo_isThere a0 (8 : Int32)) = true then false else true))) (C := RMo) (T := TMo) (N := 15) hx hb hT inMo hown hK hP 0 rfl rfl 0 (by decide) (hT _ mw_565) (fun _ h9 => h9) rfl dMo_word_19 ?_
    refine lv_if_le (tgt := 29) hx hb dMo_word_22 (by decide) (fun c2 => ?_) (fun c2 => ?_)
    · have c2 := bI_lez c2
      refine lv_aload_n hx hb dMo_word_29 rfl (lv_at hl 0 rfl) ?_
      refine lv_lload_n hx hb dMo_word_30 rfl (lv_at hl 1 rfl) ?_
      refine lv_bipush (v := (8 : Int32)) hx hb dMo_word_31 (by decide) ?_
      have hPc := hP.sub (ws' := [(m0, .inr (5, [.int (bI (if (f_Mo_isThere a0 (8 : Int32)) = true then false else true)), .ref qt, .int vtp, .ref qp, .int vpl, .ref qr, .ref qm, .int vpc, .int vst, .int vc, .int vd, .int vs, .int vo, .int vi, .int vn])), (qm, .inl (cI, 4096, .inl gm))]) [0, 1] rfl
      refine va_calll (va_runV (As := [.long a0, .int (8 : Int32)]) (rest := []) ⟨hx, hb, hml, hown, hT⟩ (c_Mo_loadJ l G cB cL cI H m0 (bI (if (f_Mo_isThere a0 (8 : Int32)) = true then false else true)) qt vtp qp vpl qr qm vpc vst vc vd vs vo vi vn gm a0 (8 : Int32) hPc (pu_h c2) (by decide)) (cwV 2 hT (gB_V mw_720 mw_722 ms_17 mw_6 mw_723) rfl rfl rfl (by decide +kernel) ⟨Nat.le_of_ble_eq_true rfl, Nat.le_of_ble_eq_true rfl⟩) ⟨fun a U g mk q => ⟨q.1, q.2.1, va_K.moved (u := U) (U := U.calling g mk a) (Vm.Alike.refl U.vm) q.2.2⟩, va_recv hK hPc (ci := 5) (q0 := 0) rfl rfl, fun U hU hW => ⟨rfl, hU, va_K.moved hW.alike hK⟩⟩ rfl rfl hl.1 rfl (lv_room (Nat.le_of_ble_eq_true rfl)) dMo_word_33 ⟨Nat.zero_le _, Nat.zero_le _⟩) hS (fun _ _ h => h.elim) (fun _ h => h.elim) (fun r u t H1 locs ht hvm hw hB hz8 hk8 hS => ?_)
      obtain rfl : H = H1 := hB.symm.trans ht
      subst hw
      have hP9 := hP.sub (ws' := [(m0, .inr (5, [.int (bI (if (f_Mo_isThere a0 (8 : Int32)) = true then false else true)), .ref qt, .int vtp, .ref qp, .int vpl, .ref qr, .ref qm, .int vpc, .int vst, .int vc, .int vd, .int vs, .int vo, .int vi, .int vn])), (qm, .inl (cI, 4096, .inl gm))]) [0, 1] rfl
      have hD9 := hD.sub (ws' := [(m0, .inr (5, [.int (bI (if (f_Mo_isThere a0 (8 : Int32)) = true then false else true)), .ref qt, .int vtp, .ref qp, .int vpl, .ref qr, .ref qm, .int vpc, .int vst, .int vc, .int vd, .int vs, .int vo, .int vi, .int vn])), (qm, .inl (cI, 4096, .inl gm))]) [0, 1] (by decide) rfl
      exact W.lret (v := (f_Mo_loadJ gm a0 (8 : Int32))) hx hb hr (fun t ht hW => ⟨⟨(f_Mo_loadJ gm a0 (8 : Int32)), ((bI (if (f_Mo_isThere a0 (8 : Int32)) = true then false else true))), rfl, (by unfold f_Mo_word; rw [if_neg c2]; try rfl), by rw [ht]; exact hP9, hD9⟩, hS.F ht⟩) hS.2.2 dMo_word_36
    · have c2 := bI_len c2
      refine lv_lconst (v := (0 : Int64)) hx hb dMo_word_25 (by decide) ?_
      refine lv_goto (tgt := 36) hx hb dMo_word_26 (by decide) ?_
      have hP9 := hP.sub (ws' := [(m0, .inr (5, [.int (bI (if (f_Mo_isThere a0 (8 : Int32)) = true then false else true)), .ref qt, .int vtp, .ref qp, .int vpl, .ref qr, .ref qm, .int vpc, .int vst, .int vc, .int vd, .int vs, .int vo, .int vi, .int vn])), (qm, .inl (cI, 4096, .inl gm))]) [0, 1] rfl
      have hD9 := hD.sub (ws' := [(m0, .inr (5, [.int (bI (if (f_Mo_isThere a0 (8 : Int32)) = true then false else true)), .ref qt, .int vtp, .ref qp, .int vpl, .ref qr, .ref qm, .int vpc, .int vst, .int vc, .int vd, .int vs, .int vo, .int vi, .int vn])), (qm, .inl (cI, 4096, .inl gm))]) [0, 1] (by decide) rfl
      exact W.lret (v := (0 : Int64)) hx hb hr (fun t ht hW => ⟨⟨(0 : Int64), ((bI (if (f_Mo_isThere a0 (8 : Int32)) = true then false else true))), rfl, (by unfold f_Mo_word; rw [if_pos c2]; try rfl), by rw [ht]; exact hP9, hD9⟩, hS.F ht⟩) hS.2.2 dMo_word_36
  refine lv_if_eq (tgt := 14) hx hb dMo_word_7 (by decide) (fun c3 => ?_) (fun c3 => ?_)
  · have c3 := bI_z c3
    refine lv_iconst (v := (1 : Int32)) hx hb dMo_word_14 (by decide) ?_
    exact jn1 true (by rw [if_neg c3]) _ hS
  · have c3 := bI_n c3
    refine lv_iconst (v := (0 : Int32)) hx hb dMo_word_10 (by decide) ?_
    refine lv_goto (tgt := 15) hx hb dMo_word_11 (by decide) ?_
    exact jn1 false (by rw [if_pos c3]) _ hS
