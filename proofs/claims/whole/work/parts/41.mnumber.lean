def l_Mo_number_7 (ga : Nat → Int32) (a1 : Int32) (a2 : Int32) : Nat → (Int32) → (Int32) → Int32
  | 0, _, _ => default
  | n + 1, k, v =>
    if k < 0 then
      v
    else
      l_Mo_number_7 ga a1 a2 n (k + (-1 : Int32)) ((v <<< ((8 : Int32) &&& 31)) ||| (ga (a1 + k).toNatClampNeg))
def f_Mo_number (ga : Nat → Int32) (a1 : Int32) (a2 : Int32) : Int32 :=
  l_Mo_number_7 ga a1 a2 (a2.toNatClampNeg + 1) (a2 - (1 : Int32)) (0 : Int32)
set_option maxHeartbeats 4000000 in
set_option maxRecDepth 100000 in
theorem c_Mo_number (l : Launch) (G : va_G) (cB cL cI : ClassId) (Hp : Heap) (qa : Nat) (ga : Nat → Int32) (a1 : Int32) (a2 : Int32) (hP : va_P G vwCl [(qa, .inl (cI, 32768, .inl ga))] Hp) (h0 : 0 ≤ a1.toInt) (h1 : 1 ≤ a2.toInt) (h2 : a1.toInt + a2.toInt ≤ 32768) : Met l yMo_number wsMo_number ({ frames := 0, cells := 0, slots := 0, locals := 0 }) (va_Pc [.ref qa, .int a1, .int a2] (fun U => U.heap = Hp ∧ va_K G vwCl [(cB, .byte), (cL, .long), (cI, .int)] U)) (va_Qi (fun (r : Int32) (_ : Unit) => r = (f_Mo_number ga a1 a2)) (fun _ t => t.heap = Hp) (fun _ => False)) 0 0 (fun _ => False) := by
  refine Met.ofW (cc := cMo_number) (maxL := 5) (ret := (some .int)) (by decide) rfl ?_
  intro p e s m args below meth c s₁ B hml hv
  obtain ⟨rfl, rfl, hK⟩ := hv
  have hx := B.exec
  have hb := B.bytes
  have hr := B.returns
  have hT : ∀ w ∈ tB, w.before _ s = true := fun w h => atoms_spec (ws := wsMo_number) B.pre w (List.mem_cons_of_mem _ h)
  have hown : s.vm.findClass "CompiledProgramModel" = some m.cls := findClass_of_methodNamed B.named
  have hlocks := B.notSynchronized
  have hA : ∀ q : Nat, (fun _ : Nat => False) q → False := fun _ h => h
  have hS : va_S (fun _ => False) s.heap s.heap [] := va_S.rf
  have hl := lv_entry ([.ref qa, .int a1, .int a2]) (n := 5) (Nat.le_of_ble_eq_true rfl)
  rw [lg_entry_eq]
  generalize (lg_sl ([.ref qa, .int a1, .int a2]) ++ List.replicate (5 - (lg_sl ([.ref qa, .int a1, .int a2])).length) Slot.unset).toArray = ls at hl ⊢
  have hl : lv_has ls 5 [(0, .ref qa), (1, .int a1), (2, .int a2)] := hl
  refine lv_iconst (v := (0 : Int32)) hx hb dMo_number_0 (by decide) ?_
  refine lv_istore_n (lv' := [(3, .int (0 : Int32)), (0, .ref qa), (1, .int a1), (2, .int a2)]) hx hb dMo_number_1 rfl hl (by decide) rfl (fun ls hl => ?_)
  refine lv_iload_n hx hb dMo_number_2 rfl (lv_at hl 3 rfl) ?_
  refine lv_iconst (v := (1 : Int32)) hx hb dMo_number_3 (by decide) ?_
  refine lv_isub hx hb dMo_number_4 ?_
  refine lv_istore (lv' := [(4, .int (a2 - (1 : Int32))), (3, .int (0 : Int32)), (0, .ref qa), (1, .int a1), (2, .int a2)]) hx hb dMo_number_5 hl (by decide) rfl (fun ls hl => ?_)
  have loop : ∀ (n : Nat) (k : Int32) (v : Int32), (-1 ≤ k.toInt) → (k.toInt < a2.toInt) → (k.toInt + 1).toNat < n → (f_Mo_number ga a1 a2) = l_Mo_number_7 ga a1 a2 n k v → ∀ (locs : List Loc), va_S (fun _ => False) s.heap s.heap locs → ∀ (ls : Array Slot), lv_has ls 5 [(4, .int k), (3, .int v), (0, .ref qa), (1, .int a1), (2, .int a2)] → W p l e (headSpec wsMo_number ({ frames := 0, cells := 0, slots := 0, locals := 0 })).room s m ([.ref qa, .int a1, .int a2] : List Value).toArray below meth c s.heap locs 0 0 (MQ below (va_Qi (fun (r : Int32) (_ : Unit) => r = (f_Mo_number ga a1 a2)) (fun _ t => t.heap = s.heap) (fun _ => False)) ([.ref qa, .int a1, .int a2] : List Value).toArray s 0 0 (fun _ => False)) (F0 m 7 ls []) := by
    intro n
    induction n with
    | zero =>
      intro k v hk1 hk2 hM
      exact absurd hM (Nat.not_lt_zero _)
    | succ n ih =>
      intro k v hk1 hk2 hM hE locs hS ls hl
      refine lv_iload hx hb dMo_number_7 (lv_at hl 0 rfl) ?_
      refine lv_if_lt (tgt := 30) hx hb dMo_number_9 (by decide) (fun c1 => ?_) (fun c1 => ?_)
      · skip
        refine lv_iload_n hx hb dMo_number_30 rfl (lv_at hl 1 rfl) ?_
        exact W.iret (v := v) hx hb hr (fun t ht hW => ⟨⟨v, (), rfl, (by rw [hE, l_Mo_number_7, if_pos c1]; try rfl), ht⟩, hS.F ht⟩) hS.2.2 dMo_number_31
      · skip
        refine lv_iload_n hx hb dMo_number_12 rfl (lv_at hl 1 rfl) ?_
        refine lv_bipush (v := (8 : Int32)) hx hb dMo_number_13 (by decide) ?_
        refine lv_ishl hx hb dMo_number_15 ?_
        refine lv_aload_n hx hb dMo_number_16 rfl (lv_at hl 2 rfl) ?_
        refine lv_iload_n hx hb dMo_number_17 rfl (lv_at hl 3 rfl) ?_
        refine lv_iload hx hb dMo_number_18 (lv_at hl 0 rfl) ?_
        refine lv_iadd hx hb dMo_number_20 ?_
        refine va_iald hx hb hK hP 0 2 rfl rfl (nu_in h0 h2 hk2 c1) dMo_number_21 ?_
        refine lv_ior hx hb dMo_number_22 ?_
        refine lv_istore_n (lv' := [(3, .int ((v <<< ((8 : Int32) &&& 31)) ||| (ga (a1 + k).toNatClampNeg))), (4, .int k), (0, .ref qa), (1, .int a1), (2, .int a2)]) hx hb dMo_number_23 rfl hl (by decide) rfl (fun ls hl => ?_)
        refine lv_iinc (v := (k + (-1 : Int32))) (lv' := [(4, .int (k + (-1 : Int32))), (3, .int ((v <<< ((8 : Int32) &&& 31)) ||| (ga (a1 + k).toNatClampNeg))), (0, .ref qa), (1, .int a1), (2, .int a2)]) hx hb dMo_number_24 hl (k := 1) rfl (by first | rfl | decide) (by decide) rfl (fun ls hl => ?_)
        refine lv_goto (tgt := 7) hx hb dMo_number_27 (by decide) ?_
        exact ih (k + (-1 : Int32)) ((v <<< ((8 : Int32) &&& 31)) ||| (ga (a1 + k).toNatClampNeg)) (rd_b1 c1) (rd_b2 c1 hk2) (rd_b3 c1 hM) (by rw [hE, l_Mo_number_7, if_neg c1]) _ hS ls (lv_sub hl [0, 1, 2, 3, 4] rfl)
  exact loop (a2.toNatClampNeg + 1) (a2 - (1 : Int32)) (0 : Int32) (nu_i1 h1) (nu_i2 h1) (nu_fuel h1) rfl _ hS ls (lv_sub hl [0, 1, 2, 3, 4] rfl)

def f_Mo_take (ga : Nat → Int32) (a1 : Int32) : (Int32) × (Int32) × (Int32) × (Int32) × (Int32) :=
  ((ga ((8 : Int32) * a1).toNatClampNeg), ((ga (((8 : Int32) * a1) + (1 : Int32)).toNatClampNeg) &&& (15 : Int32)), ((ga (((8 : Int32) * a1) + (1 : Int32)).toNatClampNeg) >>> ((4 : Int32) &&& 31)), (j_i2s (f_Mo_number ga (((8 : Int32) * a1) + (2 : Int32)) (2 : Int32))), (f_Mo_number ga (((8 : Int32) * a1) + (4 : Int32)) (4 : Int32)))
set_option maxHeartbeats 4000000 in
set_option maxRecDepth 100000 in
theorem c_Mo_take (l : Launch) (G : va_G) (cB cL cI : ClassId) (Hp : Heap) (m0 : Nat) (vth : Int32) (qt : Nat) (vtp : Int32) (qp : Nat) (vpl : Int32) (qr : Nat) (qm : Nat) (vpc : Int32) (vst : Int32) (vc : Int32) (vd : Int32) (vs : Int32) (vo : Int32) (vi : Int32) (vn : Int32) (qa : Nat) (ga : Nat → Int32) (a1 : Int32) (hP : va_P G vwCl [(m0, .inr (5, [.int vth, .ref qt, .int vtp, .ref qp, .int vpl, .ref qr, .ref qm, .int vpc, .int vst, .int vc, .int vd, .int vs, .int vo, .int vi, .int vn])), (qa, .inl (cI, 32768, .inl ga))] Hp) (hD : va_D (fun _ => True) [(m0, .inr (5, [.int vth, .ref qt, .int vtp, .ref qp, .int vpl, .ref qr, .ref qm, .int vpc, .int vst, .int vc, .int vd, .int vs, .int vo, .int vi, .int vn])), (qa, .inl (cI, 32768, .inl ga))]) (hp0 : 0 ≤ a1.toInt) (hp1 : a1.toInt < 4096) : Met l yMo_take wsMo_take ({ frames := 1, cells := 0, slots := 0, locals := 24 }) (va_Pc [.ref m0, .ref qa, .int a1] (fun U => U.heap = Hp ∧ va_K G vwCl [(cB, .byte), (cL, .long), (cI, .int)] U)) (va_Qv (fun (u : (Int32) × (Int32) × (Int32) × (Int32) × (Int32)) => u = (f_Mo_take ga a1)) (fun (u : (Int32) × (Int32) × (Int32) × (Int32) × (Int32)) t => va_P G vwCl [(m0, .inr (5, [.int vth, .ref qt, .int vtp, .ref qp, .int vpl, .ref qr, .ref qm, .int vpc, .int vst, .int (u.1), .int (u.2.1), .int (u.2.2.1), .int (u.2.2.2.1), .int (u.2.2.2.2), .int vn])), (qa, .inl (cI, 32768, .inl ga))] t.heap ∧ va_D (va_A [(m0, .inr (5, [.int vth, .ref qt, .int vtp, .ref qp, .int vpl, .ref qr, .ref qm, .int vpc, .int vst, .int vc, .int vd, .int vs, .int vo, .int vi, .int vn])), (qa, .inl (cI, 32768, .inl ga))] Hp.size) [(m0, .inr (5, [.int vth, .ref qt, .int vtp, .ref qp, .int vpl, .ref qr, .ref qm, .int vpc, .int vst, .int (u.1), .int (u.2.1), .int (u.2.2.1), .int (u.2.2.2.1), .int (u.2.2.2.2), .int vn])), (qa, .inl (cI, 32768, .inl ga))]) (va_A [(m0, .inr (5, [.int vth, .ref qt, .int vtp, .ref qp, .int vpl, .ref qr, .ref qm, .int vpc, .int vst, .int vc, .int vd, .int vs, .int vo, .int vi, .int vn])), (qa, .inl (cI, 32768, .inl ga))] Hp.size)) 0 0 (va_A [(m0, .inr (5, [.int vth, .ref qt, .int vtp, .ref qp, .int vpl, .ref qr, .ref qm, .int vpc, .int vst, .int vc, .int vd, .int vs, .int vo, .int vi, .int vn])), (qa, .inl (cI, 32768, .inl ga))] Hp.size) := by
  refine Met.ofW (cc := cMo_take) (maxL := 3) (ret := none) (by decide) rfl ?_
  intro p e s m args below meth c s₁ B hml hv
  obtain ⟨rfl, rfl, hK⟩ := hv
  have hx := B.exec
  have hb := B.bytes
  have hr := B.returns
  have hT : ∀ w ∈ tB, w.before _ s = true := fun w h => atoms_spec (ws := wsMo_take) B.pre w (List.mem_cons_of_mem _ h)
  have hown : s.vm.findClass "CompiledProgramModel" = some m.cls := findClass_of_methodNamed B.named
  have hlocks := B.notSynchronized
  have hD := hD.self (sz := s.heap.size)
  generalize hAe : va_A [(m0, .inr (5, [.int vth, .ref qt, .int vtp, .ref qp, .int vpl, .ref qr, .ref qm, .int vpc, .int vst, .int vc, .int vd, .int vs, .int vo, .int vi, .int vn])), (qa, .inl (cI, 32768, .inl ga))] s.heap.size = A at hD ⊢
  have hA : ∀ q : Nat, s.heap.size ≤ q → A q := fun q h => by rw [← hAe]; exact Or.inr h
  have hS : va_S A s.heap s.heap [] := va_S.rf
  have hl := lv_entry ([.ref m0, .ref qa, .int a1]) (n := 3) (Nat.le_of_ble_eq_true rfl)
  rw [lg_entry_eq]
  generalize (lg_sl ([.ref m0, .ref qa, .int a1]) ++ List.replicate (3 - (lg_sl ([.ref m0, .ref qa, .int a1])).length) Slot.unset).toArray = ls at hl ⊢
  have hl : lv_has ls 3 [(0, .ref m0), (1, .ref qa), (2, .int a1)] := hl
  refine lv_aload_n hx hb dMo_take_0 rfl (lv_at hl 0 rfl) ?_
  refine lv_aload_n hx hb dMo_take_1 rfl (lv_at hl 1 rfl) ?_
  refine lv_bipush (v := (8 : Int32)) hx hb dMo_take_2 (by decide) ?_
  refine lv_iload_n hx hb dMo_take_4 rfl (lv_at hl 2 rfl) ?_
  refine lv_imul hx hb dMo_take_5 ?_
  refine va_iald hx hb hK hP 1 2 rfl rfl (tk_in0 hp0 hp1) dMo_take_6 ?_
  refine va_put (D := G) (ci := 5) (v := .int (ga ((8 : Int32) * a1).toNatClampNeg)) (ty := .int) (C := RMo) (T := TMo) (N := 15) hx hb hT inMo tyMo tyMo_ok nmMo hown hK hP hD hS 0 rfl rfl 9 (by decide) (hT _ mw_574) (fun _ h9 => h9) rfl (by decide +kernel) rfl rfl (Nat.le_of_ble_eq_true rfl) dMo_take_7 (fun H locs hP hD hS => ?_)
  have hP : va_P G vwCl [(m0, .inr (5, [.int vth, .ref qt, .int vtp, .ref qp, .int vpl, .ref qr, .ref qm, .int vpc, .int vst, .int (ga ((8 : Int32) * a1).toNatClampNeg), .int vd, .int vs, .int vo, .int vi, .int vn])), (qa, .inl (cI, 32768, .inl ga))] H := hP
  have hD : va_D A [(m0, .inr (5, [.int vth, .ref qt, .int vtp, .ref qp, .int vpl, .ref qr, .ref qm, .int vpc, .int vst, .int (ga ((8 : Int32) * a1).toNatClampNeg), .int vd, .int vs, .int vo, .int vi, .int vn])), (qa, .inl (cI, 32768, .inl ga))] := hD
  refine lv_aload_n hx hb dMo_take_10 rfl (lv_at hl 0 rfl) ?_
  refine lv_aload_n hx hb dMo_take_11 rfl (lv_at hl 1 rfl) ?_
  refine lv_bipush (v := (8 : Int32)) hx hb dMo_take_12 (by decide) ?_
  refine lv_iload_n hx hb dMo_take_14 rfl (lv_at hl 2 rfl) ?_
  refine lv_imul hx hb dMo_take_15 ?_
  refine lv_iconst (v := (1 : Int32)) hx hb dMo_take_16 (by decide) ?_
  refine lv_iadd hx hb dMo_take_17 ?_
  refine va_iald hx hb hK hP 1 2 rfl rfl (tk_in1 hp0 hp1) dMo_take_18 ?_
  refine lv_bipush (v := (15 : Int32)) hx hb dMo_take_19 (by decide) ?_
  refine lv_iand hx hb dMo_take_21 ?_
  refine va_put (D := G) (ci := 5) (v := .int ((ga (((8 : Int32) * a1) + (1 : Int32)).toNatClampNeg) &&& (15 : Int32))) (ty := .int) (C := RMo) (T := TMo) (N := 15) hx hb hT inMo tyMo tyMo_ok nmMo hown hK hP hD hS 0 rfl rfl 10 (by decide) (hT _ mw_575) (fun _ h9 => h9) rfl (by decide +kernel) rfl rfl (Nat.le_of_ble_eq_true rfl) dMo_take_22 (fun H locs hP hD hS => ?_)
  have hP : va_P G vwCl [(m0, .inr (5, [.int vth, .ref qt, .int vtp, .ref qp, .int vpl, .ref qr, .ref qm, .int vpc, .int vst, .int (ga ((8 : Int32) * a1).toNatClampNeg), .int ((ga (((8 : Int32) * a1) + (1 : Int32)).toNatClampNeg) &&& (15 : Int32)), .int vs, .int vo, .int vi, .int vn])), (qa, .inl (cI, 32768, .inl ga))] H := hP
  have hD : va_D A [(m0, .inr (5, [.int vth, .ref qt, .int vtp, .ref qp, .int vpl, .ref qr, .ref qm, .int vpc, .int vst, .int (ga ((8 : Int32) * a1).toNatClampNeg), .int ((ga (((8 : Int32) * a1) + (1 : Int32)).toNatClampNeg) &&& (15 : Int32)), .int vs, .int vo, .int vi, .int vn])), (qa, .inl (cI, 32768, .inl ga))] := hD
  refine lv_aload_n hx hb dMo_take_25 rfl (lv_at hl 0 rfl) ?_
  refine lv_aload_n hx hb dMo_take_26 rfl (lv_at hl 1 rfl) ?_
  refine lv_bipush (v := (8 : Int32)) hx hb dMo_take_27 (by decide) ?_
  refine lv_iload_n hx hb dMo_take_29 rfl (lv_at hl 2 rfl) ?_
  refine lv_imul hx hb dMo_take_30 ?_
  refine lv_iconst (v := (1 : Int32)) hx hb dMo_take_31 (by decide) ?_
  refine lv_iadd hx hb dMo_take_32 ?_
  refine va_iald hx hb hK hP 1 2 rfl rfl (tk_in1 hp0 hp1) dMo_take_33 ?_
  refine lv_iconst (v := (4 : Int32)) hx hb dMo_take_34 (by decide) ?_
  refine lv_ishr hx hb dMo_take_35 ?_
  refine va_put (D := G) (ci := 5) (v := .int ((ga (((8 : Int32) * a1) + (1 : Int32)).toNatClampNeg) >>> ((4 : Int32) &&& 31))) (ty := .int) (C := RMo) (T := TMo) (N := 15) hx hb hT inMo tyMo tyMo_ok nmMo hown hK hP hD hS 0 rfl rfl 11 (by decide) (hT _ mw_576) (fun _ h9 => h9) rfl (by decide +kernel) rfl rfl (Nat.le_of_ble_eq_true rfl) dMo_take_36 (fun H locs hP hD hS => ?_)
  have hP : va_P G vwCl [(m0, .inr (5, [.int vth, .ref qt, .int vtp, .ref qp, .int vpl, .ref qr, .ref qm, .int vpc, .int vst, .int (ga ((8 : Int32) * a1).toNatClampNeg), .int ((ga (((8 : Int32) * a1) + (1 : Int32)).toNatClampNeg) &&& (15 : Int32)), .int ((ga (((8 : Int32) * a1) + (1 : Int32)).toNatClampNeg) >>> ((4 : Int32) &&& 31)), .int vo, .int vi, .int vn])), (qa, .inl (cI, 32768, .inl ga))] H := hP
  have hD : va_D A [(m0, .inr (5, [.int vth, .ref qt, .int vtp, .ref qp, .int vpl, .ref qr, .ref qm, .int vpc, .int vst, .int (ga ((8 : Int32) * a1).toNatClampNeg), .int ((ga (((8 : Int32) * a1) + (1 : Int32)).toNatClampNeg) &&& (15 : Int32)), .int ((ga (((8 : Int32) * a1) + (1 : Int32)).toNatClampNeg) >>> ((4 : Int32) &&& 31)), .int vo, .int vi, .int vn])), (qa, .inl (cI, 32768, .inl ga))] := hD
  refine lv_aload_n hx hb dMo_take_39 rfl (lv_at hl 0 rfl) ?_
  refine lv_aload_n hx hb dMo_take_40 rfl (lv_at hl 1 rfl) ?_
  refine lv_bipush (v := (8 : Int32)) hx hb dMo_take_41 (by decide) ?_
  refine lv_iload_n hx hb dMo_take_43 rfl (lv_at hl 2 rfl) ?_
  refine lv_imul hx hb dMo_take_44 ?_
  refine lv_iconst (v := (2 : Int32)) hx hb dMo_take_45 (by decide) ?_
  refine lv_iadd hx hb dMo_take_46 ?_
  refine lv_iconst (v := (2 : Int32)) hx hb dMo_take_47 (by decide) ?_
  have hPc := hP.sub (ws' := [(qa, .inl (cI, 32768, .inl ga))]) [1] rfl
  refine va_calli (va_runS (As := [.ref qa, .int (((8 : Int32) * a1) + (2 : Int32)), .int (2 : Int32)]) (rest := [.ref m0]) ⟨hx, hb, hml, hown, hT⟩ (c_Mo_number l G cB cL cI H qa ga (((8 : Int32) * a1) + (2 : Int32)) (2 : Int32) hPc (tk_n2 hp0 hp1).1 (by decide) (tk_n2 hp0 hp1).2) (cwS 3 hT (gB_S mw_640 mw_641 mw_6 mw_642) rfl rfl rfl (by decide +kernel) ⟨Nat.le_of_ble_eq_true rfl, Nat.le_of_ble_eq_true rfl⟩) ⟨fun a U g mk q => ⟨q.1, q.2.1, va_K.moved (u := U) (U := U.calling g mk a) (Vm.Alike.refl U.vm) q.2.2⟩, fun U hU hW => ⟨rfl, hU, va_K.moved hW.alike hK⟩⟩ rfl rfl hl.1 rfl (lv_room (Nat.le_of_ble_eq_true rfl)) dMo_take_48 ⟨Nat.zero_le _, Nat.zero_le _⟩) hS (fun _ _ h => h.elim) (fun _ h => h.elim) (fun r u t H1 locs ht hvm hw hB hz8 hk8 hS => ?_)
  obtain rfl : H = H1 := hB.symm.trans ht
  subst hw
  refine lv_i2s (v := (j_i2s (f_Mo_number ga (((8 : Int32) * a1) + (2 : Int32)) (2 : Int32)))) hx hb dMo_take_51 rfl ?_
  refine va_put (D := G) (ci := 5) (v := .int (j_i2s (f_Mo_number ga (((8 : Int32) * a1) + (2 : Int32)) (2 : Int32)))) (ty := .int) (C := RMo) (T := TMo) (N := 15) hx hb hT inMo tyMo tyMo_ok nmMo hown hK hP hD hS 0 rfl rfl 12 (by decide) (hT _ mw_577) (fun _ h9 => h9) rfl (by decide +kernel) rfl rfl (Nat.le_of_ble_eq_true rfl) dMo_take_52 (fun H locs hP hD hS => ?_)
  have hP : va_P G vwCl [(m0, .inr (5, [.int vth, .ref qt, .int vtp, .ref qp, .int vpl, .ref qr, .ref qm, .int vpc, .int vst, .int (ga ((8 : Int32) * a1).toNatClampNeg), .int ((ga (((8 : Int32) * a1) + (1 : Int32)).toNatClampNeg) &&& (15 : Int32)), .int ((ga (((8 : Int32) * a1) + (1 : Int32)).toNatClampNeg) >>> ((4 : Int32) &&& 31)), .int (j_i2s (f_Mo_number ga (((8 : Int32) * a1) + (2 : Int32)) (2 : Int32))), .int vi, .int vn])), (qa, .inl (cI, 32768, .inl ga))] H := hP
  have hD : va_D A [(m0, .inr (5, [.int vth, .ref qt, .int vtp, .ref qp, .int vpl, .ref qr, .ref qm, .int vpc, .int vst, .int (ga ((8 : Int32) * a1).toNatClampNeg), .int ((ga (((8 : Int32) * a1) + (1 : Int32)).toNatClampNeg) &&& (15 : Int32)), .int ((ga (((8 : Int32) * a1) + (1 : Int32)).toNatClampNeg) >>> ((4 : Int32) &&& 31)), .int (j_i2s (f_Mo_number ga (((8 : Int32) * a1) + (2 : Int32)) (2 : Int32))), .int vi, .int vn])), (qa, .inl (cI, 32768, .inl ga))] := hD
  refine lv_aload_n hx hb dMo_take_55 rfl (lv_at hl 0 rfl) ?_
  refine lv_aload_n hx hb dMo_take_56 rfl (lv_at hl 1 rfl) ?_
  refine lv_bipush (v := (8 : Int32)) hx hb dMo_take_57 (by decide) ?_
  refine lv_iload_n hx hb dMo_take_59 rfl (lv_at hl 2 rfl) ?_
  refine lv_imul hx hb dMo_take_60 ?_
  refine lv_iconst (v := (4 : Int32)) hx hb dMo_take_61 (by decide) ?_
  refine lv_iadd hx hb dMo_take_62 ?_
  refine lv_iconst (v := (4 : Int32)) hx hb dMo_take_63 (by decide) ?_
  have hPc := hP.sub (ws' := [(qa, .inl (cI, 32768, .inl ga))]) [1] rfl
  refine va_calli (va_runS (As := [.ref qa, .int (((8 : Int32) * a1) + (4 : Int32)), .int (4 : Int32)]) (rest := [.ref m0]) ⟨hx, hb, hml, hown, hT⟩ (c_Mo_number l G cB cL cI H qa ga (((8 : Int32) * a1) + (4 : Int32)) (4 : Int32) hPc (tk_n4 hp0 hp1).1 (by decide) (tk_n4 hp0 hp1).2) (cwS 3 hT (gB_S mw_640 mw_641 mw_6 mw_642) rfl rfl rfl (by decide +kernel) ⟨Nat.le_of_ble_eq_true rfl, Nat.le_of_ble_eq_true rfl⟩) ⟨fun a U g mk q => ⟨q.1, q.2.1, va_K.moved (u := U) (U := U.calling g mk a) (Vm.Alike.refl U.vm) q.2.2⟩, fun U hU hW => ⟨rfl, hU, va_K.moved hW.alike hK⟩⟩ rfl rfl hl.1 rfl (lv_room (Nat.le_of_ble_eq_true rfl)) dMo_take_64 ⟨Nat.zero_le _, Nat.zero_le _⟩) hS (fun _ _ h => h.elim) (fun _ h => h.elim) (fun r u t H1 locs ht hvm hw hB hz8 hk8 hS => ?_)
  obtain rfl : H = H1 := hB.symm.trans ht
  subst hw
  refine va_put (D := G) (ci := 5) (v := .int (f_Mo_number ga (((8 : Int32) * a1) + (4 : Int32)) (4 : Int32))) (ty := .int) (C := RMo) (T := TMo) (N := 15) hx hb hT inMo tyMo tyMo_ok nmMo hown hK hP hD hS 0 rfl rfl 13 (by decide) (hT _ mw_578) (fun _ h9 => h9) rfl (by decide +kernel) rfl rfl (Nat.le_of_ble_eq_true rfl) dMo_take_67 (fun H locs hP hD hS => ?_)
  have hP : va_P G vwCl [(m0, .inr (5, [.int vth, .ref qt, .int vtp, .ref qp, .int vpl, .ref qr, .ref qm, .int vpc, .int vst, .int (ga ((8 : Int32) * a1).toNatClampNeg), .int ((ga (((8 : Int32) * a1) + (1 : Int32)).toNatClampNeg) &&& (15 : Int32)), .int ((ga (((8 : Int32) * a1) + (1 : Int32)).toNatClampNeg) >>> ((4 : Int32) &&& 31)), .int (j_i2s (f_Mo_number ga (((8 : Int32) * a1) + (2 : Int32)) (2 : Int32))), .int (f_Mo_number ga (((8 : Int32) * a1) + (4 : Int32)) (4 : Int32)), .int vn])), (qa, .inl (cI, 32768, .inl ga))] H := hP
  have hD : va_D A [(m0, .inr (5, [.int vth, .ref qt, .int vtp, .ref qp, .int vpl, .ref qr, .ref qm, .int vpc, .int vst, .int (ga ((8 : Int32) * a1).toNatClampNeg), .int ((ga (((8 : Int32) * a1) + (1 : Int32)).toNatClampNeg) &&& (15 : Int32)), .int ((ga (((8 : Int32) * a1) + (1 : Int32)).toNatClampNeg) >>> ((4 : Int32) &&& 31)), .int (j_i2s (f_Mo_number ga (((8 : Int32) * a1) + (2 : Int32)) (2 : Int32))), .int (f_Mo_number ga (((8 : Int32) * a1) + (4 : Int32)) (4 : Int32)), .int vn])), (qa, .inl (cI, 32768, .inl ga))] := hD
  have hP9 := hP.sub (ws' := [(m0, .inr (5, [.int vth, .ref qt, .int vtp, .ref qp, .int vpl, .ref qr, .ref qm, .int vpc, .int vst, .int (ga ((8 : Int32) * a1).toNatClampNeg), .int ((ga (((8 : Int32) * a1) + (1 : Int32)).toNatClampNeg) &&& (15 : Int32)), .int ((ga (((8 : Int32) * a1) + (1 : Int32)).toNatClampNeg) >>> ((4 : Int32) &&& 31)), .int (j_i2s (f_Mo_number ga (((8 : Int32) * a1) + (2 : Int32)) (2 : Int32))), .int (f_Mo_number ga (((8 : Int32) * a1) + (4 : Int32)) (4 : Int32)), .int vn])), (qa, .inl (cI, 32768, .inl ga))]) [0, 1] rfl
  have hD9 := hD.sub (ws' := [(m0, .inr (5, [.int vth, .ref qt, .int vtp, .ref qp, .int vpl, .ref qr, .ref qm, .int vpc, .int vst, .int (ga ((8 : Int32) * a1).toNatClampNeg), .int ((ga (((8 : Int32) * a1) + (1 : Int32)).toNatClampNeg) &&& (15 : Int32)), .int ((ga (((8 : Int32) * a1) + (1 : Int32)).toNatClampNeg) >>> ((4 : Int32) &&& 31)), .int (j_i2s (f_Mo_number ga (((8 : Int32) * a1) + (2 : Int32)) (2 : Int32))), .int (f_Mo_number ga (((8 : Int32) * a1) + (4 : Int32)) (4 : Int32)), .int vn])), (qa, .inl (cI, 32768, .inl ga))]) [0, 1] (by decide) rfl
  exact W.vret hx hb hr (fun t ht hW => ⟨⟨((ga ((8 : Int32) * a1).toNatClampNeg), ((ga (((8 : Int32) * a1) + (1 : Int32)).toNatClampNeg) &&& (15 : Int32)), ((ga (((8 : Int32) * a1) + (1 : Int32)).toNatClampNeg) >>> ((4 : Int32) &&& 31)), (j_i2s (f_Mo_number ga (((8 : Int32) * a1) + (2 : Int32)) (2 : Int32))), (f_Mo_number ga (((8 : Int32) * a1) + (4 : Int32)) (4 : Int32))), rfl, rfl, by rw [ht]; exact hP9, hD9⟩, hS.F ht⟩) hS.2.2 dMo_take_70
