def l_Mo_wrongPlace_2 (vtp : Int32) (vc : Int32) (vd : Int32) (vs : Int32) (vo : Int32) (vi : Int32) (gt : Nat → Int32) (a0 : Int32) : Nat → (Int32) → (Int32) → (Int32) → (Int32) → (Int32) → (Int32) → Int32 × (Int32) × (Int32) × (Int32) × (Int32) × (Int32)
  | 0, _, _, _, _, _, _ => default
  | n + 1, p9, c9, d9, s9, o9, i9 =>
    if a0 ≤ p9 then
      if (vtp - (vtp / (8 : Int32)) * (8 : Int32)) = 0 then
        if a0 = 0 then
          (a0, c9, d9, s9, o9, i9)
        else
          ((-1 : Int32), c9, d9, s9, o9, i9)
      else
        (a0, c9, d9, s9, o9, i9)
    else
      if (f_Mo_isInstruction gt p9 a0).1 = true then
        l_Mo_wrongPlace_2 vtp vc vd vs vo vi gt a0 n (if (f_Mo_isWide ((f_Mo_isInstruction gt p9 a0).2.1)) = true then (p9 + (2 : Int32)) else (p9 + (1 : Int32))) ((f_Mo_isInstruction gt p9 a0).2.1) ((f_Mo_isInstruction gt p9 a0).2.2.1) ((f_Mo_isInstruction gt p9 a0).2.2.2.1) ((f_Mo_isInstruction gt p9 a0).2.2.2.2.1) ((f_Mo_isInstruction gt p9 a0).2.2.2.2.2)
      else
        (p9, ((f_Mo_isInstruction gt p9 a0).2.1), ((f_Mo_isInstruction gt p9 a0).2.2.1), ((f_Mo_isInstruction gt p9 a0).2.2.2.1), ((f_Mo_isInstruction gt p9 a0).2.2.2.2.1), ((f_Mo_isInstruction gt p9 a0).2.2.2.2.2))
def f_Mo_wrongPlace (vtp : Int32) (vc : Int32) (vd : Int32) (vs : Int32) (vo : Int32) (vi : Int32) (gt : Nat → Int32) (a0 : Int32) : Int32 × (Int32) × (Int32) × (Int32) × (Int32) × (Int32) :=
  l_Mo_wrongPlace_2 vtp vc vd vs vo vi gt a0 (a0.toNatClampNeg + 1) (0 : Int32) vc vd vs vo vi
set_option maxHeartbeats 4000000 in
set_option maxRecDepth 100000 in
theorem c_Mo_wrongPlace (l : Launch) (G : va_G) (cB cL cI : ClassId) (Hp : Heap) (m0 : Nat) (vth : Int32) (qt : Nat) (vtp : Int32) (qp : Nat) (vpl : Int32) (qr : Nat) (qm : Nat) (vpc : Int32) (vst : Int32) (vc : Int32) (vd : Int32) (vs : Int32) (vo : Int32) (vi : Int32) (vn : Int32) (gt : Nat → Int32) (a0 : Int32) (hP : va_P G vwCl [(m0, .inr (5, [.int vth, .ref qt, .int vtp, .ref qp, .int vpl, .ref qr, .ref qm, .int vpc, .int vst, .int vc, .int vd, .int vs, .int vo, .int vi, .int vn])), (qt, .inl (cI, 32768, .inl gt))] Hp) (hD : va_D (fun _ => True) [(m0, .inr (5, [.int vth, .ref qt, .int vtp, .ref qp, .int vpl, .ref qr, .ref qm, .int vpc, .int vst, .int vc, .int vd, .int vs, .int vo, .int vi, .int vn])), (qt, .inl (cI, 32768, .inl gt))]) (ha : a0.toInt ≤ 4096) : Met l yMo_wrongPlace wsMo_wrongPlace ({ frames := 4, cells := 0, slots := 0, locals := 87 }) (va_Pc [.ref m0, .int a0] (fun U => U.heap = Hp ∧ va_K G vwCl [(cB, .byte), (cL, .long), (cI, .int)] U)) (va_Qi (fun (r : Int32) (u : (Int32) × (Int32) × (Int32) × (Int32) × (Int32)) => (r, u) = (f_Mo_wrongPlace vtp vc vd vs vo vi gt a0)) (fun (u : (Int32) × (Int32) × (Int32) × (Int32) × (Int32)) t => va_P G vwCl [(m0, .inr (5, [.int vth, .ref qt, .int vtp, .ref qp, .int vpl, .ref qr, .ref qm, .int vpc, .int vst, .int (u.1), .int (u.2.1), .int (u.2.2.1), .int (u.2.2.2.1), .int (u.2.2.2.2), .int vn])), (qt, .inl (cI, 32768, .inl gt))] t.heap ∧ va_D (va_A [(m0, .inr (5, [.int vth, .ref qt, .int vtp, .ref qp, .int vpl, .ref qr, .ref qm, .int vpc, .int vst, .int vc, .int vd, .int vs, .int vo, .int vi, .int vn])), (qt, .inl (cI, 32768, .inl gt))] Hp.size) [(m0, .inr (5, [.int vth, .ref qt, .int vtp, .ref qp, .int vpl, .ref qr, .ref qm, .int vpc, .int vst, .int (u.1), .int (u.2.1), .int (u.2.2.1), .int (u.2.2.2.1), .int (u.2.2.2.2), .int vn])), (qt, .inl (cI, 32768, .inl gt))]) (va_A [(m0, .inr (5, [.int vth, .ref qt, .int vtp, .ref qp, .int vpl, .ref qr, .ref qm, .int vpc, .int vst, .int vc, .int vd, .int vs, .int vo, .int vi, .int vn])), (qt, .inl (cI, 32768, .inl gt))] Hp.size)) 0 0 (va_A [(m0, .inr (5, [.int vth, .ref qt, .int vtp, .ref qp, .int vpl, .ref qr, .ref qm, .int vpc, .int vst, .int vc, .int vd, .int vs, .int vo, .int vi, .int vn])), (qt, .inl (cI, 32768, .inl gt))] Hp.size) := by
  refine Met.ofW (cc := cMo_wrongPlace) (maxL := 3) (ret := (some .int)) (by decide) rfl ?_
  intro p e s m args below meth c s₁ B hml hv
  obtain ⟨rfl, rfl, hK⟩ := hv
  have hx := B.exec
  have hb := B.bytes
  have hr := B.returns
  have hT : ∀ w ∈ tB, w.before _ s = true := fun w h => atoms_spec (ws := wsMo_wrongPlace) B.pre w (List.mem_cons_of_mem _ h)
  have hown : s.vm.findClass "CompiledProgramModel" = some m.cls := findClass_of_methodNamed B.named
  have hlocks := B.notSynchronized
  have hD := hD.self (sz := s.heap.size)
  generalize hAe : va_A [(m0, .inr (5, [.int vth, .ref qt, .int vtp, .ref qp, .int vpl, .ref qr, .ref qm, .int vpc, .int vst, .int vc, .int vd, .int vs, .int vo, .int vi, .int vn])), (qt, .inl (cI, 32768, .inl gt))] s.heap.size = A at hD ⊢
  have hA : ∀ q : Nat, s.heap.size ≤ q → A q := fun q h => by rw [← hAe]; exact Or.inr h
  have hS : va_S A s.heap s.heap [] := va_S.rf
  have hl := lv_entry ([.ref m0, .int a0]) (n := 3) (Nat.le_of_ble_eq_true rfl)
  rw [lg_entry_eq]
  generalize (lg_sl ([.ref m0, .int a0]) ++ List.replicate (3 - (lg_sl ([.ref m0, .int a0])).length) Slot.unset).toArray = ls at hl ⊢
  have hl : lv_has ls 3 [(0, .ref m0), (1, .int a0)] := hl
  refine lv_iconst (v := (0 : Int32)) hx hb dMo_wrongPlace_0 (by decide) ?_
  refine lv_istore_n (lv' := [(2, .int (0 : Int32)), (0, .ref m0), (1, .int a0)]) hx hb dMo_wrongPlace_1 rfl hl (by decide) rfl (fun ls hl => ?_)
  have loop : ∀ (n : Nat) (p9 : Int32) (c9 : Int32) (d9 : Int32) (s9 : Int32) (o9 : Int32) (i9 : Int32), (0 ≤ p9.toInt) → (a0.toInt - p9.toInt).toNat < n → (f_Mo_wrongPlace vtp vc vd vs vo vi gt a0) = l_Mo_wrongPlace_2 vtp vc vd vs vo vi gt a0 n p9 c9 d9 s9 o9 i9 → ∀ (H : Heap), va_P G vwCl [(m0, .inr (5, [.int vth, .ref qt, .int vtp, .ref qp, .int vpl, .ref qr, .ref qm, .int vpc, .int vst, .int c9, .int d9, .int s9, .int o9, .int i9, .int vn])), (qt, .inl (cI, 32768, .inl gt))] H → va_D A [(m0, .inr (5, [.int vth, .ref qt, .int vtp, .ref qp, .int vpl, .ref qr, .ref qm, .int vpc, .int vst, .int c9, .int d9, .int s9, .int o9, .int i9, .int vn])), (qt, .inl (cI, 32768, .inl gt))] → ∀ (locs : List Loc), va_S A s.heap H locs → ∀ (ls : Array Slot), lv_has ls 3 [(2, .int p9), (0, .ref m0), (1, .int a0)] → W p l e (headSpec wsMo_wrongPlace ({ frames := 4, cells := 0, slots := 0, locals := 87 })).room s m ([.ref m0, .int a0] : List Value).toArray below meth c H locs 0 0 (MQ below (va_Qi (fun (r : Int32) (u : (Int32) × (Int32) × (Int32) × (Int32) × (Int32)) => (r, u) = (f_Mo_wrongPlace vtp vc vd vs vo vi gt a0)) (fun (u : (Int32) × (Int32) × (Int32) × (Int32) × (Int32)) t => va_P G vwCl [(m0, .inr (5, [.int vth, .ref qt, .int vtp, .ref qp, .int vpl, .ref qr, .ref qm, .int vpc, .int vst, .int (u.1), .int (u.2.1), .int (u.2.2.1), .int (u.2.2.2.1), .int (u.2.2.2.2), .int vn])), (qt, .inl (cI, 32768, .inl gt))] t.heap ∧ va_D (A) [(m0, .inr (5, [.int vth, .ref qt, .int vtp, .ref qp, .int vpl, .ref qr, .ref qm, .int vpc, .int vst, .int (u.1), .int (u.2.1), .int (u.2.2.1), .int (u.2.2.2.1), .int (u.2.2.2.2), .int vn])), (qt, .inl (cI, 32768, .inl gt))]) (A)) ([.ref m0, .int a0] : List Value).toArray s 0 0 A) (F0 m 2 ls []) := by
    intro n
    induction n with
    | zero =>
      intro p9 c9 d9 s9 o9 i9 hp hM
      exact absurd hM (Nat.not_lt_zero _)
    | succ n ih =>
      intro p9 c9 d9 s9 o9 i9 hp hM hE H hP hD locs hS ls hl
      refine lv_iload_n hx hb dMo_wrongPlace_2 rfl (lv_at hl 0 rfl) ?_
      refine lv_iload_n hx hb dMo_wrongPlace_3 rfl (lv_at hl 2 rfl) ?_
      refine lv_icmp_ge (tgt := 42) hx hb dMo_wrongPlace_4 (by decide) (fun c1 => ?_) (fun c1 => ?_)
      · skip
        refine lv_aload_n hx hb dMo_wrongPlace_42 rfl (lv_at hl 1 rfl) ?_
        refine va_get (D := G) (ci := 5) (v := .int vtp) (C := RMo) (T := TMo) (N := 15) hx hb hT inMo hown hK hP 0 rfl rfl 2 (by decide) (hT _ mw_567) (fun _ h9 => h9) rfl dMo_wrongPlace_43 ?_
        refine lv_bipush (v := (8 : Int32)) hx hb dMo_wrongPlace_46 (by decide) ?_
        refine lv_irem hx hb dMo_wrongPlace_48 (by decide) ?_
        refine lv_if_ne (tgt := 56) hx hb dMo_wrongPlace_49 (by decide) (fun c2 => ?_) (fun c2 => ?_)
        · skip
          refine lv_iload_n hx hb dMo_wrongPlace_56 rfl (lv_at hl 2 rfl) ?_
          refine lv_goto (tgt := 61) hx hb dMo_wrongPlace_57 (by decide) ?_
          have hP9 := hP.sub (ws' := [(m0, .inr (5, [.int vth, .ref qt, .int vtp, .ref qp, .int vpl, .ref qr, .ref qm, .int vpc, .int vst, .int c9, .int d9, .int s9, .int o9, .int i9, .int vn])), (qt, .inl (cI, 32768, .inl gt))]) [0, 1] rfl
          have hD9 := hD.sub (ws' := [(m0, .inr (5, [.int vth, .ref qt, .int vtp, .ref qp, .int vpl, .ref qr, .ref qm, .int vpc, .int vst, .int c9, .int d9, .int s9, .int o9, .int i9, .int vn])), (qt, .inl (cI, 32768, .inl gt))]) [0, 1] (by decide) rfl
          exact W.iret (v := a0) hx hb hr (fun t ht hW => ⟨⟨a0, (c9, d9, s9, o9, i9), rfl, (by rw [hE, l_Mo_wrongPlace_2, if_pos c1, if_neg c2]; try rfl), by rw [ht]; exact hP9, hD9⟩, hS.F ht⟩) hS.2.2 dMo_wrongPlace_61
        · skip
          refine lv_iload_n hx hb dMo_wrongPlace_52 rfl (lv_at hl 2 rfl) ?_
          refine lv_if_ne (tgt := 60) hx hb dMo_wrongPlace_53 (by decide) (fun c3 => ?_) (fun c3 => ?_)
          · skip
            refine lv_iconst (v := (-1 : Int32)) hx hb dMo_wrongPlace_60 (by decide) ?_
            have hP9 := hP.sub (ws' := [(m0, .inr (5, [.int vth, .ref qt, .int vtp, .ref qp, .int vpl, .ref qr, .ref qm, .int vpc, .int vst, .int c9, .int d9, .int s9, .int o9, .int i9, .int vn])), (qt, .inl (cI, 32768, .inl gt))]) [0, 1] rfl
            have hD9 := hD.sub (ws' := [(m0, .inr (5, [.int vth, .ref qt, .int vtp, .ref qp, .int vpl, .ref qr, .ref qm, .int vpc, .int vst, .int c9, .int d9, .int s9, .int o9, .int i9, .int vn])), (qt, .inl (cI, 32768, .inl gt))]) [0, 1] (by decide) rfl
            exact W.iret (v := (-1 : Int32)) hx hb hr (fun t ht hW => ⟨⟨(-1 : Int32), (c9, d9, s9, o9, i9), rfl, (by rw [hE, l_Mo_wrongPlace_2, if_pos c1, if_pos c2, if_neg c3]; try rfl), by rw [ht]; exact hP9, hD9⟩, hS.F ht⟩) hS.2.2 dMo_wrongPlace_61
          · skip
            refine lv_iload_n hx hb dMo_wrongPlace_56 rfl (lv_at hl 2 rfl) ?_
            refine lv_goto (tgt := 61) hx hb dMo_wrongPlace_57 (by decide) ?_
            have hP9 := hP.sub (ws' := [(m0, .inr (5, [.int vth, .ref qt, .int vtp, .ref qp, .int vpl, .ref qr, .ref qm, .int vpc, .int vst, .int c9, .int d9, .int s9, .int o9, .int i9, .int vn])), (qt, .inl (cI, 32768, .inl gt))]) [0, 1] rfl
            have hD9 := hD.sub (ws' := [(m0, .inr (5, [.int vth, .ref qt, .int vtp, .ref qp, .int vpl, .ref qr, .ref qm, .int vpc, .int vst, .int c9, .int d9, .int s9, .int o9, .int i9, .int vn])), (qt, .inl (cI, 32768, .inl gt))]) [0, 1] (by decide) rfl
            exact W.iret (v := a0) hx hb hr (fun t ht hW => ⟨⟨a0, (c9, d9, s9, o9, i9), rfl, (by rw [hE, l_Mo_wrongPlace_2, if_pos c1, if_pos c2, if_pos c3]; try rfl), by rw [ht]; exact hP9, hD9⟩, hS.F ht⟩) hS.2.2 dMo_wrongPlace_61
      · skip
        refine lv_aload_n hx hb dMo_wrongPlace_7 rfl (lv_at hl 1 rfl) ?_
        refine lv_aload_n hx hb dMo_wrongPlace_8 rfl (lv_at hl 1 rfl) ?_
        refine va_get (D := G) (ci := 5) (v := .ref qt) (C := RMo) (T := TMo) (N := 15) hx hb hT inMo hown hK hP 0 rfl rfl 1 (by decide) (hT _ mw_566) (fun _ h9 => h9) rfl dMo_wrongPlace_9 ?_
        refine lv_iload_n hx hb dMo_wrongPlace_12 rfl (lv_at hl 0 rfl) ?_
        refine lv_iload_n hx hb dMo_wrongPlace_13 rfl (lv_at hl 2 rfl) ?_
        have hPc := hP.sub (ws' := [(m0, .inr (5, [.int vth, .ref qt, .int vtp, .ref qp, .int vpl, .ref qr, .ref qm, .int vpc, .int vst, .int c9, .int d9, .int s9, .int o9, .int i9, .int vn])), (qt, .inl (cI, 32768, .inl gt))]) [0, 1] rfl
        have hDc := hD.sub (ws' := [(m0, .inr (5, [.int vth, .ref qt, .int vtp, .ref qp, .int vpl, .ref qr, .ref qm, .int vpc, .int vst, .int c9, .int d9, .int s9, .int o9, .int i9, .int vn])), (qt, .inl (cI, 32768, .inl gt))]) [0, 1] (by decide) rfl
        have hFc := va_free (wc := [(m0, .inr (5, [.int vth, .ref qt, .int vtp, .ref qp, .int vpl, .ref qr, .ref qm, .int vpc, .int vst, .int c9, .int d9, .int s9, .int o9, .int i9, .int vn])), (qt, .inl (cI, 32768, .inl gt))]) hD hS hA [0, 1] rfl
        refine va_calli (va_runV (As := [.ref qt, .int p9, .int a0]) (rest := []) ⟨hx, hb, hml, hown, hT⟩ (c_Mo_isInstruction l G cB cL cI H m0 vth qt vtp qp vpl qr qm vpc vst c9 d9 s9 o9 i9 vn qt gt p9 a0 hPc (hDc.weaken (fun _ _ _ _ => trivial)) hp (wp_lt ha c1) ha) (cwV 3 hT (gB_V mw_632 mw_634 ms_2 mw_6 mw_635) rfl rfl rfl (by decide +kernel) ⟨Nat.le_of_ble_eq_true rfl, Nat.le_of_ble_eq_true rfl⟩) ⟨fun a U g mk q => ⟨q.1, q.2.1, va_K.moved (u := U) (U := U.calling g mk a) (Vm.Alike.refl U.vm) q.2.2⟩, va_recv hK hPc (ci := 5) (q0 := 0) rfl rfl, fun U hU hW => ⟨rfl, hU, va_K.moved hW.alike hK⟩⟩ rfl rfl hl.1 rfl (lv_room (Nat.le_of_ble_eq_true rfl)) dMo_wrongPlace_14 ⟨Nat.zero_le _, Nat.zero_le _⟩) hS (fun q _ h => hFc q h) hFc (fun r u t H locs ht hvm hw hB hz8 hk8 hS => ?_)
        obtain ⟨rfl, rfl⟩ := hw
        obtain ⟨hP1, hD1⟩ := hB
        rw [ht] at hP1
        obtain ⟨hP, hD⟩ := va_join (wr := []) (w1 := [(m0, .inr (5, [.int vth, .ref qt, .int vtp, .ref qp, .int vpl, .ref qr, .ref qm, .int vpc, .int vst, .int ((f_Mo_isInstruction gt p9 a0).2.1), .int ((f_Mo_isInstruction gt p9 a0).2.2.1), .int ((f_Mo_isInstruction gt p9 a0).2.2.2.1), .int ((f_Mo_isInstruction gt p9 a0).2.2.2.2.1), .int ((f_Mo_isInstruction gt p9 a0).2.2.2.2.2), .int vn])), (qt, .inl (cI, 32768, .inl gt))]) hP hD [0, 1] [] rfl rfl (by decide) (by decide) hk8 hFc hP1 hD1
        have hP : va_P G vwCl [(m0, .inr (5, [.int vth, .ref qt, .int vtp, .ref qp, .int vpl, .ref qr, .ref qm, .int vpc, .int vst, .int ((f_Mo_isInstruction gt p9 a0).2.1), .int ((f_Mo_isInstruction gt p9 a0).2.2.1), .int ((f_Mo_isInstruction gt p9 a0).2.2.2.1), .int ((f_Mo_isInstruction gt p9 a0).2.2.2.2.1), .int ((f_Mo_isInstruction gt p9 a0).2.2.2.2.2), .int vn])), (qt, .inl (cI, 32768, .inl gt))] H := hP
        have hD : va_D A [(m0, .inr (5, [.int vth, .ref qt, .int vtp, .ref qp, .int vpl, .ref qr, .ref qm, .int vpc, .int vst, .int ((f_Mo_isInstruction gt p9 a0).2.1), .int ((f_Mo_isInstruction gt p9 a0).2.2.1), .int ((f_Mo_isInstruction gt p9 a0).2.2.2.1), .int ((f_Mo_isInstruction gt p9 a0).2.2.2.2.1), .int ((f_Mo_isInstruction gt p9 a0).2.2.2.2.2), .int vn])), (qt, .inl (cI, 32768, .inl gt))] := hD
        refine lv_if_ne (tgt := 22) hx hb dMo_wrongPlace_17 (by decide) (fun c4 => ?_) (fun c4 => ?_)
        · have c4 := bI_n c4
          refine lv_aload_n hx hb dMo_wrongPlace_22 rfl (lv_at hl 1 rfl) ?_
          have hPc := hP.sub (ws' := [(m0, .inr (5, [.int vth, .ref qt, .int vtp, .ref qp, .int vpl, .ref qr, .ref qm, .int vpc, .int vst, .int ((f_Mo_isInstruction gt p9 a0).2.1), .int ((f_Mo_isInstruction gt p9 a0).2.2.1), .int ((f_Mo_isInstruction gt p9 a0).2.2.2.1), .int ((f_Mo_isInstruction gt p9 a0).2.2.2.2.1), .int ((f_Mo_isInstruction gt p9 a0).2.2.2.2.2), .int vn]))]) [0] rfl
          refine va_calli (va_runV (As := []) (rest := []) ⟨hx, hb, hml, hown, hT⟩ (c_Mo_isWide l G cB cL cI H m0 vth qt vtp qp vpl qr qm vpc vst ((f_Mo_isInstruction gt p9 a0).2.1) ((f_Mo_isInstruction gt p9 a0).2.2.1) ((f_Mo_isInstruction gt p9 a0).2.2.2.1) ((f_Mo_isInstruction gt p9 a0).2.2.2.2.1) ((f_Mo_isInstruction gt p9 a0).2.2.2.2.2) vn hPc ) (cwV 0 hT (gB_V mw_679 mw_681 ms_13 mw_6 mw_682) rfl rfl rfl (by decide +kernel) ⟨Nat.le_of_ble_eq_true rfl, Nat.le_of_ble_eq_true rfl⟩) ⟨fun a U g mk q => ⟨q.1, q.2.1, va_K.moved (u := U) (U := U.calling g mk a) (Vm.Alike.refl U.vm) q.2.2⟩, va_recv hK hPc (ci := 5) (q0 := 0) rfl rfl, fun U hU hW => ⟨rfl, hU, va_K.moved hW.alike hK⟩⟩ rfl rfl hl.1 rfl (lv_room (Nat.le_of_ble_eq_true rfl)) dMo_wrongPlace_23 ⟨Nat.zero_le _, Nat.zero_le _⟩) hS (fun _ _ h => h.elim) (fun _ h => h.elim) (fun r u t H1 locs ht hvm hw hB hz8 hk8 hS => ?_)
          obtain rfl : H = H1 := hB.symm.trans ht
          subst hw
          have jn5 : ∀ (x5 : Int32), x5 = (if (f_Mo_isWide ((f_Mo_isInstruction gt p9 a0).2.1)) = true then (p9 + (2 : Int32)) else (p9 + (1 : Int32))) → ∀ (locs : List Loc), va_S A s.heap H locs → W p l e (headSpec wsMo_wrongPlace ({ frames := 4, cells := 0, slots := 0, locals := 87 })).room s m ([.ref m0, .int a0] : List Value).toArray below meth c H locs 0 0 (MQ below (va_Qi (fun (r : Int32) (u : (Int32) × (Int32) × (Int32) × (Int32) × (Int32)) => (r, u) = (f_Mo_wrongPlace vtp vc vd vs vo vi gt a0)) (fun (u : (Int32) × (Int32) × (Int32) × (Int32) × (Int32)) t => va_P G vwCl [(m0, .inr (5, [.int vth, .ref qt, .int vtp, .ref qp, .int vpl, .ref qr, .ref qm, .int vpc, .int vst, .int (u.1), .int (u.2.1), .int (u.2.2.1), .int (u.2.2.2.1), .int (u.2.2.2.2), .int vn])), (qt, .inl (cI, 32768, .inl gt))] t.heap ∧ va_D (A) [(m0, .inr (5, [.int vth, .ref qt, .int vtp, .ref qp, .int vpl, .ref qr, .ref qm, .int vpc, .int vst, .int (u.1), .int (u.2.1), .int (u.2.2.1), .int (u.2.2.2.1), .int (u.2.2.2.2), .int vn])), (qt, .inl (cI, 32768, .inl gt))]) (A)) ([.ref m0, .int a0] : List Value).toArray s 0 0 A) (F0 m 38 ls [.int x5]) := by
            intro x5 hx5 locs hS
            subst hx5
            refine lv_istore_n (lv' := [(2, .int (if (f_Mo_isWide ((f_Mo_isInstruction gt p9 a0).2.1)) = true then (p9 + (2 : Int32)) else (p9 + (1 : Int32)))), (0, .ref m0), (1, .int a0)]) hx hb dMo_wrongPlace_38 rfl hl (by decide) rfl (fun ls hl => ?_)
            refine lv_goto (tgt := 2) hx hb dMo_wrongPlace_39 (by decide) ?_
            exact ih (if (f_Mo_isWide ((f_Mo_isInstruction gt p9 a0).2.1)) = true then (p9 + (2 : Int32)) else (p9 + (1 : Int32))) ((f_Mo_isInstruction gt p9 a0).2.1) ((f_Mo_isInstruction gt p9 a0).2.2.1) ((f_Mo_isInstruction gt p9 a0).2.2.2.1) ((f_Mo_isInstruction gt p9 a0).2.2.2.2.1) ((f_Mo_isInstruction gt p9 a0).2.2.2.2.2) (wp_b ha hp c1).1 (Nat.lt_of_lt_of_le (wp_b ha hp c1).2 (Nat.le_of_lt_succ hM)) (by rw [hE, l_Mo_wrongPlace_2, if_neg c1, if_pos c4]) _ hP hD _ hS ls (lv_sub hl [0, 1, 2] rfl)
          refine lv_if_eq (tgt := 35) hx hb dMo_wrongPlace_26 (by decide) (fun c6 => ?_) (fun c6 => ?_)
          · have c6 := bI_z c6
            refine lv_iload_n hx hb dMo_wrongPlace_35 rfl (lv_at hl 0 rfl) ?_
            refine lv_iconst (v := (1 : Int32)) hx hb dMo_wrongPlace_36 (by decide) ?_
            refine lv_iadd hx hb dMo_wrongPlace_37 ?_
            exact jn5 (p9 + (1 : Int32)) (by rw [if_neg c6]) _ hS
          · have c6 := bI_n c6
            refine lv_iload_n hx hb dMo_wrongPlace_29 rfl (lv_at hl 0 rfl) ?_
            refine lv_iconst (v := (2 : Int32)) hx hb dMo_wrongPlace_30 (by decide) ?_
            refine lv_iadd hx hb dMo_wrongPlace_31 ?_
            refine lv_goto (tgt := 38) hx hb dMo_wrongPlace_32 (by decide) ?_
            exact jn5 (p9 + (2 : Int32)) (by rw [if_pos c6]) _ hS
        · have c4 := bI_z c4
          refine lv_iload_n hx hb dMo_wrongPlace_20 rfl (lv_at hl 0 rfl) ?_
          have hP9 := hP.sub (ws' := [(m0, .inr (5, [.int vth, .ref qt, .int vtp, .ref qp, .int vpl, .ref qr, .ref qm, .int vpc, .int vst, .int ((f_Mo_isInstruction gt p9 a0).2.1), .int ((f_Mo_isInstruction gt p9 a0).2.2.1), .int ((f_Mo_isInstruction gt p9 a0).2.2.2.1), .int ((f_Mo_isInstruction gt p9 a0).2.2.2.2.1), .int ((f_Mo_isInstruction gt p9 a0).2.2.2.2.2), .int vn])), (qt, .inl (cI, 32768, .inl gt))]) [0, 1] rfl
          have hD9 := hD.sub (ws' := [(m0, .inr (5, [.int vth, .ref qt, .int vtp, .ref qp, .int vpl, .ref qr, .ref qm, .int vpc, .int vst, .int ((f_Mo_isInstruction gt p9 a0).2.1), .int ((f_Mo_isInstruction gt p9 a0).2.2.1), .int ((f_Mo_isInstruction gt p9 a0).2.2.2.1), .int ((f_Mo_isInstruction gt p9 a0).2.2.2.2.1), .int ((f_Mo_isInstruction gt p9 a0).2.2.2.2.2), .int vn])), (qt, .inl (cI, 32768, .inl gt))]) [0, 1] (by decide) rfl
          exact W.iret (v := p9) hx hb hr (fun t ht hW => ⟨⟨p9, (((f_Mo_isInstruction gt p9 a0).2.1), ((f_Mo_isInstruction gt p9 a0).2.2.1), ((f_Mo_isInstruction gt p9 a0).2.2.2.1), ((f_Mo_isInstruction gt p9 a0).2.2.2.2.1), ((f_Mo_isInstruction gt p9 a0).2.2.2.2.2)), rfl, (by rw [hE, l_Mo_wrongPlace_2, if_neg c1, if_neg c4]; try rfl), by rw [ht]; exact hP9, hD9⟩, hS.F ht⟩) hS.2.2 dMo_wrongPlace_21
  exact loop (a0.toNatClampNeg + 1) (0 : Int32) vc vd vs vo vi (by decide) fw_fuel rfl _ hP hD _ hS ls (lv_sub hl [0, 1, 2] rfl)

def l_Mo_isGoal_3 (gt : Nat → Int32) (a0 : Int64) (a1 : Int32) : Nat → (Int32) → Bool
  | 0, _ => default
  | n + 1, p9 =>
    if a1 ≤ p9 then
      if a0 < (0 : Int64) then
        false
      else
        if ((a1).toInt64) ≤ a0 then
          false
        else
          if ((p9).toInt64) = a0 then
            true
          else
            false
    else
      if a0 ≤ ((p9).toInt64) then
        if a0 < (0 : Int64) then
          false
        else
          if ((a1).toInt64) ≤ a0 then
            false
          else
            if ((p9).toInt64) = a0 then
              true
            else
              false
      else
        l_Mo_isGoal_3 gt a0 a1 n (if (gt ((8 : Int32) * p9).toNatClampNeg) = (24 : Int32) then (p9 + (2 : Int32)) else (p9 + (1 : Int32)))
def f_Mo_isGoal (gt : Nat → Int32) (a0 : Int64) (a1 : Int32) : Bool :=
  l_Mo_isGoal_3 gt a0 a1 (a1.toNatClampNeg + 1) (0 : Int32)
set_option maxHeartbeats 4000000 in
set_option maxRecDepth 100000 in
theorem c_Mo_isGoal (l : Launch) (G : va_G) (cB cL cI : ClassId) (Hp : Heap) (m0 : Nat) (vth : Int32) (qt : Nat) (vtp : Int32) (qp : Nat) (vpl : Int32) (qr : Nat) (qm : Nat) (vpc : Int32) (vst : Int32) (vc : Int32) (vd : Int32) (vs : Int32) (vo : Int32) (vi : Int32) (vn : Int32) (gt : Nat → Int32) (a0 : Int64) (a1 : Int32) (hP : va_P G vwCl [(m0, .inr (5, [.int vth, .ref qt, .int vtp, .ref qp, .int vpl, .ref qr, .ref qm, .int vpc, .int vst, .int vc, .int vd, .int vs, .int vo, .int vi, .int vn])), (qt, .inl (cI, 32768, .inl gt))] Hp) (ha : a1.toInt ≤ 4096) : Met l yMo_isGoal wsMo_isGoal ({ frames := 0, cells := 0, slots := 0, locals := 0 }) (va_Pc [.ref m0, .long a0, .int a1] (fun U => U.heap = Hp ∧ va_K G vwCl [(cB, .byte), (cL, .long), (cI, .int)] U)) (va_Qi (fun (r : Int32) (_ : Unit) => r = bI (f_Mo_isGoal gt a0 a1)) (fun _ t => t.heap = Hp) (fun _ => False)) 0 0 (fun _ => False) := by
  refine Met.ofW (cc := cMo_isGoal) (maxL := 5) (ret := (some .boolean)) (by decide) rfl ?_
  intro p e s m args below meth c s₁ B hml hv
  obtain ⟨rfl, rfl, hK⟩ := hv
  have hx := B.exec
  have hb := B.bytes
  have hr := B.returns
  have hT : ∀ w ∈ tB, w.before _ s = true := fun w h => atoms_spec (ws := wsMo_isGoal) B.pre w (List.mem_cons_of_mem _ h)
  have hown : s.vm.findClass "CompiledProgramModel" = some m.cls := findClass_of_methodNamed B.named
  have hlocks := B.notSynchronized
  have hA : ∀ q : Nat, (fun _ : Nat => False) q → False := fun _ h => h
  have hS : va_S (fun _ => False) s.heap s.heap [] := va_S.rf
  have hl := lv_entry ([.ref m0, .long a0, .int a1]) (n := 5) (Nat.le_of_ble_eq_true rfl)
  rw [lg_entry_eq]
  generalize (lg_sl ([.ref m0, .long a0, .int a1]) ++ List.replicate (5 - (lg_sl ([.ref m0, .long a0, .int a1])).length) Slot.unset).toArray = ls at hl ⊢
  have hl : lv_has ls 5 [(0, .ref m0), (1, .long a0), (3, .int a1)] := hl
  refine lv_iconst (v := (0 : Int32)) hx hb dMo_isGoal_0 (by decide) ?_
  refine lv_istore (lv' := [(4, .int (0 : Int32)), (0, .ref m0), (1, .long a0), (3, .int a1)]) hx hb dMo_isGoal_1 hl (by decide) rfl (fun ls hl => ?_)
  have loop : ∀ (n : Nat) (p9 : Int32), (0 ≤ p9.toInt) → (a1.toInt - p9.toInt).toNat < n → (f_Mo_isGoal gt a0 a1) = l_Mo_isGoal_3 gt a0 a1 n p9 → ∀ (locs : List Loc), va_S (fun _ => False) s.heap s.heap locs → ∀ (ls : Array Slot), lv_has ls 5 [(4, .int p9), (0, .ref m0), (1, .long a0), (3, .int a1)] → W p l e (headSpec wsMo_isGoal ({ frames := 0, cells := 0, slots := 0, locals := 0 })).room s m ([.ref m0, .long a0, .int a1] : List Value).toArray below meth c s.heap locs 0 0 (MQ below (va_Qi (fun (r : Int32) (_ : Unit) => r = bI (f_Mo_isGoal gt a0 a1)) (fun _ t => t.heap = s.heap) (fun _ => False)) ([.ref m0, .long a0, .int a1] : List Value).toArray s 0 0 (fun _ => False)) (F0 m 3 ls []) := by
    intro n
    induction n with
    | zero =>
      intro p9 hp hM
      exact absurd hM (Nat.not_lt_zero _)
    | succ n ih =>
      intro p9 hp hM hE locs hS ls hl
      refine lv_iload hx hb dMo_isGoal_3 (lv_at hl 0 rfl) ?_
      refine lv_iload_n hx hb dMo_isGoal_5 rfl (lv_at hl 3 rfl) ?_
      refine lv_icmp_ge (tgt := 48) hx hb dMo_isGoal_6 (by decide) (fun c1 => ?_) (fun c1 => ?_)
      · skip
        refine lv_lload_n hx hb dMo_isGoal_48 rfl (lv_at hl 2 rfl) ?_
        refine lv_lconst (v := (0 : Int64)) hx hb dMo_isGoal_49 (by decide) ?_
        refine W.lcmp hx hb dMo_isGoal_50 ?_
        refine lv_if_lt (tgt := 73) hx hb dMo_isGoal_51 (by decide) (fun c2 => ?_) (fun c2 => ?_)
        · have c2 := (lg_cmp_lt _ _).mp c2
          refine lv_iconst (v := (0 : Int32)) hx hb dMo_isGoal_73 (by decide) ?_
          exact W.zret (v := (0 : Int32)) hx hb hr rfl (fun t ht hW => ⟨⟨(0 : Int32), (), rfl, (by rw [hE, l_Mo_isGoal_3, if_pos c1, if_pos c2]; try rfl), ht⟩, hS.F ht⟩) hS.2.2 dMo_isGoal_74
        · have c2 := mt (lg_cmp_lt _ _).mpr c2
          refine lv_lload_n hx hb dMo_isGoal_54 rfl (lv_at hl 2 rfl) ?_
          refine lv_iload_n hx hb dMo_isGoal_55 rfl (lv_at hl 3 rfl) ?_
          refine lv_i2l hx hb dMo_isGoal_56 rfl ?_
          refine W.lcmp hx hb dMo_isGoal_57 ?_
          refine lv_if_ge (tgt := 73) hx hb dMo_isGoal_58 (by decide) (fun c3 => ?_) (fun c3 => ?_)
          · have c3 := (lg_cmp_ge _ _).mp c3
            refine lv_iconst (v := (0 : Int32)) hx hb dMo_isGoal_73 (by decide) ?_
            exact W.zret (v := (0 : Int32)) hx hb hr rfl (fun t ht hW => ⟨⟨(0 : Int32), (), rfl, (by rw [hE, l_Mo_isGoal_3, if_pos c1, if_neg c2, if_pos c3]; try rfl), ht⟩, hS.F ht⟩) hS.2.2 dMo_isGoal_74
          · have c3 := mt (lg_cmp_ge _ _).mpr c3
            refine lv_iload hx hb dMo_isGoal_61 (lv_at hl 0 rfl) ?_
            refine lv_i2l hx hb dMo_isGoal_63 rfl ?_
            refine lv_lload_n hx hb dMo_isGoal_64 rfl (lv_at hl 2 rfl) ?_
            refine W.lcmp hx hb dMo_isGoal_65 ?_
            refine lv_if_ne (tgt := 73) hx hb dMo_isGoal_66 (by decide) (fun c4 => ?_) (fun c4 => ?_)
            · have c4 := mt (lg_cmp_eq _ _).mpr c4
              refine lv_iconst (v := (0 : Int32)) hx hb dMo_isGoal_73 (by decide) ?_
              exact W.zret (v := (0 : Int32)) hx hb hr rfl (fun t ht hW => ⟨⟨(0 : Int32), (), rfl, (by rw [hE, l_Mo_isGoal_3, if_pos c1, if_neg c2, if_neg c3, if_neg c4]; try rfl), ht⟩, hS.F ht⟩) hS.2.2 dMo_isGoal_74
            · have c4 := (lg_cmp_eq _ _).mp c4
              refine lv_iconst (v := (1 : Int32)) hx hb dMo_isGoal_69 (by decide) ?_
              refine lv_goto (tgt := 74) hx hb dMo_isGoal_70 (by decide) ?_
              exact W.zret (v := (1 : Int32)) hx hb hr rfl (fun t ht hW => ⟨⟨(1 : Int32), (), rfl, (by rw [hE, l_Mo_isGoal_3, if_pos c1, if_neg c2, if_neg c3, if_pos c4]; try rfl), ht⟩, hS.F ht⟩) hS.2.2 dMo_isGoal_74
      · skip
        refine lv_iload hx hb dMo_isGoal_9 (lv_at hl 0 rfl) ?_
        refine lv_i2l hx hb dMo_isGoal_11 rfl ?_
        refine lv_lload_n hx hb dMo_isGoal_12 rfl (lv_at hl 2 rfl) ?_
        refine W.lcmp hx hb dMo_isGoal_13 ?_
        refine lv_if_ge (tgt := 48) hx hb dMo_isGoal_14 (by decide) (fun c5 => ?_) (fun c5 => ?_)
        · have c5 := (lg_cmp_ge _ _).mp c5
          refine lv_lload_n hx hb dMo_isGoal_48 rfl (lv_at hl 2 rfl) ?_
          refine lv_lconst (v := (0 : Int64)) hx hb dMo_isGoal_49 (by decide) ?_
          refine W.lcmp hx hb dMo_isGoal_50 ?_
          refine lv_if_lt (tgt := 73) hx hb dMo_isGoal_51 (by decide) (fun c6 => ?_) (fun c6 => ?_)
          · have c6 := (lg_cmp_lt _ _).mp c6
            refine lv_iconst (v := (0 : Int32)) hx hb dMo_isGoal_73 (by decide) ?_
            exact W.zret (v := (0 : Int32)) hx hb hr rfl (fun t ht hW => ⟨⟨(0 : Int32), (), rfl, (by rw [hE, l_Mo_isGoal_3, if_neg c1, if_pos c5, if_pos c6]; try rfl), ht⟩, hS.F ht⟩) hS.2.2 dMo_isGoal_74
          · have c6 := mt (lg_cmp_lt _ _).mpr c6
            refine lv_lload_n hx hb dMo_isGoal_54 rfl (lv_at hl 2 rfl) ?_
            refine lv_iload_n hx hb dMo_isGoal_55 rfl (lv_at hl 3 rfl) ?_
            refine lv_i2l hx hb dMo_isGoal_56 rfl ?_
            refine W.lcmp hx hb dMo_isGoal_57 ?_
            refine lv_if_ge (tgt := 73) hx hb dMo_isGoal_58 (by decide) (fun c7 => ?_) (fun c7 => ?_)
            · have c7 := (lg_cmp_ge _ _).mp c7
              refine lv_iconst (v := (0 : Int32)) hx hb dMo_isGoal_73 (by decide) ?_
              exact W.zret (v := (0 : Int32)) hx hb hr rfl (fun t ht hW => ⟨⟨(0 : Int32), (), rfl, (by rw [hE, l_Mo_isGoal_3, if_neg c1, if_pos c5, if_neg c6, if_pos c7]; try rfl), ht⟩, hS.F ht⟩) hS.2.2 dMo_isGoal_74
            · have c7 := mt (lg_cmp_ge _ _).mpr c7
              refine lv_iload hx hb dMo_isGoal_61 (lv_at hl 0 rfl) ?_
              refine lv_i2l hx hb dMo_isGoal_63 rfl ?_
              refine lv_lload_n hx hb dMo_isGoal_64 rfl (lv_at hl 2 rfl) ?_
              refine W.lcmp hx hb dMo_isGoal_65 ?_
              refine lv_if_ne (tgt := 73) hx hb dMo_isGoal_66 (by decide) (fun c8 => ?_) (fun c8 => ?_)
              · have c8 := mt (lg_cmp_eq _ _).mpr c8
                refine lv_iconst (v := (0 : Int32)) hx hb dMo_isGoal_73 (by decide) ?_
                exact W.zret (v := (0 : Int32)) hx hb hr rfl (fun t ht hW => ⟨⟨(0 : Int32), (), rfl, (by rw [hE, l_Mo_isGoal_3, if_neg c1, if_pos c5, if_neg c6, if_neg c7, if_neg c8]; try rfl), ht⟩, hS.F ht⟩) hS.2.2 dMo_isGoal_74
              · have c8 := (lg_cmp_eq _ _).mp c8
                refine lv_iconst (v := (1 : Int32)) hx hb dMo_isGoal_69 (by decide) ?_
                refine lv_goto (tgt := 74) hx hb dMo_isGoal_70 (by decide) ?_
                exact W.zret (v := (1 : Int32)) hx hb hr rfl (fun t ht hW => ⟨⟨(1 : Int32), (), rfl, (by rw [hE, l_Mo_isGoal_3, if_neg c1, if_pos c5, if_neg c6, if_neg c7, if_pos c8]; try rfl), ht⟩, hS.F ht⟩) hS.2.2 dMo_isGoal_74
        · have c5 := mt (lg_cmp_ge _ _).mpr c5
          refine lv_aload_n hx hb dMo_isGoal_17 rfl (lv_at hl 1 rfl) ?_
          refine va_get (D := G) (ci := 5) (v := .ref qt) (C := RMo) (T := TMo) (N := 15) hx hb hT inMo hown hK hP 0 rfl rfl 1 (by decide) (hT _ mw_566) (fun _ h9 => h9) rfl dMo_isGoal_18 ?_
          refine lv_bipush (v := (8 : Int32)) hx hb dMo_isGoal_21 (by decide) ?_
          refine lv_iload hx hb dMo_isGoal_23 (lv_at hl 0 rfl) ?_
          refine lv_imul hx hb dMo_isGoal_25 ?_
          refine va_iald hx hb hK hP 1 2 rfl rfl (tk_in0 hp (wp_lt ha c1)) dMo_isGoal_26 ?_
          refine lv_bipush (v := (24 : Int32)) hx hb dMo_isGoal_27 (by decide) ?_
          have jn9 : ∀ (x9 : Int32), x9 = (if (gt ((8 : Int32) * p9).toNatClampNeg) = (24 : Int32) then (p9 + (2 : Int32)) else (p9 + (1 : Int32))) → ∀ (locs : List Loc), va_S (fun _ => False) s.heap s.heap locs → W p l e (headSpec wsMo_isGoal ({ frames := 0, cells := 0, slots := 0, locals := 0 })).room s m ([.ref m0, .long a0, .int a1] : List Value).toArray below meth c s.heap locs 0 0 (MQ below (va_Qi (fun (r : Int32) (_ : Unit) => r = bI (f_Mo_isGoal gt a0 a1)) (fun _ t => t.heap = s.heap) (fun _ => False)) ([.ref m0, .long a0, .int a1] : List Value).toArray s 0 0 (fun _ => False)) (F0 m 43 ls [.int x9]) := by
            intro x9 hx9 locs hS
            subst hx9
            refine lv_istore (lv' := [(4, .int (if (gt ((8 : Int32) * p9).toNatClampNeg) = (24 : Int32) then (p9 + (2 : Int32)) else (p9 + (1 : Int32)))), (0, .ref m0), (1, .long a0), (3, .int a1)]) hx hb dMo_isGoal_43 hl (by decide) rfl (fun ls hl => ?_)
            refine lv_goto (tgt := 3) hx hb dMo_isGoal_45 (by decide) ?_
            exact ih (if (gt ((8 : Int32) * p9).toNatClampNeg) = (24 : Int32) then (p9 + (2 : Int32)) else (p9 + (1 : Int32))) (wp_b ha hp c1).1 (Nat.lt_of_lt_of_le (wp_b ha hp c1).2 (Nat.le_of_lt_succ hM)) (by rw [hE, l_Mo_isGoal_3, if_neg c1, if_neg c5]) _ hS ls (lv_sub hl [0, 1, 2, 3] rfl)
          refine lv_icmp_ne (tgt := 39) hx hb dMo_isGoal_29 (by decide) (fun c10 => ?_) (fun c10 => ?_)
          · skip
            refine lv_iload hx hb dMo_isGoal_39 (lv_at hl 0 rfl) ?_
            refine lv_iconst (v := (1 : Int32)) hx hb dMo_isGoal_41 (by decide) ?_
            refine lv_iadd hx hb dMo_isGoal_42 ?_
            exact jn9 (p9 + (1 : Int32)) (by rw [if_neg c10]) _ hS
          · skip
            refine lv_iload hx hb dMo_isGoal_32 (lv_at hl 0 rfl) ?_
            refine lv_iconst (v := (2 : Int32)) hx hb dMo_isGoal_34 (by decide) ?_
            refine lv_iadd hx hb dMo_isGoal_35 ?_
            refine lv_goto (tgt := 43) hx hb dMo_isGoal_36 (by decide) ?_
            exact jn9 (p9 + (2 : Int32)) (by rw [if_pos c10]) _ hS
  exact loop (a1.toNatClampNeg + 1) (0 : Int32) (by decide) fw_fuel rfl _ hS ls (lv_sub hl [0, 1, 2, 3] rfl)

def l_Mo_wrongWay_2 (vc : Int32) (vd : Int32) (vs : Int32) (vo : Int32) (vi : Int32) (gt : Nat → Int32) (a0 : Int32) : Nat → (Int32) → (Int32) → (Int32) → (Int32) → (Int32) → (Int32) → Int32 × (Int32) × (Int32) × (Int32) × (Int32) × (Int32)
  | 0, _, _, _, _, _, _ => default
  | n + 1, p9, c9, d9, s9, o9, i9 =>
    if a0 ≤ p9 then
      ((-1 : Int32), c9, d9, s9, o9, i9)
    else
      if (if (f_Mo_kind ((f_Mo_take gt p9).1)) = (5 : Int32) then (if (f_Mo_n ((f_Mo_take gt p9).1)) = (8 : Int32) then false else (if (f_Mo_n ((f_Mo_take gt p9).1)) = (9 : Int32) then false else true)) else (if (f_Mo_kind ((f_Mo_take gt p9).1)) = (6 : Int32) then (if (f_Mo_n ((f_Mo_take gt p9).1)) = (8 : Int32) then false else (if (f_Mo_n ((f_Mo_take gt p9).1)) = (9 : Int32) then false else true)) else false)) = true then
        if (f_Mo_isGoal gt (if ((f_Mo_take gt p9).1) = (6 : Int32) then ((((p9).toInt64) + (1 : Int64)) + (((f_Mo_take gt p9).2.2.2.2).toInt64)) else ((((p9).toInt64) + (1 : Int64)) + (((f_Mo_take gt p9).2.2.2.1).toInt64))) a0) = true then
          if (if ((f_Mo_take gt p9).1) = (5 : Int32) then true else (if ((f_Mo_take gt p9).1) = (6 : Int32) then true else false)) = true then
            l_Mo_wrongWay_2 vc vd vs vo vi gt a0 n (if (f_Mo_isWide ((f_Mo_take gt p9).1)) = true then (p9 + (2 : Int32)) else (p9 + (1 : Int32))) ((f_Mo_take gt p9).1) ((f_Mo_take gt p9).2.1) ((f_Mo_take gt p9).2.2.1) ((f_Mo_take gt p9).2.2.2.1) ((f_Mo_take gt p9).2.2.2.2)
          else
            if ((f_Mo_take gt p9).1) = (149 : Int32) then
              l_Mo_wrongWay_2 vc vd vs vo vi gt a0 n (if (f_Mo_isWide ((f_Mo_take gt p9).1)) = true then (p9 + (2 : Int32)) else (p9 + (1 : Int32))) ((f_Mo_take gt p9).1) ((f_Mo_take gt p9).2.1) ((f_Mo_take gt p9).2.2.1) ((f_Mo_take gt p9).2.2.2.1) ((f_Mo_take gt p9).2.2.2.2)
            else
              if (if (f_Mo_isWide ((f_Mo_take gt p9).1)) = true then (p9 + (2 : Int32)) else (p9 + (1 : Int32))) < a0 then
                l_Mo_wrongWay_2 vc vd vs vo vi gt a0 n (if (f_Mo_isWide ((f_Mo_take gt p9).1)) = true then (p9 + (2 : Int32)) else (p9 + (1 : Int32))) ((f_Mo_take gt p9).1) ((f_Mo_take gt p9).2.1) ((f_Mo_take gt p9).2.2.1) ((f_Mo_take gt p9).2.2.2.1) ((f_Mo_take gt p9).2.2.2.2)
              else
                (p9, ((f_Mo_take gt p9).1), ((f_Mo_take gt p9).2.1), ((f_Mo_take gt p9).2.2.1), ((f_Mo_take gt p9).2.2.2.1), ((f_Mo_take gt p9).2.2.2.2))
        else
          (p9, ((f_Mo_take gt p9).1), ((f_Mo_take gt p9).2.1), ((f_Mo_take gt p9).2.2.1), ((f_Mo_take gt p9).2.2.2.1), ((f_Mo_take gt p9).2.2.2.2))
      else
        if (if ((f_Mo_take gt p9).1) = (5 : Int32) then true else (if ((f_Mo_take gt p9).1) = (6 : Int32) then true else false)) = true then
          l_Mo_wrongWay_2 vc vd vs vo vi gt a0 n (if (f_Mo_isWide ((f_Mo_take gt p9).1)) = true then (p9 + (2 : Int32)) else (p9 + (1 : Int32))) ((f_Mo_take gt p9).1) ((f_Mo_take gt p9).2.1) ((f_Mo_take gt p9).2.2.1) ((f_Mo_take gt p9).2.2.2.1) ((f_Mo_take gt p9).2.2.2.2)
        else
          if ((f_Mo_take gt p9).1) = (149 : Int32) then
            l_Mo_wrongWay_2 vc vd vs vo vi gt a0 n (if (f_Mo_isWide ((f_Mo_take gt p9).1)) = true then (p9 + (2 : Int32)) else (p9 + (1 : Int32))) ((f_Mo_take gt p9).1) ((f_Mo_take gt p9).2.1) ((f_Mo_take gt p9).2.2.1) ((f_Mo_take gt p9).2.2.2.1) ((f_Mo_take gt p9).2.2.2.2)
          else
            if (if (f_Mo_isWide ((f_Mo_take gt p9).1)) = true then (p9 + (2 : Int32)) else (p9 + (1 : Int32))) < a0 then
              l_Mo_wrongWay_2 vc vd vs vo vi gt a0 n (if (f_Mo_isWide ((f_Mo_take gt p9).1)) = true then (p9 + (2 : Int32)) else (p9 + (1 : Int32))) ((f_Mo_take gt p9).1) ((f_Mo_take gt p9).2.1) ((f_Mo_take gt p9).2.2.1) ((f_Mo_take gt p9).2.2.2.1) ((f_Mo_take gt p9).2.2.2.2)
            else
              (p9, ((f_Mo_take gt p9).1), ((f_Mo_take gt p9).2.1), ((f_Mo_take gt p9).2.2.1), ((f_Mo_take gt p9).2.2.2.1), ((f_Mo_take gt p9).2.2.2.2))
def f_Mo_wrongWay (vc : Int32) (vd : Int32) (vs : Int32) (vo : Int32) (vi : Int32) (gt : Nat → Int32) (a0 : Int32) : Int32 × (Int32) × (Int32) × (Int32) × (Int32) × (Int32) :=
  l_Mo_wrongWay_2 vc vd vs vo vi gt a0 (a0.toNatClampNeg + 1) (0 : Int32) vc vd vs vo vi
set_option maxHeartbeats 4000000 in
set_option maxRecDepth 100000 in
theorem c_Mo_wrongWay (l : Launch) (G : va_G) (cB cL cI : ClassId) (Hp : Heap) (m0 : Nat) (vth : Int32) (qt : Nat) (vtp : Int32) (qp : Nat) (vpl : Int32) (qr : Nat) (qm : Nat) (vpc : Int32) (vst : Int32) (vc : Int32) (vd : Int32) (vs : Int32) (vo : Int32) (vi : Int32) (vn : Int32) (gt : Nat → Int32) (a0 : Int32) (hP : va_P G vwCl [(m0, .inr (5, [.int vth, .ref qt, .int vtp, .ref qp, .int vpl, .ref qr, .ref qm, .int vpc, .int vst, .int vc, .int vd, .int vs, .int vo, .int vi, .int vn])), (qt, .inl (cI, 32768, .inl gt))] Hp) (hD : va_D (fun _ => True) [(m0, .inr (5, [.int vth, .ref qt, .int vtp, .ref qp, .int vpl, .ref qr, .ref qm, .int vpc, .int vst, .int vc, .int vd, .int vs, .int vo, .int vi, .int vn])), (qt, .inl (cI, 32768, .inl gt))]) (ha : a0.toInt ≤ 4096) : Met l yMo_wrongWay wsMo_wrongWay ({ frames := 2, cells := 0, slots := 0, locals := 46 }) (va_Pc [.ref m0, .int a0] (fun U => U.heap = Hp ∧ va_K G vwCl [(cB, .byte), (cL, .long), (cI, .int)] U)) (va_Qi (fun (r : Int32) (u : (Int32) × (Int32) × (Int32) × (Int32) × (Int32)) => (r, u) = (f_Mo_wrongWay vc vd vs vo vi gt a0)) (fun (u : (Int32) × (Int32) × (Int32) × (Int32) × (Int32)) t => va_P G vwCl [(m0, .inr (5, [.int vth, .ref qt, .int vtp, .ref qp, .int vpl, .ref qr, .ref qm, .int vpc, .int vst, .int (u.1), .int (u.2.1), .int (u.2.2.1), .int (u.2.2.2.1), .int (u.2.2.2.2), .int vn])), (qt, .inl (cI, 32768, .inl gt))] t.heap ∧ va_D (va_A [(m0, .inr (5, [.int vth, .ref qt, .int vtp, .ref qp, .int vpl, .ref qr, .ref qm, .int vpc, .int vst, .int vc, .int vd, .int vs, .int vo, .int vi, .int vn])), (qt, .inl (cI, 32768, .inl gt))] Hp.size) [(m0, .inr (5, [.int vth, .ref qt, .int vtp, .ref qp, .int vpl, .ref qr, .ref qm, .int vpc, .int vst, .int (u.1), .int (u.2.1), .int (u.2.2.1), .int (u.2.2.2.1), .int (u.2.2.2.2), .int vn])), (qt, .inl (cI, 32768, .inl gt))]) (va_A [(m0, .inr (5, [.int vth, .ref qt, .int vtp, .ref qp, .int vpl, .ref qr, .ref qm, .int vpc, .int vst, .int vc, .int vd, .int vs, .int vo, .int vi, .int vn])), (qt, .inl (cI, 32768, .inl gt))] Hp.size)) 0 0 (va_A [(m0, .inr (5, [.int vth, .ref qt, .int vtp, .ref qp, .int vpl, .ref qr, .ref qm, .int vpc, .int vst, .int vc, .int vd, .int vs, .int vo, .int vi, .int vn])), (qt, .inl (cI, 32768, .inl gt))] Hp.size) := by
  refine Met.ofW (cc := cMo_wrongWay) (maxL := 8) (ret := (some .int)) (by decide) rfl ?_
  intro p e s m args below meth c s₁ B hml hv
  obtain ⟨rfl, rfl, hK⟩ := hv
  have hx := B.exec
  have hb := B.bytes
  have hr := B.returns
  have hT : ∀ w ∈ tB, w.before _ s = true := fun w h => atoms_spec (ws := wsMo_wrongWay) B.pre w (List.mem_cons_of_mem _ h)
  have hown : s.vm.findClass "CompiledProgramModel" = some m.cls := findClass_of_methodNamed B.named
  have hlocks := B.notSynchronized
  have hD := hD.self (sz := s.heap.size)
  generalize hAe : va_A [(m0, .inr (5, [.int vth, .ref qt, .int vtp, .ref qp, .int vpl, .ref qr, .ref qm, .int vpc, .int vst, .int vc, .int vd, .int vs, .int vo, .int vi, .int vn])), (qt, .inl (cI, 32768, .inl gt))] s.heap.size = A at hD ⊢
  have hA : ∀ q : Nat, s.heap.size ≤ q → A q := fun q h => by rw [← hAe]; exact Or.inr h
  have hS : va_S A s.heap s.heap [] := va_S.rf
  have hl := lv_entry ([.ref m0, .int a0]) (n := 8) (Nat.le_of_ble_eq_true rfl)
  rw [lg_entry_eq]
  generalize (lg_sl ([.ref m0, .int a0]) ++ List.replicate (8 - (lg_sl ([.ref m0, .int a0])).length) Slot.unset).toArray = ls at hl ⊢
  have hl : lv_has ls 8 [(0, .ref m0), (1, .int a0)] := hl
  refine lv_iconst (v := (0 : Int32)) hx hb dMo_wrongWay_0 (by decide) ?_
  refine lv_istore_n (lv' := [(2, .int (0 : Int32)), (0, .ref m0), (1, .int a0)]) hx hb dMo_wrongWay_1 rfl hl (by decide) rfl (fun ls hl => ?_)
  have loop : ∀ (n : Nat) (p9 : Int32) (c9 : Int32) (d9 : Int32) (s9 : Int32) (o9 : Int32) (i9 : Int32), (0 ≤ p9.toInt) → (a0.toInt - p9.toInt).toNat < n → (f_Mo_wrongWay vc vd vs vo vi gt a0) = l_Mo_wrongWay_2 vc vd vs vo vi gt a0 n p9 c9 d9 s9 o9 i9 → ∀ (H : Heap), va_P G vwCl [(m0, .inr (5, [.int vth, .ref qt, .int vtp, .ref qp, .int vpl, .ref qr, .ref qm, .int vpc, .int vst, .int c9, .int d9, .int s9, .int o9, .int i9, .int vn])), (qt, .inl (cI, 32768, .inl gt))] H → va_D A [(m0, .inr (5, [.int vth, .ref qt, .int vtp, .ref qp, .int vpl, .ref qr, .ref qm, .int vpc, .int vst, .int c9, .int d9, .int s9, .int o9, .int i9, .int vn])), (qt, .inl (cI, 32768, .inl gt))] → ∀ (locs : List Loc), va_S A s.heap H locs → ∀ (ls : Array Slot), lv_has ls 8 [(2, .int p9), (0, .ref m0), (1, .int a0)] → W p l e (headSpec wsMo_wrongWay ({ frames := 2, cells := 0, slots := 0, locals := 46 })).room s m ([.ref m0, .int a0] : List Value).toArray below meth c H locs 0 0 (MQ below (va_Qi (fun (r : Int32) (u : (Int32) × (Int32) × (Int32) × (Int32) × (Int32)) => (r, u) = (f_Mo_wrongWay vc vd vs vo vi gt a0)) (fun (u : (Int32) × (Int32) × (Int32) × (Int32) × (Int32)) t => va_P G vwCl [(m0, .inr (5, [.int vth, .ref qt, .int vtp, .ref qp, .int vpl, .ref qr, .ref qm, .int vpc, .int vst, .int (u.1), .int (u.2.1), .int (u.2.2.1), .int (u.2.2.2.1), .int (u.2.2.2.2), .int vn])), (qt, .inl (cI, 32768, .inl gt))] t.heap ∧ va_D (A) [(m0, .inr (5, [.int vth, .ref qt, .int vtp, .ref qp, .int vpl, .ref qr, .ref qm, .int vpc, .int vst, .int (u.1), .int (u.2.1), .int (u.2.2.1), .int (u.2.2.2.1), .int (u.2.2.2.2), .int vn])), (qt, .inl (cI, 32768, .inl gt))]) (A)) ([.ref m0, .int a0] : List Value).toArray s 0 0 A) (F0 m 2 ls []) := by
    intro n
    induction n with
    | zero =>
      intro p9 c9 d9 s9 o9 i9 hp hM
      exact absurd hM (Nat.not_lt_zero _)
    | succ n ih =>
      intro p9 c9 d9 s9 o9 i9 hp hM hE H hP hD locs hS ls hl
      refine lv_iload_n hx hb dMo_wrongWay_2 rfl (lv_at hl 0 rfl) ?_
      refine lv_iload_n hx hb dMo_wrongWay_3 rfl (lv_at hl 2 rfl) ?_
      refine lv_icmp_ge (tgt := 175) hx hb dMo_wrongWay_4 (by decide) (fun c1 => ?_) (fun c1 => ?_)
      · skip
        refine lv_iconst (v := (-1 : Int32)) hx hb dMo_wrongWay_175 (by decide) ?_
        have hP9 := hP.sub (ws' := [(m0, .inr (5, [.int vth, .ref qt, .int vtp, .ref qp, .int vpl, .ref qr, .ref qm, .int vpc, .int vst, .int c9, .int d9, .int s9, .int o9, .int i9, .int vn])), (qt, .inl (cI, 32768, .inl gt))]) [0, 1] rfl
        have hD9 := hD.sub (ws' := [(m0, .inr (5, [.int vth, .ref qt, .int vtp, .ref qp, .int vpl, .ref qr, .ref qm, .int vpc, .int vst, .int c9, .int d9, .int s9, .int o9, .int i9, .int vn])), (qt, .inl (cI, 32768, .inl gt))]) [0, 1] (by decide) rfl
        exact W.iret (v := (-1 : Int32)) hx hb hr (fun t ht hW => ⟨⟨(-1 : Int32), (c9, d9, s9, o9, i9), rfl, (by rw [hE, l_Mo_wrongWay_2, if_pos c1]; try rfl), by rw [ht]; exact hP9, hD9⟩, hS.F ht⟩) hS.2.2 dMo_wrongWay_176
      · skip
        refine lv_aload_n hx hb dMo_wrongWay_7 rfl (lv_at hl 1 rfl) ?_
        refine lv_aload_n hx hb dMo_wrongWay_8 rfl (lv_at hl 1 rfl) ?_
        refine va_get (D := G) (ci := 5) (v := .ref qt) (C := RMo) (T := TMo) (N := 15) hx hb hT inMo hown hK hP 0 rfl rfl 1 (by decide) (hT _ mw_566) (fun _ h9 => h9) rfl dMo_wrongWay_9 ?_
        refine lv_iload_n hx hb dMo_wrongWay_12 rfl (lv_at hl 0 rfl) ?_
        have hPc := hP.sub (ws' := [(m0, .inr (5, [.int vth, .ref qt, .int vtp, .ref qp, .int vpl, .ref qr, .ref qm, .int vpc, .int vst, .int c9, .int d9, .int s9, .int o9, .int i9, .int vn])), (qt, .inl (cI, 32768, .inl gt))]) [0, 1] rfl
        have hDc := hD.sub (ws' := [(m0, .inr (5, [.int vth, .ref qt, .int vtp, .ref qp, .int vpl, .ref qr, .ref qm, .int vpc, .int vst, .int c9, .int d9, .int s9, .int o9, .int i9, .int vn])), (qt, .inl (cI, 32768, .inl gt))]) [0, 1] (by decide) rfl
        have hFc := va_free (wc := [(m0, .inr (5, [.int vth, .ref qt, .int vtp, .ref qp, .int vpl, .ref qr, .ref qm, .int vpc, .int vst, .int c9, .int d9, .int s9, .int o9, .int i9, .int vn])), (qt, .inl (cI, 32768, .inl gt))]) hD hS hA [0, 1] rfl
        refine va_callv (va_runV (As := [.ref qt, .int p9]) (rest := []) ⟨hx, hb, hml, hown, hT⟩ (c_Mo_take l G cB cL cI H m0 vth qt vtp qp vpl qr qm vpc vst c9 d9 s9 o9 i9 vn qt gt p9 hPc (hDc.weaken (fun _ _ _ _ => trivial)) hp (wp_lt ha c1)) (cwV 2 hT (gB_V mw_636 mw_638 ms_3 mw_6 mw_639) rfl rfl rfl (by decide +kernel) ⟨Nat.le_of_ble_eq_true rfl, Nat.le_of_ble_eq_true rfl⟩) ⟨fun a U g mk q => ⟨q.1, q.2.1, va_K.moved (u := U) (U := U.calling g mk a) (Vm.Alike.refl U.vm) q.2.2⟩, va_recv hK hPc (ci := 5) (q0 := 0) rfl rfl, fun U hU hW => ⟨rfl, hU, va_K.moved hW.alike hK⟩⟩ rfl rfl hl.1 rfl (lv_room (Nat.le_of_ble_eq_true rfl)) dMo_wrongWay_13 ⟨Nat.zero_le _, Nat.zero_le _⟩) hS (fun q _ h => hFc q h) hFc (fun u t H locs ht hvm hw hB hz8 hk8 hS => ?_)
        subst hw
        obtain ⟨hP1, hD1⟩ := hB
        rw [ht] at hP1
        obtain ⟨hP, hD⟩ := va_join (wr := []) (w1 := [(m0, .inr (5, [.int vth, .ref qt, .int vtp, .ref qp, .int vpl, .ref qr, .ref qm, .int vpc, .int vst, .int ((f_Mo_take gt p9).1), .int ((f_Mo_take gt p9).2.1), .int ((f_Mo_take gt p9).2.2.1), .int ((f_Mo_take gt p9).2.2.2.1), .int ((f_Mo_take gt p9).2.2.2.2), .int vn])), (qt, .inl (cI, 32768, .inl gt))]) hP hD [0, 1] [] rfl rfl (by decide) (by decide) hk8 hFc hP1 hD1
        have hP : va_P G vwCl [(m0, .inr (5, [.int vth, .ref qt, .int vtp, .ref qp, .int vpl, .ref qr, .ref qm, .int vpc, .int vst, .int ((f_Mo_take gt p9).1), .int ((f_Mo_take gt p9).2.1), .int ((f_Mo_take gt p9).2.2.1), .int ((f_Mo_take gt p9).2.2.2.1), .int ((f_Mo_take gt p9).2.2.2.2), .int vn])), (qt, .inl (cI, 32768, .inl gt))] H := hP
        have hD : va_D A [(m0, .inr (5, [.int vth, .ref qt, .int vtp, .ref qp, .int vpl, .ref qr, .ref qm, .int vpc, .int vst, .int ((f_Mo_take gt p9).1), .int ((f_Mo_take gt p9).2.1), .int ((f_Mo_take gt p9).2.2.1), .int ((f_Mo_take gt p9).2.2.2.1), .int ((f_Mo_take gt p9).2.2.2.2), .int vn])), (qt, .inl (cI, 32768, .inl gt))] := hD
        refine lv_aload_n hx hb dMo_wrongWay_16 rfl (lv_at hl 1 rfl) ?_
        have hPc := hP.sub (ws' := [(m0, .inr (5, [.int vth, .ref qt, .int vtp, .ref qp, .int vpl, .ref qr, .ref qm, .int vpc, .int vst, .int ((f_Mo_take gt p9).1), .int ((f_Mo_take gt p9).2.1), .int ((f_Mo_take gt p9).2.2.1), .int ((f_Mo_take gt p9).2.2.2.1), .int ((f_Mo_take gt p9).2.2.2.2), .int vn]))]) [0] rfl
        refine va_calli (va_runV (As := []) (rest := []) ⟨hx, hb, hml, hown, hT⟩ (c_Mo_isWide l G cB cL cI H m0 vth qt vtp qp vpl qr qm vpc vst ((f_Mo_take gt p9).1) ((f_Mo_take gt p9).2.1) ((f_Mo_take gt p9).2.2.1) ((f_Mo_take gt p9).2.2.2.1) ((f_Mo_take gt p9).2.2.2.2) vn hPc ) (cwV 0 hT (gB_V mw_679 mw_681 ms_13 mw_6 mw_682) rfl rfl rfl (by decide +kernel) ⟨Nat.le_of_ble_eq_true rfl, Nat.le_of_ble_eq_true rfl⟩) ⟨fun a U g mk q => ⟨q.1, q.2.1, va_K.moved (u := U) (U := U.calling g mk a) (Vm.Alike.refl U.vm) q.2.2⟩, va_recv hK hPc (ci := 5) (q0 := 0) rfl rfl, fun U hU hW => ⟨rfl, hU, va_K.moved hW.alike hK⟩⟩ rfl rfl hl.1 rfl (lv_room (Nat.le_of_ble_eq_true rfl)) dMo_wrongWay_17 ⟨Nat.zero_le _, Nat.zero_le _⟩) hS (fun _ _ h => h.elim) (fun _ h => h.elim) (fun r u t H1 locs ht hvm hw hB hz8 hk8 hS => ?_)
        obtain rfl : H = H1 := hB.symm.trans ht
        subst hw
        have jn2 : ∀ (x2 : Int32), x2 = (if (f_Mo_isWide ((f_Mo_take gt p9).1)) = true then (p9 + (2 : Int32)) else (p9 + (1 : Int32))) → ∀ (locs : List Loc), va_S A s.heap H locs → W p l e (headSpec wsMo_wrongWay ({ frames := 2, cells := 0, slots := 0, locals := 46 })).room s m ([.ref m0, .int a0] : List Value).toArray below meth c H locs 0 0 (MQ below (va_Qi (fun (r : Int32) (u : (Int32) × (Int32) × (Int32) × (Int32) × (Int32)) => (r, u) = (f_Mo_wrongWay vc vd vs vo vi gt a0)) (fun (u : (Int32) × (Int32) × (Int32) × (Int32) × (Int32)) t => va_P G vwCl [(m0, .inr (5, [.int vth, .ref qt, .int vtp, .ref qp, .int vpl, .ref qr, .ref qm, .int vpc, .int vst, .int (u.1), .int (u.2.1), .int (u.2.2.1), .int (u.2.2.2.1), .int (u.2.2.2.2), .int vn])), (qt, .inl (cI, 32768, .inl gt))] t.heap ∧ va_D (A) [(m0, .inr (5, [.int vth, .ref qt, .int vtp, .ref qp, .int vpl, .ref qr, .ref qm, .int vpc, .int vst, .int (u.1), .int (u.2.1), .int (u.2.2.1), .int (u.2.2.2.1), .int (u.2.2.2.2), .int vn])), (qt, .inl (cI, 32768, .inl gt))]) (A)) ([.ref m0, .int a0] : List Value).toArray s 0 0 A) (F0 m 32 ls [.int x2]) := by
          intro x2 hx2 locs hS
          subst hx2
          refine lv_istore_n (lv' := [(3, .int (if (f_Mo_isWide ((f_Mo_take gt p9).1)) = true then (p9 + (2 : Int32)) else (p9 + (1 : Int32)))), (2, .int p9), (0, .ref m0), (1, .int a0)]) hx hb dMo_wrongWay_32 rfl hl (by decide) rfl (fun ls hl => ?_)
          refine lv_aload_n hx hb dMo_wrongWay_33 rfl (lv_at hl 2 rfl) ?_
          have hPc := hP.sub (ws' := [(m0, .inr (5, [.int vth, .ref qt, .int vtp, .ref qp, .int vpl, .ref qr, .ref qm, .int vpc, .int vst, .int ((f_Mo_take gt p9).1), .int ((f_Mo_take gt p9).2.1), .int ((f_Mo_take gt p9).2.2.1), .int ((f_Mo_take gt p9).2.2.2.1), .int ((f_Mo_take gt p9).2.2.2.2), .int vn]))]) [0] rfl
          refine va_calli (va_runV (As := []) (rest := []) ⟨hx, hb, hml, hown, hT⟩ (c_Mo_kind l G cB cL cI H m0 vth qt vtp qp vpl qr qm vpc vst ((f_Mo_take gt p9).1) ((f_Mo_take gt p9).2.1) ((f_Mo_take gt p9).2.2.1) ((f_Mo_take gt p9).2.2.2.1) ((f_Mo_take gt p9).2.2.2.2) vn hPc ) (cwV 0 hT (gB_V mw_643 mw_645 ms_4 mw_6 mw_646) rfl rfl rfl (by decide +kernel) ⟨Nat.le_of_ble_eq_true rfl, Nat.le_of_ble_eq_true rfl⟩) ⟨fun a U g mk q => ⟨q.1, q.2.1, va_K.moved (u := U) (U := U.calling g mk a) (Vm.Alike.refl U.vm) q.2.2⟩, va_recv hK hPc (ci := 5) (q0 := 0) rfl rfl, fun U hU hW => ⟨rfl, hU, va_K.moved hW.alike hK⟩⟩ rfl rfl hl.1 rfl (lv_room (Nat.le_of_ble_eq_true rfl)) dMo_wrongWay_34 ⟨Nat.zero_le _, Nat.zero_le _⟩) hS (fun _ _ h => h.elim) (fun _ h => h.elim) (fun r u t H1 locs ht hvm hw hB hz8 hk8 hS => ?_)
          obtain rfl : H = H1 := hB.symm.trans ht
          subst hw
          refine lv_iconst (v := (5 : Int32)) hx hb dMo_wrongWay_37 (by decide) ?_
          have jn3 : ∀ (x3 : Bool), x3 = (if (f_Mo_kind ((f_Mo_take gt p9).1)) = (5 : Int32) then (if (f_Mo_n ((f_Mo_take gt p9).1)) = (8 : Int32) then false else (if (f_Mo_n ((f_Mo_take gt p9).1)) = (9 : Int32) then false else true)) else (if (f_Mo_kind ((f_Mo_take gt p9).1)) = (6 : Int32) then (if (f_Mo_n ((f_Mo_take gt p9).1)) = (8 : Int32) then false else (if (f_Mo_n ((f_Mo_take gt p9).1)) = (9 : Int32) then false else true)) else false)) → ∀ (locs : List Loc), va_S A s.heap H locs → W p l e (headSpec wsMo_wrongWay ({ frames := 2, cells := 0, slots := 0, locals := 46 })).room s m ([.ref m0, .int a0] : List Value).toArray below meth c H locs 0 0 (MQ below (va_Qi (fun (r : Int32) (u : (Int32) × (Int32) × (Int32) × (Int32) × (Int32)) => (r, u) = (f_Mo_wrongWay vc vd vs vo vi gt a0)) (fun (u : (Int32) × (Int32) × (Int32) × (Int32) × (Int32)) t => va_P G vwCl [(m0, .inr (5, [.int vth, .ref qt, .int vtp, .ref qp, .int vpl, .ref qr, .ref qm, .int vpc, .int vst, .int (u.1), .int (u.2.1), .int (u.2.2.1), .int (u.2.2.2.1), .int (u.2.2.2.2), .int vn])), (qt, .inl (cI, 32768, .inl gt))] t.heap ∧ va_D (A) [(m0, .inr (5, [.int vth, .ref qt, .int vtp, .ref qp, .int vpl, .ref qr, .ref qm, .int vpc, .int vst, .int (u.1), .int (u.2.1), .int (u.2.2.1), .int (u.2.2.2.1), .int (u.2.2.2.2), .int vn])), (qt, .inl (cI, 32768, .inl gt))]) (A)) ([.ref m0, .int a0] : List Value).toArray s 0 0 A) (F0 m 73 ls [.int (bI x3)]) := by
            intro x3 hx3 locs hS
            subst hx3
            refine lv_istore (lv' := [(4, .int (bI (if (f_Mo_kind ((f_Mo_take gt p9).1)) = (5 : Int32) then (if (f_Mo_n ((f_Mo_take gt p9).1)) = (8 : Int32) then false else (if (f_Mo_n ((f_Mo_take gt p9).1)) = (9 : Int32) then false else true)) else (if (f_Mo_kind ((f_Mo_take gt p9).1)) = (6 : Int32) then (if (f_Mo_n ((f_Mo_take gt p9).1)) = (8 : Int32) then false else (if (f_Mo_n ((f_Mo_take gt p9).1)) = (9 : Int32) then false else true)) else false)))), (3, .int (if (f_Mo_isWide ((f_Mo_take gt p9).1)) = true then (p9 + (2 : Int32)) else (p9 + (1 : Int32)))), (2, .int p9), (0, .ref m0), (1, .int a0)]) hx hb dMo_wrongWay_73 hl (by decide) rfl (fun ls hl => ?_)
            refine lv_aload_n hx hb dMo_wrongWay_75 rfl (lv_at hl 3 rfl) ?_
            refine va_get (D := G) (ci := 5) (v := .int ((f_Mo_take gt p9).1)) (C := RMo) (T := TMo) (N := 15) hx hb hT inMo hown hK hP 0 rfl rfl 9 (by decide) (hT _ mw_574) (fun _ h9 => h9) rfl dMo_wrongWay_76 ?_
            refine lv_iconst (v := (5 : Int32)) hx hb dMo_wrongWay_79 (by decide) ?_
            have jn4 : ∀ (x4 : Bool), x4 = (if ((f_Mo_take gt p9).1) = (5 : Int32) then true else (if ((f_Mo_take gt p9).1) = (6 : Int32) then true else false)) → ∀ (locs : List Loc), va_S A s.heap H locs → W p l e (headSpec wsMo_wrongWay ({ frames := 2, cells := 0, slots := 0, locals := 46 })).room s m ([.ref m0, .int a0] : List Value).toArray below meth c H locs 0 0 (MQ below (va_Qi (fun (r : Int32) (u : (Int32) × (Int32) × (Int32) × (Int32) × (Int32)) => (r, u) = (f_Mo_wrongWay vc vd vs vo vi gt a0)) (fun (u : (Int32) × (Int32) × (Int32) × (Int32) × (Int32)) t => va_P G vwCl [(m0, .inr (5, [.int vth, .ref qt, .int vtp, .ref qp, .int vpl, .ref qr, .ref qm, .int vpc, .int vst, .int (u.1), .int (u.2.1), .int (u.2.2.1), .int (u.2.2.2.1), .int (u.2.2.2.2), .int vn])), (qt, .inl (cI, 32768, .inl gt))] t.heap ∧ va_D (A) [(m0, .inr (5, [.int vth, .ref qt, .int vtp, .ref qp, .int vpl, .ref qr, .ref qm, .int vpc, .int vst, .int (u.1), .int (u.2.1), .int (u.2.2.1), .int (u.2.2.2.1), .int (u.2.2.2.2), .int vn])), (qt, .inl (cI, 32768, .inl gt))]) (A)) ([.ref m0, .int a0] : List Value).toArray s 0 0 A) (F0 m 97 ls [.int (bI x4)]) := by
              intro x4 hx4 locs hS
              subst hx4
              refine lv_istore (lv' := [(5, .int (bI (if ((f_Mo_take gt p9).1) = (5 : Int32) then true else (if ((f_Mo_take gt p9).1) = (6 : Int32) then true else false)))), (4, .int (bI (if (f_Mo_kind ((f_Mo_take gt p9).1)) = (5 : Int32) then (if (f_Mo_n ((f_Mo_take gt p9).1)) = (8 : Int32) then false else (if (f_Mo_n ((f_Mo_take gt p9).1)) = (9 : Int32) then false else true)) else (if (f_Mo_kind ((f_Mo_take gt p9).1)) = (6 : Int32) then (if (f_Mo_n ((f_Mo_take gt p9).1)) = (8 : Int32) then false else (if (f_Mo_n ((f_Mo_take gt p9).1)) = (9 : Int32) then false else true)) else false)))), (3, .int (if (f_Mo_isWide ((f_Mo_take gt p9).1)) = true then (p9 + (2 : Int32)) else (p9 + (1 : Int32)))), (2, .int p9), (0, .ref m0), (1, .int a0)]) hx hb dMo_wrongWay_97 hl (by decide) rfl (fun ls hl => ?_)
              refine lv_aload_n hx hb dMo_wrongWay_99 rfl (lv_at hl 4 rfl) ?_
              refine va_get (D := G) (ci := 5) (v := .int ((f_Mo_take gt p9).1)) (C := RMo) (T := TMo) (N := 15) hx hb hT inMo hown hK hP 0 rfl rfl 9 (by decide) (hT _ mw_574) (fun _ h9 => h9) rfl dMo_wrongWay_100 ?_
              refine lv_bipush (v := (6 : Int32)) hx hb dMo_wrongWay_103 (by decide) ?_
              have jn5 : ∀ (x5 : Int64), x5 = (if ((f_Mo_take gt p9).1) = (6 : Int32) then ((((p9).toInt64) + (1 : Int64)) + (((f_Mo_take gt p9).2.2.2.2).toInt64)) else ((((p9).toInt64) + (1 : Int64)) + (((f_Mo_take gt p9).2.2.2.1).toInt64))) → ∀ (locs : List Loc), va_S A s.heap H locs → W p l e (headSpec wsMo_wrongWay ({ frames := 2, cells := 0, slots := 0, locals := 46 })).room s m ([.ref m0, .int a0] : List Value).toArray below meth c H locs 0 0 (MQ below (va_Qi (fun (r : Int32) (u : (Int32) × (Int32) × (Int32) × (Int32) × (Int32)) => (r, u) = (f_Mo_wrongWay vc vd vs vo vi gt a0)) (fun (u : (Int32) × (Int32) × (Int32) × (Int32) × (Int32)) t => va_P G vwCl [(m0, .inr (5, [.int vth, .ref qt, .int vtp, .ref qp, .int vpl, .ref qr, .ref qm, .int vpc, .int vst, .int (u.1), .int (u.2.1), .int (u.2.2.1), .int (u.2.2.2.1), .int (u.2.2.2.2), .int vn])), (qt, .inl (cI, 32768, .inl gt))] t.heap ∧ va_D (A) [(m0, .inr (5, [.int vth, .ref qt, .int vtp, .ref qp, .int vpl, .ref qr, .ref qm, .int vpc, .int vst, .int (u.1), .int (u.2.1), .int (u.2.2.1), .int (u.2.2.2.1), .int (u.2.2.2.2), .int vn])), (qt, .inl (cI, 32768, .inl gt))]) (A)) ([.ref m0, .int a0] : List Value).toArray s 0 0 A) (F0 m 131 ls [.long x5]) := by
                intro x5 hx5 locs hS
                subst hx5
                refine lv_lstore (lv' := [(6, .long (if ((f_Mo_take gt p9).1) = (6 : Int32) then ((((p9).toInt64) + (1 : Int64)) + (((f_Mo_take gt p9).2.2.2.2).toInt64)) else ((((p9).toInt64) + (1 : Int64)) + (((f_Mo_take gt p9).2.2.2.1).toInt64)))), (5, .int (bI (if ((f_Mo_take gt p9).1) = (5 : Int32) then true else (if ((f_Mo_take gt p9).1) = (6 : Int32) then true else false)))), (4, .int (bI (if (f_Mo_kind ((f_Mo_take gt p9).1)) = (5 : Int32) then (if (f_Mo_n ((f_Mo_take gt p9).1)) = (8 : Int32) then false else (if (f_Mo_n ((f_Mo_take gt p9).1)) = (9 : Int32) then false else true)) else (if (f_Mo_kind ((f_Mo_take gt p9).1)) = (6 : Int32) then (if (f_Mo_n ((f_Mo_take gt p9).1)) = (8 : Int32) then false else (if (f_Mo_n ((f_Mo_take gt p9).1)) = (9 : Int32) then false else true)) else false)))), (3, .int (if (f_Mo_isWide ((f_Mo_take gt p9).1)) = true then (p9 + (2 : Int32)) else (p9 + (1 : Int32)))), (2, .int p9), (0, .ref m0), (1, .int a0)]) hx hb dMo_wrongWay_131 hl (by decide) rfl (fun ls hl => ?_)
                refine lv_iload hx hb dMo_wrongWay_133 (lv_at hl 2 rfl) ?_
                refine lv_if_eq (tgt := 148) hx hb dMo_wrongWay_135 (by decide) (fun c6 => ?_) (fun c6 => ?_)
                · have c6 := bI_z c6
                  refine lv_iload hx hb dMo_wrongWay_148 (lv_at hl 1 rfl) ?_
                  refine lv_if_ne (tgt := 170) hx hb dMo_wrongWay_150 (by decide) (fun c7 => ?_) (fun c7 => ?_)
                  · have c7 := bI_n c7
                    refine lv_iload_n hx hb dMo_wrongWay_170 rfl (lv_at hl 3 rfl) ?_
                    refine lv_istore_n (lv' := [(2, .int (if (f_Mo_isWide ((f_Mo_take gt p9).1)) = true then (p9 + (2 : Int32)) else (p9 + (1 : Int32)))), (6, .long (if ((f_Mo_take gt p9).1) = (6 : Int32) then ((((p9).toInt64) + (1 : Int64)) + (((f_Mo_take gt p9).2.2.2.2).toInt64)) else ((((p9).toInt64) + (1 : Int64)) + (((f_Mo_take gt p9).2.2.2.1).toInt64)))), (5, .int (bI (if ((f_Mo_take gt p9).1) = (5 : Int32) then true else (if ((f_Mo_take gt p9).1) = (6 : Int32) then true else false)))), (4, .int (bI (if (f_Mo_kind ((f_Mo_take gt p9).1)) = (5 : Int32) then (if (f_Mo_n ((f_Mo_take gt p9).1)) = (8 : Int32) then false else (if (f_Mo_n ((f_Mo_take gt p9).1)) = (9 : Int32) then false else true)) else (if (f_Mo_kind ((f_Mo_take gt p9).1)) = (6 : Int32) then (if (f_Mo_n ((f_Mo_take gt p9).1)) = (8 : Int32) then false else (if (f_Mo_n ((f_Mo_take gt p9).1)) = (9 : Int32) then false else true)) else false)))), (3, .int (if (f_Mo_isWide ((f_Mo_take gt p9).1)) = true then (p9 + (2 : Int32)) else (p9 + (1 : Int32)))), (0, .ref m0), (1, .int a0)]) hx hb dMo_wrongWay_171 rfl hl (by decide) rfl (fun ls hl => ?_)
                    refine lv_goto (tgt := 2) hx hb dMo_wrongWay_172 (by decide) ?_
                    exact ih (if (f_Mo_isWide ((f_Mo_take gt p9).1)) = true then (p9 + (2 : Int32)) else (p9 + (1 : Int32))) ((f_Mo_take gt p9).1) ((f_Mo_take gt p9).2.1) ((f_Mo_take gt p9).2.2.1) ((f_Mo_take gt p9).2.2.2.1) ((f_Mo_take gt p9).2.2.2.2) (wp_b ha hp c1).1 (Nat.lt_of_lt_of_le (wp_b ha hp c1).2 (Nat.le_of_lt_succ hM)) (by rw [hE, l_Mo_wrongWay_2, if_neg c1, if_neg c6, if_pos c7]) _ hP hD _ hS ls (lv_sub hl [0, 5, 6] rfl)
                  · have c7 := bI_z c7
                    refine lv_aload_n hx hb dMo_wrongWay_153 rfl (lv_at hl 5 rfl) ?_
                    refine va_get (D := G) (ci := 5) (v := .int ((f_Mo_take gt p9).1)) (C := RMo) (T := TMo) (N := 15) hx hb hT inMo hown hK hP 0 rfl rfl 9 (by decide) (hT _ mw_574) (fun _ h9 => h9) rfl dMo_wrongWay_154 ?_
                    refine lv_sipush (v := (149 : Int32)) hx hb dMo_wrongWay_157 (by decide) ?_
                    refine lv_icmp_eq (tgt := 170) hx hb dMo_wrongWay_160 (by decide) (fun c8 => ?_) (fun c8 => ?_)
                    · skip
                      refine lv_iload_n hx hb dMo_wrongWay_170 rfl (lv_at hl 3 rfl) ?_
                      refine lv_istore_n (lv' := [(2, .int (if (f_Mo_isWide ((f_Mo_take gt p9).1)) = true then (p9 + (2 : Int32)) else (p9 + (1 : Int32)))), (6, .long (if ((f_Mo_take gt p9).1) = (6 : Int32) then ((((p9).toInt64) + (1 : Int64)) + (((f_Mo_take gt p9).2.2.2.2).toInt64)) else ((((p9).toInt64) + (1 : Int64)) + (((f_Mo_take gt p9).2.2.2.1).toInt64)))), (5, .int (bI (if ((f_Mo_take gt p9).1) = (5 : Int32) then true else (if ((f_Mo_take gt p9).1) = (6 : Int32) then true else false)))), (4, .int (bI (if (f_Mo_kind ((f_Mo_take gt p9).1)) = (5 : Int32) then (if (f_Mo_n ((f_Mo_take gt p9).1)) = (8 : Int32) then false else (if (f_Mo_n ((f_Mo_take gt p9).1)) = (9 : Int32) then false else true)) else (if (f_Mo_kind ((f_Mo_take gt p9).1)) = (6 : Int32) then (if (f_Mo_n ((f_Mo_take gt p9).1)) = (8 : Int32) then false else (if (f_Mo_n ((f_Mo_take gt p9).1)) = (9 : Int32) then false else true)) else false)))), (3, .int (if (f_Mo_isWide ((f_Mo_take gt p9).1)) = true then (p9 + (2 : Int32)) else (p9 + (1 : Int32)))), (0, .ref m0), (1, .int a0)]) hx hb dMo_wrongWay_171 rfl hl (by decide) rfl (fun ls hl => ?_)
                      refine lv_goto (tgt := 2) hx hb dMo_wrongWay_172 (by decide) ?_
                      exact ih (if (f_Mo_isWide ((f_Mo_take gt p9).1)) = true then (p9 + (2 : Int32)) else (p9 + (1 : Int32))) ((f_Mo_take gt p9).1) ((f_Mo_take gt p9).2.1) ((f_Mo_take gt p9).2.2.1) ((f_Mo_take gt p9).2.2.2.1) ((f_Mo_take gt p9).2.2.2.2) (wp_b ha hp c1).1 (Nat.lt_of_lt_of_le (wp_b ha hp c1).2 (Nat.le_of_lt_succ hM)) (by rw [hE, l_Mo_wrongWay_2, if_neg c1, if_neg c6, if_neg c7, if_pos c8]) _ hP hD _ hS ls (lv_sub hl [0, 5, 6] rfl)
                    · skip
                      refine lv_iload_n hx hb dMo_wrongWay_163 rfl (lv_at hl 3 rfl) ?_
                      refine lv_iload_n hx hb dMo_wrongWay_164 rfl (lv_at hl 6 rfl) ?_
                      refine lv_icmp_lt (tgt := 170) hx hb dMo_wrongWay_165 (by decide) (fun c9 => ?_) (fun c9 => ?_)
                      · skip
                        refine lv_iload_n hx hb dMo_wrongWay_170 rfl (lv_at hl 3 rfl) ?_
                        refine lv_istore_n (lv' := [(2, .int (if (f_Mo_isWide ((f_Mo_take gt p9).1)) = true then (p9 + (2 : Int32)) else (p9 + (1 : Int32)))), (6, .long (if ((f_Mo_take gt p9).1) = (6 : Int32) then ((((p9).toInt64) + (1 : Int64)) + (((f_Mo_take gt p9).2.2.2.2).toInt64)) else ((((p9).toInt64) + (1 : Int64)) + (((f_Mo_take gt p9).2.2.2.1).toInt64)))), (5, .int (bI (if ((f_Mo_take gt p9).1) = (5 : Int32) then true else (if ((f_Mo_take gt p9).1) = (6 : Int32) then true else false)))), (4, .int (bI (if (f_Mo_kind ((f_Mo_take gt p9).1)) = (5 : Int32) then (if (f_Mo_n ((f_Mo_take gt p9).1)) = (8 : Int32) then false else (if (f_Mo_n ((f_Mo_take gt p9).1)) = (9 : Int32) then false else true)) else (if (f_Mo_kind ((f_Mo_take gt p9).1)) = (6 : Int32) then (if (f_Mo_n ((f_Mo_take gt p9).1)) = (8 : Int32) then false else (if (f_Mo_n ((f_Mo_take gt p9).1)) = (9 : Int32) then false else true)) else false)))), (3, .int (if (f_Mo_isWide ((f_Mo_take gt p9).1)) = true then (p9 + (2 : Int32)) else (p9 + (1 : Int32)))), (0, .ref m0), (1, .int a0)]) hx hb dMo_wrongWay_171 rfl hl (by decide) rfl (fun ls hl => ?_)
                        refine lv_goto (tgt := 2) hx hb dMo_wrongWay_172 (by decide) ?_
                        exact ih (if (f_Mo_isWide ((f_Mo_take gt p9).1)) = true then (p9 + (2 : Int32)) else (p9 + (1 : Int32))) ((f_Mo_take gt p9).1) ((f_Mo_take gt p9).2.1) ((f_Mo_take gt p9).2.2.1) ((f_Mo_take gt p9).2.2.2.1) ((f_Mo_take gt p9).2.2.2.2) (wp_b ha hp c1).1 (Nat.lt_of_lt_of_le (wp_b ha hp c1).2 (Nat.le_of_lt_succ hM)) (by rw [hE, l_Mo_wrongWay_2, if_neg c1, if_neg c6, if_neg c7, if_neg c8, if_pos c9]) _ hP hD _ hS ls (lv_sub hl [0, 5, 6] rfl)
                      · skip
                        refine lv_iload_n hx hb dMo_wrongWay_168 rfl (lv_at hl 4 rfl) ?_
                        have hP9 := hP.sub (ws' := [(m0, .inr (5, [.int vth, .ref qt, .int vtp, .ref qp, .int vpl, .ref qr, .ref qm, .int vpc, .int vst, .int ((f_Mo_take gt p9).1), .int ((f_Mo_take gt p9).2.1), .int ((f_Mo_take gt p9).2.2.1), .int ((f_Mo_take gt p9).2.2.2.1), .int ((f_Mo_take gt p9).2.2.2.2), .int vn])), (qt, .inl (cI, 32768, .inl gt))]) [0, 1] rfl
                        have hD9 := hD.sub (ws' := [(m0, .inr (5, [.int vth, .ref qt, .int vtp, .ref qp, .int vpl, .ref qr, .ref qm, .int vpc, .int vst, .int ((f_Mo_take gt p9).1), .int ((f_Mo_take gt p9).2.1), .int ((f_Mo_take gt p9).2.2.1), .int ((f_Mo_take gt p9).2.2.2.1), .int ((f_Mo_take gt p9).2.2.2.2), .int vn])), (qt, .inl (cI, 32768, .inl gt))]) [0, 1] (by decide) rfl
                        exact W.iret (v := p9) hx hb hr (fun t ht hW => ⟨⟨p9, (((f_Mo_take gt p9).1), ((f_Mo_take gt p9).2.1), ((f_Mo_take gt p9).2.2.1), ((f_Mo_take gt p9).2.2.2.1), ((f_Mo_take gt p9).2.2.2.2)), rfl, (by rw [hE, l_Mo_wrongWay_2, if_neg c1, if_neg c6, if_neg c7, if_neg c8, if_neg c9]; try rfl), by rw [ht]; exact hP9, hD9⟩, hS.F ht⟩) hS.2.2 dMo_wrongWay_169
                · have c6 := bI_n c6
                  refine lv_aload_n hx hb dMo_wrongWay_138 rfl (lv_at hl 5 rfl) ?_
                  refine lv_lload hx hb dMo_wrongWay_139 (lv_at hl 0 rfl) ?_
                  refine lv_iload_n hx hb dMo_wrongWay_141 rfl (lv_at hl 6 rfl) ?_
                  have hPc := hP.sub (ws' := [(m0, .inr (5, [.int vth, .ref qt, .int vtp, .ref qp, .int vpl, .ref qr, .ref qm, .int vpc, .int vst, .int ((f_Mo_take gt p9).1), .int ((f_Mo_take gt p9).2.1), .int ((f_Mo_take gt p9).2.2.1), .int ((f_Mo_take gt p9).2.2.2.1), .int ((f_Mo_take gt p9).2.2.2.2), .int vn])), (qt, .inl (cI, 32768, .inl gt))]) [0, 1] rfl
                  refine va_calli (va_runV (As := [.long (if ((f_Mo_take gt p9).1) = (6 : Int32) then ((((p9).toInt64) + (1 : Int64)) + (((f_Mo_take gt p9).2.2.2.2).toInt64)) else ((((p9).toInt64) + (1 : Int64)) + (((f_Mo_take gt p9).2.2.2.1).toInt64))), .int a0]) (rest := []) ⟨hx, hb, hml, hown, hT⟩ (c_Mo_isGoal l G cB cL cI H m0 vth qt vtp qp vpl qr qm vpc vst ((f_Mo_take gt p9).1) ((f_Mo_take gt p9).2.1) ((f_Mo_take gt p9).2.2.1) ((f_Mo_take gt p9).2.2.2.1) ((f_Mo_take gt p9).2.2.2.2) vn gt (if ((f_Mo_take gt p9).1) = (6 : Int32) then ((((p9).toInt64) + (1 : Int64)) + (((f_Mo_take gt p9).2.2.2.2).toInt64)) else ((((p9).toInt64) + (1 : Int64)) + (((f_Mo_take gt p9).2.2.2.1).toInt64))) a0 hPc ha) (cwV 2 hT (gB_V mw_687 mw_689 ms_15 mw_6 mw_690) rfl rfl rfl (by decide +kernel) ⟨Nat.le_of_ble_eq_true rfl, Nat.le_of_ble_eq_true rfl⟩) ⟨fun a U g mk q => ⟨q.1, q.2.1, va_K.moved (u := U) (U := U.calling g mk a) (Vm.Alike.refl U.vm) q.2.2⟩, va_recv hK hPc (ci := 5) (q0 := 0) rfl rfl, fun U hU hW => ⟨rfl, hU, va_K.moved hW.alike hK⟩⟩ rfl rfl hl.1 rfl (lv_room (Nat.le_of_ble_eq_true rfl)) dMo_wrongWay_142 ⟨Nat.zero_le _, Nat.zero_le _⟩) hS (fun _ _ h => h.elim) (fun _ h => h.elim) (fun r u t H1 locs ht hvm hw hB hz8 hk8 hS => ?_)
                  obtain rfl : H = H1 := hB.symm.trans ht
                  subst hw
                  refine lv_if_eq (tgt := 168) hx hb dMo_wrongWay_145 (by decide) (fun c10 => ?_) (fun c10 => ?_)
                  · have c10 := bI_z c10
                    refine lv_iload_n hx hb dMo_wrongWay_168 rfl (lv_at hl 4 rfl) ?_
                    have hP9 := hP.sub (ws' := [(m0, .inr (5, [.int vth, .ref qt, .int vtp, .ref qp, .int vpl, .ref qr, .ref qm, .int vpc, .int vst, .int ((f_Mo_take gt p9).1), .int ((f_Mo_take gt p9).2.1), .int ((f_Mo_take gt p9).2.2.1), .int ((f_Mo_take gt p9).2.2.2.1), .int ((f_Mo_take gt p9).2.2.2.2), .int vn])), (qt, .inl (cI, 32768, .inl gt))]) [0, 1] rfl
                    have hD9 := hD.sub (ws' := [(m0, .inr (5, [.int vth, .ref qt, .int vtp, .ref qp, .int vpl, .ref qr, .ref qm, .int vpc, .int vst, .int ((f_Mo_take gt p9).1), .int ((f_Mo_take gt p9).2.1), .int ((f_Mo_take gt p9).2.2.1), .int ((f_Mo_take gt p9).2.2.2.1), .int ((f_Mo_take gt p9).2.2.2.2), .int vn])), (qt, .inl (cI, 32768, .inl gt))]) [0, 1] (by decide) rfl
                    exact W.iret (v := p9) hx hb hr (fun t ht hW => ⟨⟨p9, (((f_Mo_take gt p9).1), ((f_Mo_take gt p9).2.1), ((f_Mo_take gt p9).2.2.1), ((f_Mo_take gt p9).2.2.2.1), ((f_Mo_take gt p9).2.2.2.2)), rfl, (by rw [hE, l_Mo_wrongWay_2, if_neg c1, if_pos c6, if_neg c10]; try rfl), by rw [ht]; exact hP9, hD9⟩, hS.F ht⟩) hS.2.2 dMo_wrongWay_169
                  · have c10 := bI_n c10
                    refine lv_iload hx hb dMo_wrongWay_148 (lv_at hl 1 rfl) ?_
                    refine lv_if_ne (tgt := 170) hx hb dMo_wrongWay_150 (by decide) (fun c11 => ?_) (fun c11 => ?_)
                    · have c11 := bI_n c11
                      refine lv_iload_n hx hb dMo_wrongWay_170 rfl (lv_at hl 3 rfl) ?_
                      refine lv_istore_n (lv' := [(2, .int (if (f_Mo_isWide ((f_Mo_take gt p9).1)) = true then (p9 + (2 : Int32)) else (p9 + (1 : Int32)))), (6, .long (if ((f_Mo_take gt p9).1) = (6 : Int32) then ((((p9).toInt64) + (1 : Int64)) + (((f_Mo_take gt p9).2.2.2.2).toInt64)) else ((((p9).toInt64) + (1 : Int64)) + (((f_Mo_take gt p9).2.2.2.1).toInt64)))), (5, .int (bI (if ((f_Mo_take gt p9).1) = (5 : Int32) then true else (if ((f_Mo_take gt p9).1) = (6 : Int32) then true else false)))), (4, .int (bI (if (f_Mo_kind ((f_Mo_take gt p9).1)) = (5 : Int32) then (if (f_Mo_n ((f_Mo_take gt p9).1)) = (8 : Int32) then false else (if (f_Mo_n ((f_Mo_take gt p9).1)) = (9 : Int32) then false else true)) else (if (f_Mo_kind ((f_Mo_take gt p9).1)) = (6 : Int32) then (if (f_Mo_n ((f_Mo_take gt p9).1)) = (8 : Int32) then false else (if (f_Mo_n ((f_Mo_take gt p9).1)) = (9 : Int32) then false else true)) else false)))), (3, .int (if (f_Mo_isWide ((f_Mo_take gt p9).1)) = true then (p9 + (2 : Int32)) else (p9 + (1 : Int32)))), (0, .ref m0), (1, .int a0)]) hx hb dMo_wrongWay_171 rfl hl (by decide) rfl (fun ls hl => ?_)
                      refine lv_goto (tgt := 2) hx hb dMo_wrongWay_172 (by decide) ?_
                      exact ih (if (f_Mo_isWide ((f_Mo_take gt p9).1)) = true then (p9 + (2 : Int32)) else (p9 + (1 : Int32))) ((f_Mo_take gt p9).1) ((f_Mo_take gt p9).2.1) ((f_Mo_take gt p9).2.2.1) ((f_Mo_take gt p9).2.2.2.1) ((f_Mo_take gt p9).2.2.2.2) (wp_b ha hp c1).1 (Nat.lt_of_lt_of_le (wp_b ha hp c1).2 (Nat.le_of_lt_succ hM)) (by rw [hE, l_Mo_wrongWay_2, if_neg c1, if_pos c6, if_pos c10, if_pos c11]) _ hP hD _ hS ls (lv_sub hl [0, 5, 6] rfl)
                    · have c11 := bI_z c11
                      refine lv_aload_n hx hb dMo_wrongWay_153 rfl (lv_at hl 5 rfl) ?_
                      refine va_get (D := G) (ci := 5) (v := .int ((f_Mo_take gt p9).1)) (C := RMo) (T := TMo) (N := 15) hx hb hT inMo hown hK hP 0 rfl rfl 9 (by decide) (hT _ mw_574) (fun _ h9 => h9) rfl dMo_wrongWay_154 ?_
                      refine lv_sipush (v := (149 : Int32)) hx hb dMo_wrongWay_157 (by decide) ?_
                      refine lv_icmp_eq (tgt := 170) hx hb dMo_wrongWay_160 (by decide) (fun c12 => ?_) (fun c12 => ?_)
                      · skip
                        refine lv_iload_n hx hb dMo_wrongWay_170 rfl (lv_at hl 3 rfl) ?_
                        refine lv_istore_n (lv' := [(2, .int (if (f_Mo_isWide ((f_Mo_take gt p9).1)) = true then (p9 + (2 : Int32)) else (p9 + (1 : Int32)))), (6, .long (if ((f_Mo_take gt p9).1) = (6 : Int32) then ((((p9).toInt64) + (1 : Int64)) + (((f_Mo_take gt p9).2.2.2.2).toInt64)) else ((((p9).toInt64) + (1 : Int64)) + (((f_Mo_take gt p9).2.2.2.1).toInt64)))), (5, .int (bI (if ((f_Mo_take gt p9).1) = (5 : Int32) then true else (if ((f_Mo_take gt p9).1) = (6 : Int32) then true else false)))), (4, .int (bI (if (f_Mo_kind ((f_Mo_take gt p9).1)) = (5 : Int32) then (if (f_Mo_n ((f_Mo_take gt p9).1)) = (8 : Int32) then false else (if (f_Mo_n ((f_Mo_take gt p9).1)) = (9 : Int32) then false else true)) else (if (f_Mo_kind ((f_Mo_take gt p9).1)) = (6 : Int32) then (if (f_Mo_n ((f_Mo_take gt p9).1)) = (8 : Int32) then false else (if (f_Mo_n ((f_Mo_take gt p9).1)) = (9 : Int32) then false else true)) else false)))), (3, .int (if (f_Mo_isWide ((f_Mo_take gt p9).1)) = true then (p9 + (2 : Int32)) else (p9 + (1 : Int32)))), (0, .ref m0), (1, .int a0)]) hx hb dMo_wrongWay_171 rfl hl (by decide) rfl (fun ls hl => ?_)
                        refine lv_goto (tgt := 2) hx hb dMo_wrongWay_172 (by decide) ?_
                        exact ih (if (f_Mo_isWide ((f_Mo_take gt p9).1)) = true then (p9 + (2 : Int32)) else (p9 + (1 : Int32))) ((f_Mo_take gt p9).1) ((f_Mo_take gt p9).2.1) ((f_Mo_take gt p9).2.2.1) ((f_Mo_take gt p9).2.2.2.1) ((f_Mo_take gt p9).2.2.2.2) (wp_b ha hp c1).1 (Nat.lt_of_lt_of_le (wp_b ha hp c1).2 (Nat.le_of_lt_succ hM)) (by rw [hE, l_Mo_wrongWay_2, if_neg c1, if_pos c6, if_pos c10, if_neg c11, if_pos c12]) _ hP hD _ hS ls (lv_sub hl [0, 5, 6] rfl)
                      · skip
                        refine lv_iload_n hx hb dMo_wrongWay_163 rfl (lv_at hl 3 rfl) ?_
                        refine lv_iload_n hx hb dMo_wrongWay_164 rfl (lv_at hl 6 rfl) ?_
                        refine lv_icmp_lt (tgt := 170) hx hb dMo_wrongWay_165 (by decide) (fun c13 => ?_) (fun c13 => ?_)
                        · skip
                          refine lv_iload_n hx hb dMo_wrongWay_170 rfl (lv_at hl 3 rfl) ?_
                          refine lv_istore_n (lv' := [(2, .int (if (f_Mo_isWide ((f_Mo_take gt p9).1)) = true then (p9 + (2 : Int32)) else (p9 + (1 : Int32)))), (6, .long (if ((f_Mo_take gt p9).1) = (6 : Int32) then ((((p9).toInt64) + (1 : Int64)) + (((f_Mo_take gt p9).2.2.2.2).toInt64)) else ((((p9).toInt64) + (1 : Int64)) + (((f_Mo_take gt p9).2.2.2.1).toInt64)))), (5, .int (bI (if ((f_Mo_take gt p9).1) = (5 : Int32) then true else (if ((f_Mo_take gt p9).1) = (6 : Int32) then true else false)))), (4, .int (bI (if (f_Mo_kind ((f_Mo_take gt p9).1)) = (5 : Int32) then (if (f_Mo_n ((f_Mo_take gt p9).1)) = (8 : Int32) then false else (if (f_Mo_n ((f_Mo_take gt p9).1)) = (9 : Int32) then false else true)) else (if (f_Mo_kind ((f_Mo_take gt p9).1)) = (6 : Int32) then (if (f_Mo_n ((f_Mo_take gt p9).1)) = (8 : Int32) then false else (if (f_Mo_n ((f_Mo_take gt p9).1)) = (9 : Int32) then false else true)) else false)))), (3, .int (if (f_Mo_isWide ((f_Mo_take gt p9).1)) = true then (p9 + (2 : Int32)) else (p9 + (1 : Int32)))), (0, .ref m0), (1, .int a0)]) hx hb dMo_wrongWay_171 rfl hl (by decide) rfl (fun ls hl => ?_)
                          refine lv_goto (tgt := 2) hx hb dMo_wrongWay_172 (by decide) ?_
                          exact ih (if (f_Mo_isWide ((f_Mo_take gt p9).1)) = true then (p9 + (2 : Int32)) else (p9 + (1 : Int32))) ((f_Mo_take gt p9).1) ((f_Mo_take gt p9).2.1) ((f_Mo_take gt p9).2.2.1) ((f_Mo_take gt p9).2.2.2.1) ((f_Mo_take gt p9).2.2.2.2) (wp_b ha hp c1).1 (Nat.lt_of_lt_of_le (wp_b ha hp c1).2 (Nat.le_of_lt_succ hM)) (by rw [hE, l_Mo_wrongWay_2, if_neg c1, if_pos c6, if_pos c10, if_neg c11, if_neg c12, if_pos c13]) _ hP hD _ hS ls (lv_sub hl [0, 5, 6] rfl)
                        · skip
                          refine lv_iload_n hx hb dMo_wrongWay_168 rfl (lv_at hl 4 rfl) ?_
                          have hP9 := hP.sub (ws' := [(m0, .inr (5, [.int vth, .ref qt, .int vtp, .ref qp, .int vpl, .ref qr, .ref qm, .int vpc, .int vst, .int ((f_Mo_take gt p9).1), .int ((f_Mo_take gt p9).2.1), .int ((f_Mo_take gt p9).2.2.1), .int ((f_Mo_take gt p9).2.2.2.1), .int ((f_Mo_take gt p9).2.2.2.2), .int vn])), (qt, .inl (cI, 32768, .inl gt))]) [0, 1] rfl
                          have hD9 := hD.sub (ws' := [(m0, .inr (5, [.int vth, .ref qt, .int vtp, .ref qp, .int vpl, .ref qr, .ref qm, .int vpc, .int vst, .int ((f_Mo_take gt p9).1), .int ((f_Mo_take gt p9).2.1), .int ((f_Mo_take gt p9).2.2.1), .int ((f_Mo_take gt p9).2.2.2.1), .int ((f_Mo_take gt p9).2.2.2.2), .int vn])), (qt, .inl (cI, 32768, .inl gt))]) [0, 1] (by decide) rfl
                          exact W.iret (v := p9) hx hb hr (fun t ht hW => ⟨⟨p9, (((f_Mo_take gt p9).1), ((f_Mo_take gt p9).2.1), ((f_Mo_take gt p9).2.2.1), ((f_Mo_take gt p9).2.2.2.1), ((f_Mo_take gt p9).2.2.2.2)), rfl, (by rw [hE, l_Mo_wrongWay_2, if_neg c1, if_pos c6, if_pos c10, if_neg c11, if_neg c12, if_neg c13]; try rfl), by rw [ht]; exact hP9, hD9⟩, hS.F ht⟩) hS.2.2 dMo_wrongWay_169
              refine lv_icmp_ne (tgt := 121) hx hb dMo_wrongWay_105 (by decide) (fun c14 => ?_) (fun c14 => ?_)
              · skip
                refine lv_iload_n hx hb dMo_wrongWay_121 rfl (lv_at hl 3 rfl) ?_
                refine lv_i2l hx hb dMo_wrongWay_122 rfl ?_
                refine lv_lconst (v := (1 : Int64)) hx hb dMo_wrongWay_123 (by decide) ?_
                refine lv_ladd hx hb dMo_wrongWay_124 ?_
                refine lv_aload_n hx hb dMo_wrongWay_125 rfl (lv_at hl 4 rfl) ?_
                refine va_get (D := G) (ci := 5) (v := .int ((f_Mo_take gt p9).2.2.2.1)) (C := RMo) (T := TMo) (N := 15) hx hb hT inMo hown hK hP 0 rfl rfl 12 (by decide) (hT _ mw_577) (fun _ h9 => h9) rfl dMo_wrongWay_126 ?_
                refine lv_i2l hx hb dMo_wrongWay_129 rfl ?_
                refine lv_ladd hx hb dMo_wrongWay_130 ?_
                exact jn5 ((((p9).toInt64) + (1 : Int64)) + (((f_Mo_take gt p9).2.2.2.1).toInt64)) (by rw [if_neg c14]) _ hS
              · skip
                refine lv_iload_n hx hb dMo_wrongWay_108 rfl (lv_at hl 3 rfl) ?_
                refine lv_i2l hx hb dMo_wrongWay_109 rfl ?_
                refine lv_lconst (v := (1 : Int64)) hx hb dMo_wrongWay_110 (by decide) ?_
                refine lv_ladd hx hb dMo_wrongWay_111 ?_
                refine lv_aload_n hx hb dMo_wrongWay_112 rfl (lv_at hl 4 rfl) ?_
                refine va_get (D := G) (ci := 5) (v := .int ((f_Mo_take gt p9).2.2.2.2)) (C := RMo) (T := TMo) (N := 15) hx hb hT inMo hown hK hP 0 rfl rfl 13 (by decide) (hT _ mw_578) (fun _ h9 => h9) rfl dMo_wrongWay_113 ?_
                refine lv_i2l hx hb dMo_wrongWay_116 rfl ?_
                refine lv_ladd hx hb dMo_wrongWay_117 ?_
                refine lv_goto (tgt := 131) hx hb dMo_wrongWay_118 (by decide) ?_
                exact jn5 ((((p9).toInt64) + (1 : Int64)) + (((f_Mo_take gt p9).2.2.2.2).toInt64)) (by rw [if_pos c14]) _ hS
            refine lv_icmp_eq (tgt := 92) hx hb dMo_wrongWay_80 (by decide) (fun c15 => ?_) (fun c15 => ?_)
            · skip
              refine lv_iconst (v := (1 : Int32)) hx hb dMo_wrongWay_92 (by decide) ?_
              refine lv_goto (tgt := 97) hx hb dMo_wrongWay_93 (by decide) ?_
              exact jn4 true (by rw [if_pos c15]) _ hS
            · skip
              refine lv_aload_n hx hb dMo_wrongWay_83 rfl (lv_at hl 3 rfl) ?_
              refine va_get (D := G) (ci := 5) (v := .int ((f_Mo_take gt p9).1)) (C := RMo) (T := TMo) (N := 15) hx hb hT inMo hown hK hP 0 rfl rfl 9 (by decide) (hT _ mw_574) (fun _ h9 => h9) rfl dMo_wrongWay_84 ?_
              refine lv_bipush (v := (6 : Int32)) hx hb dMo_wrongWay_87 (by decide) ?_
              refine lv_icmp_ne (tgt := 96) hx hb dMo_wrongWay_89 (by decide) (fun c16 => ?_) (fun c16 => ?_)
              · skip
                refine lv_iconst (v := (0 : Int32)) hx hb dMo_wrongWay_96 (by decide) ?_
                exact jn4 false (by rw [if_neg c15, if_neg c16]) _ hS
              · skip
                refine lv_iconst (v := (1 : Int32)) hx hb dMo_wrongWay_92 (by decide) ?_
                refine lv_goto (tgt := 97) hx hb dMo_wrongWay_93 (by decide) ?_
                exact jn4 true (by rw [if_neg c15, if_pos c16]) _ hS
          refine lv_icmp_eq (tgt := 50) hx hb dMo_wrongWay_38 (by decide) (fun c17 => ?_) (fun c17 => ?_)
          · skip
            refine lv_aload_n hx hb dMo_wrongWay_50 rfl (lv_at hl 2 rfl) ?_
            have hPc := hP.sub (ws' := [(m0, .inr (5, [.int vth, .ref qt, .int vtp, .ref qp, .int vpl, .ref qr, .ref qm, .int vpc, .int vst, .int ((f_Mo_take gt p9).1), .int ((f_Mo_take gt p9).2.1), .int ((f_Mo_take gt p9).2.2.1), .int ((f_Mo_take gt p9).2.2.2.1), .int ((f_Mo_take gt p9).2.2.2.2), .int vn]))]) [0] rfl
            refine va_calli (va_runV (As := []) (rest := []) ⟨hx, hb, hml, hown, hT⟩ (c_Mo_n l G cB cL cI H m0 vth qt vtp qp vpl qr qm vpc vst ((f_Mo_take gt p9).1) ((f_Mo_take gt p9).2.1) ((f_Mo_take gt p9).2.2.1) ((f_Mo_take gt p9).2.2.2.1) ((f_Mo_take gt p9).2.2.2.2) vn hPc ) (cwV 0 hT (gB_V mw_651 mw_653 ms_6 mw_6 mw_654) rfl rfl rfl (by decide +kernel) ⟨Nat.le_of_ble_eq_true rfl, Nat.le_of_ble_eq_true rfl⟩) ⟨fun a U g mk q => ⟨q.1, q.2.1, va_K.moved (u := U) (U := U.calling g mk a) (Vm.Alike.refl U.vm) q.2.2⟩, va_recv hK hPc (ci := 5) (q0 := 0) rfl rfl, fun U hU hW => ⟨rfl, hU, va_K.moved hW.alike hK⟩⟩ rfl rfl hl.1 rfl (lv_room (Nat.le_of_ble_eq_true rfl)) dMo_wrongWay_51 ⟨Nat.zero_le _, Nat.zero_le _⟩) hS (fun _ _ h => h.elim) (fun _ h => h.elim) (fun r u t H1 locs ht hvm hw hB hz8 hk8 hS => ?_)
            obtain rfl : H = H1 := hB.symm.trans ht
            subst hw
            refine lv_bipush (v := (8 : Int32)) hx hb dMo_wrongWay_54 (by decide) ?_
            refine lv_icmp_eq (tgt := 72) hx hb dMo_wrongWay_56 (by decide) (fun c18 => ?_) (fun c18 => ?_)
            · skip
              refine lv_iconst (v := (0 : Int32)) hx hb dMo_wrongWay_72 (by decide) ?_
              exact jn3 false (by rw [if_pos c17, if_pos c18]) _ hS
            · skip
              refine lv_aload_n hx hb dMo_wrongWay_59 rfl (lv_at hl 2 rfl) ?_
              have hPc := hP.sub (ws' := [(m0, .inr (5, [.int vth, .ref qt, .int vtp, .ref qp, .int vpl, .ref qr, .ref qm, .int vpc, .int vst, .int ((f_Mo_take gt p9).1), .int ((f_Mo_take gt p9).2.1), .int ((f_Mo_take gt p9).2.2.1), .int ((f_Mo_take gt p9).2.2.2.1), .int ((f_Mo_take gt p9).2.2.2.2), .int vn]))]) [0] rfl
              refine va_calli (va_runV (As := []) (rest := []) ⟨hx, hb, hml, hown, hT⟩ (c_Mo_n l G cB cL cI H m0 vth qt vtp qp vpl qr qm vpc vst ((f_Mo_take gt p9).1) ((f_Mo_take gt p9).2.1) ((f_Mo_take gt p9).2.2.1) ((f_Mo_take gt p9).2.2.2.1) ((f_Mo_take gt p9).2.2.2.2) vn hPc ) (cwV 0 hT (gB_V mw_651 mw_653 ms_6 mw_6 mw_654) rfl rfl rfl (by decide +kernel) ⟨Nat.le_of_ble_eq_true rfl, Nat.le_of_ble_eq_true rfl⟩) ⟨fun a U g mk q => ⟨q.1, q.2.1, va_K.moved (u := U) (U := U.calling g mk a) (Vm.Alike.refl U.vm) q.2.2⟩, va_recv hK hPc (ci := 5) (q0 := 0) rfl rfl, fun U hU hW => ⟨rfl, hU, va_K.moved hW.alike hK⟩⟩ rfl rfl hl.1 rfl (lv_room (Nat.le_of_ble_eq_true rfl)) dMo_wrongWay_60 ⟨Nat.zero_le _, Nat.zero_le _⟩) hS (fun _ _ h => h.elim) (fun _ h => h.elim) (fun r u t H1 locs ht hvm hw hB hz8 hk8 hS => ?_)
              obtain rfl : H = H1 := hB.symm.trans ht
              subst hw
              refine lv_bipush (v := (9 : Int32)) hx hb dMo_wrongWay_63 (by decide) ?_
              refine lv_icmp_eq (tgt := 72) hx hb dMo_wrongWay_65 (by decide) (fun c19 => ?_) (fun c19 => ?_)
              · skip
                refine lv_iconst (v := (0 : Int32)) hx hb dMo_wrongWay_72 (by decide) ?_
                exact jn3 false (by rw [if_pos c17, if_neg c18, if_pos c19]) _ hS
              · skip
                refine lv_iconst (v := (1 : Int32)) hx hb dMo_wrongWay_68 (by decide) ?_
                refine lv_goto (tgt := 73) hx hb dMo_wrongWay_69 (by decide) ?_
                exact jn3 true (by rw [if_pos c17, if_neg c18, if_neg c19]) _ hS
          · skip
            refine lv_aload_n hx hb dMo_wrongWay_41 rfl (lv_at hl 2 rfl) ?_
            have hPc := hP.sub (ws' := [(m0, .inr (5, [.int vth, .ref qt, .int vtp, .ref qp, .int vpl, .ref qr, .ref qm, .int vpc, .int vst, .int ((f_Mo_take gt p9).1), .int ((f_Mo_take gt p9).2.1), .int ((f_Mo_take gt p9).2.2.1), .int ((f_Mo_take gt p9).2.2.2.1), .int ((f_Mo_take gt p9).2.2.2.2), .int vn]))]) [0] rfl
            refine va_calli (va_runV (As := []) (rest := []) ⟨hx, hb, hml, hown, hT⟩ (c_Mo_kind l G cB cL cI H m0 vth qt vtp qp vpl qr qm vpc vst ((f_Mo_take gt p9).1) ((f_Mo_take gt p9).2.1) ((f_Mo_take gt p9).2.2.1) ((f_Mo_take gt p9).2.2.2.1) ((f_Mo_take gt p9).2.2.2.2) vn hPc ) (cwV 0 hT (gB_V mw_643 mw_645 ms_4 mw_6 mw_646) rfl rfl rfl (by decide +kernel) ⟨Nat.le_of_ble_eq_true rfl, Nat.le_of_ble_eq_true rfl⟩) ⟨fun a U g mk q => ⟨q.1, q.2.1, va_K.moved (u := U) (U := U.calling g mk a) (Vm.Alike.refl U.vm) q.2.2⟩, va_recv hK hPc (ci := 5) (q0 := 0) rfl rfl, fun U hU hW => ⟨rfl, hU, va_K.moved hW.alike hK⟩⟩ rfl rfl hl.1 rfl (lv_room (Nat.le_of_ble_eq_true rfl)) dMo_wrongWay_42 ⟨Nat.zero_le _, Nat.zero_le _⟩) hS (fun _ _ h => h.elim) (fun _ h => h.elim) (fun r u t H1 locs ht hvm hw hB hz8 hk8 hS => ?_)
            obtain rfl : H = H1 := hB.symm.trans ht
            subst hw
            refine lv_bipush (v := (6 : Int32)) hx hb dMo_wrongWay_45 (by decide) ?_
            refine lv_icmp_ne (tgt := 72) hx hb dMo_wrongWay_47 (by decide) (fun c20 => ?_) (fun c20 => ?_)
            · skip
              refine lv_iconst (v := (0 : Int32)) hx hb dMo_wrongWay_72 (by decide) ?_
              exact jn3 false (by rw [if_neg c17, if_neg c20]) _ hS
            · skip
              refine lv_aload_n hx hb dMo_wrongWay_50 rfl (lv_at hl 2 rfl) ?_
              have hPc := hP.sub (ws' := [(m0, .inr (5, [.int vth, .ref qt, .int vtp, .ref qp, .int vpl, .ref qr, .ref qm, .int vpc, .int vst, .int ((f_Mo_take gt p9).1), .int ((f_Mo_take gt p9).2.1), .int ((f_Mo_take gt p9).2.2.1), .int ((f_Mo_take gt p9).2.2.2.1), .int ((f_Mo_take gt p9).2.2.2.2), .int vn]))]) [0] rfl
              refine va_calli (va_runV (As := []) (rest := []) ⟨hx, hb, hml, hown, hT⟩ (c_Mo_n l G cB cL cI H m0 vth qt vtp qp vpl qr qm vpc vst ((f_Mo_take gt p9).1) ((f_Mo_take gt p9).2.1) ((f_Mo_take gt p9).2.2.1) ((f_Mo_take gt p9).2.2.2.1) ((f_Mo_take gt p9).2.2.2.2) vn hPc ) (cwV 0 hT (gB_V mw_651 mw_653 ms_6 mw_6 mw_654) rfl rfl rfl (by decide +kernel) ⟨Nat.le_of_ble_eq_true rfl, Nat.le_of_ble_eq_true rfl⟩) ⟨fun a U g mk q => ⟨q.1, q.2.1, va_K.moved (u := U) (U := U.calling g mk a) (Vm.Alike.refl U.vm) q.2.2⟩, va_recv hK hPc (ci := 5) (q0 := 0) rfl rfl, fun U hU hW => ⟨rfl, hU, va_K.moved hW.alike hK⟩⟩ rfl rfl hl.1 rfl (lv_room (Nat.le_of_ble_eq_true rfl)) dMo_wrongWay_51 ⟨Nat.zero_le _, Nat.zero_le _⟩) hS (fun _ _ h => h.elim) (fun _ h => h.elim) (fun r u t H1 locs ht hvm hw hB hz8 hk8 hS => ?_)
              obtain rfl : H = H1 := hB.symm.trans ht
              subst hw
              refine lv_bipush (v := (8 : Int32)) hx hb dMo_wrongWay_54 (by decide) ?_
              refine lv_icmp_eq (tgt := 72) hx hb dMo_wrongWay_56 (by decide) (fun c21 => ?_) (fun c21 => ?_)
              · skip
                refine lv_iconst (v := (0 : Int32)) hx hb dMo_wrongWay_72 (by decide) ?_
                exact jn3 false (by rw [if_neg c17, if_pos c20, if_pos c21]) _ hS
              · skip
                refine lv_aload_n hx hb dMo_wrongWay_59 rfl (lv_at hl 2 rfl) ?_
                have hPc := hP.sub (ws' := [(m0, .inr (5, [.int vth, .ref qt, .int vtp, .ref qp, .int vpl, .ref qr, .ref qm, .int vpc, .int vst, .int ((f_Mo_take gt p9).1), .int ((f_Mo_take gt p9).2.1), .int ((f_Mo_take gt p9).2.2.1), .int ((f_Mo_take gt p9).2.2.2.1), .int ((f_Mo_take gt p9).2.2.2.2), .int vn]))]) [0] rfl
                refine va_calli (va_runV (As := []) (rest := []) ⟨hx, hb, hml, hown, hT⟩ (c_Mo_n l G cB cL cI H m0 vth qt vtp qp vpl qr qm vpc vst ((f_Mo_take gt p9).1) ((f_Mo_take gt p9).2.1) ((f_Mo_take gt p9).2.2.1) ((f_Mo_take gt p9).2.2.2.1) ((f_Mo_take gt p9).2.2.2.2) vn hPc ) (cwV 0 hT (gB_V mw_651 mw_653 ms_6 mw_6 mw_654) rfl rfl rfl (by decide +kernel) ⟨Nat.le_of_ble_eq_true rfl, Nat.le_of_ble_eq_true rfl⟩) ⟨fun a U g mk q => ⟨q.1, q.2.1, va_K.moved (u := U) (U := U.calling g mk a) (Vm.Alike.refl U.vm) q.2.2⟩, va_recv hK hPc (ci := 5) (q0 := 0) rfl rfl, fun U hU hW => ⟨rfl, hU, va_K.moved hW.alike hK⟩⟩ rfl rfl hl.1 rfl (lv_room (Nat.le_of_ble_eq_true rfl)) dMo_wrongWay_60 ⟨Nat.zero_le _, Nat.zero_le _⟩) hS (fun _ _ h => h.elim) (fun _ h => h.elim) (fun r u t H1 locs ht hvm hw hB hz8 hk8 hS => ?_)
                obtain rfl : H = H1 := hB.symm.trans ht
                subst hw
                refine lv_bipush (v := (9 : Int32)) hx hb dMo_wrongWay_63 (by decide) ?_
                refine lv_icmp_eq (tgt := 72) hx hb dMo_wrongWay_65 (by decide) (fun c22 => ?_) (fun c22 => ?_)
                · skip
                  refine lv_iconst (v := (0 : Int32)) hx hb dMo_wrongWay_72 (by decide) ?_
                  exact jn3 false (by rw [if_neg c17, if_pos c20, if_neg c21, if_pos c22]) _ hS
                · skip
                  refine lv_iconst (v := (1 : Int32)) hx hb dMo_wrongWay_68 (by decide) ?_
                  refine lv_goto (tgt := 73) hx hb dMo_wrongWay_69 (by decide) ?_
                  exact jn3 true (by rw [if_neg c17, if_pos c20, if_neg c21, if_neg c22]) _ hS
        refine lv_if_eq (tgt := 29) hx hb dMo_wrongWay_20 (by decide) (fun c23 => ?_) (fun c23 => ?_)
        · have c23 := bI_z c23
          refine lv_iload_n hx hb dMo_wrongWay_29 rfl (lv_at hl 0 rfl) ?_
          refine lv_iconst (v := (1 : Int32)) hx hb dMo_wrongWay_30 (by decide) ?_
          refine lv_iadd hx hb dMo_wrongWay_31 ?_
          exact jn2 (p9 + (1 : Int32)) (by rw [if_neg c23]) _ hS
        · have c23 := bI_n c23
          refine lv_iload_n hx hb dMo_wrongWay_23 rfl (lv_at hl 0 rfl) ?_
          refine lv_iconst (v := (2 : Int32)) hx hb dMo_wrongWay_24 (by decide) ?_
          refine lv_iadd hx hb dMo_wrongWay_25 ?_
          refine lv_goto (tgt := 32) hx hb dMo_wrongWay_26 (by decide) ?_
          exact jn2 (p9 + (2 : Int32)) (by rw [if_pos c23]) _ hS
  exact loop (a0.toNatClampNeg + 1) (0 : Int32) vc vd vs vo vi (by decide) fw_fuel rfl _ hP hD _ hS ls (lv_sub hl [0, 1, 2] rfl)
