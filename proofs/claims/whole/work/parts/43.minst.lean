def f_Mo_isInstruction (ga : Nat → Int32) (a1 : Int32) (a2 : Int32) : Bool × (Int32) × (Int32) × (Int32) × (Int32) × (Int32) :=
  if (f_Mo_kind ((f_Mo_take ga a1).1)) = (1 : Int32) then
    if ((f_Mo_take ga a1).2.2.2.2) = 0 then
      if (10 : Int32) ≤ ((f_Mo_take ga a1).2.1) then
        (false, ((f_Mo_take ga a1).1), ((f_Mo_take ga a1).2.1), ((f_Mo_take ga a1).2.2.1), ((f_Mo_take ga a1).2.2.2.1), ((f_Mo_take ga a1).2.2.2.2))
      else
        if (11 : Int32) ≤ ((f_Mo_take ga a1).2.2.1) then
          (false, ((f_Mo_take ga a1).1), ((f_Mo_take ga a1).2.1), ((f_Mo_take ga a1).2.2.1), ((f_Mo_take ga a1).2.2.2.1), ((f_Mo_take ga a1).2.2.2.2))
        else
          if (f_Mo_mode ((f_Mo_take ga a1).1)) = (3 : Int32) then
            (true, ((f_Mo_take ga a1).1), ((f_Mo_take ga a1).2.1), ((f_Mo_take ga a1).2.2.1), ((f_Mo_take ga a1).2.2.2.1), ((f_Mo_take ga a1).2.2.2.2))
          else
            if (f_Mo_mode ((f_Mo_take ga a1).1)) = (4 : Int32) then
              if (8 : Int32) ≤ (f_Mo_size ((f_Mo_take ga a1).1)) then
                (false, ((f_Mo_take ga a1).1), ((f_Mo_take ga a1).2.1), ((f_Mo_take ga a1).2.2.1), ((f_Mo_take ga a1).2.2.2.1), ((f_Mo_take ga a1).2.2.2.2))
              else
                (true, ((f_Mo_take ga a1).1), ((f_Mo_take ga a1).2.1), ((f_Mo_take ga a1).2.2.1), ((f_Mo_take ga a1).2.2.2.1), ((f_Mo_take ga a1).2.2.2.2))
            else
              (false, ((f_Mo_take ga a1).1), ((f_Mo_take ga a1).2.1), ((f_Mo_take ga a1).2.2.1), ((f_Mo_take ga a1).2.2.2.1), ((f_Mo_take ga a1).2.2.2.2))
    else
      (false, ((f_Mo_take ga a1).1), ((f_Mo_take ga a1).2.1), ((f_Mo_take ga a1).2.2.1), ((f_Mo_take ga a1).2.2.2.1), ((f_Mo_take ga a1).2.2.2.2))
  else
    if (f_Mo_kind ((f_Mo_take ga a1).1)) = (2 : Int32) then
      if ((f_Mo_take ga a1).2.2.1) = 0 then
        if (11 : Int32) ≤ ((f_Mo_take ga a1).2.1) then
          (false, ((f_Mo_take ga a1).1), ((f_Mo_take ga a1).2.1), ((f_Mo_take ga a1).2.2.1), ((f_Mo_take ga a1).2.2.2.1), ((f_Mo_take ga a1).2.2.2.2))
        else
          if (f_Mo_mode ((f_Mo_take ga a1).1)) = (3 : Int32) then
            (true, ((f_Mo_take ga a1).1), ((f_Mo_take ga a1).2.1), ((f_Mo_take ga a1).2.2.1), ((f_Mo_take ga a1).2.2.2.1), ((f_Mo_take ga a1).2.2.2.2))
          else
            (false, ((f_Mo_take ga a1).1), ((f_Mo_take ga a1).2.1), ((f_Mo_take ga a1).2.2.1), ((f_Mo_take ga a1).2.2.2.1), ((f_Mo_take ga a1).2.2.2.2))
      else
        (false, ((f_Mo_take ga a1).1), ((f_Mo_take ga a1).2.1), ((f_Mo_take ga a1).2.2.1), ((f_Mo_take ga a1).2.2.2.1), ((f_Mo_take ga a1).2.2.2.2))
    else
      if (f_Mo_kind ((f_Mo_take ga a1).1)) = (3 : Int32) then
        if (f_Mo_mode ((f_Mo_take ga a1).1)) = (3 : Int32) then
          if ((f_Mo_take ga a1).2.2.2.2) = 0 then
            if (11 : Int32) ≤ ((f_Mo_take ga a1).2.1) then
              (false, ((f_Mo_take ga a1).1), ((f_Mo_take ga a1).2.1), ((f_Mo_take ga a1).2.2.1), ((f_Mo_take ga a1).2.2.2.1), ((f_Mo_take ga a1).2.2.2.2))
            else
              if (11 : Int32) ≤ ((f_Mo_take ga a1).2.2.1) then
                (false, ((f_Mo_take ga a1).1), ((f_Mo_take ga a1).2.1), ((f_Mo_take ga a1).2.2.1), ((f_Mo_take ga a1).2.2.2.1), ((f_Mo_take ga a1).2.2.2.2))
              else
                (true, ((f_Mo_take ga a1).1), ((f_Mo_take ga a1).2.1), ((f_Mo_take ga a1).2.2.1), ((f_Mo_take ga a1).2.2.2.1), ((f_Mo_take ga a1).2.2.2.2))
          else
            (false, ((f_Mo_take ga a1).1), ((f_Mo_take ga a1).2.1), ((f_Mo_take ga a1).2.2.1), ((f_Mo_take ga a1).2.2.2.1), ((f_Mo_take ga a1).2.2.2.2))
        else
          if (f_Mo_mode ((f_Mo_take ga a1).1)) = (6 : Int32) then
            if (f_Mo_isAtomic ((f_Mo_take ga a1).1) ((f_Mo_take ga a1).2.1) ((f_Mo_take ga a1).2.2.1) ((f_Mo_take ga a1).2.2.2.2)) = true then
              (true, ((f_Mo_take ga a1).1), ((f_Mo_take ga a1).2.1), ((f_Mo_take ga a1).2.2.1), ((f_Mo_take ga a1).2.2.2.1), ((f_Mo_take ga a1).2.2.2.2))
            else
              (false, ((f_Mo_take ga a1).1), ((f_Mo_take ga a1).2.1), ((f_Mo_take ga a1).2.2.1), ((f_Mo_take ga a1).2.2.2.1), ((f_Mo_take ga a1).2.2.2.2))
          else
            (false, ((f_Mo_take ga a1).1), ((f_Mo_take ga a1).2.1), ((f_Mo_take ga a1).2.2.1), ((f_Mo_take ga a1).2.2.2.1), ((f_Mo_take ga a1).2.2.2.2))
      else
        if (f_Mo_kind ((f_Mo_take ga a1).1)) = (4 : Int32) then
          ((f_Mo_isArithmetic ((f_Mo_take ga a1).1) ((f_Mo_take ga a1).2.1) ((f_Mo_take ga a1).2.2.1) ((f_Mo_take ga a1).2.2.2.1) ((f_Mo_take ga a1).2.2.2.2)), ((f_Mo_take ga a1).1), ((f_Mo_take ga a1).2.1), ((f_Mo_take ga a1).2.2.1), ((f_Mo_take ga a1).2.2.2.1), ((f_Mo_take ga a1).2.2.2.2))
        else
          if (f_Mo_kind ((f_Mo_take ga a1).1)) = (5 : Int32) then
            ((f_Mo_isJump ((f_Mo_take ga a1).1) ((f_Mo_take ga a1).2.1) ((f_Mo_take ga a1).2.2.1) ((f_Mo_take ga a1).2.2.2.1) ((f_Mo_take ga a1).2.2.2.2)), ((f_Mo_take ga a1).1), ((f_Mo_take ga a1).2.1), ((f_Mo_take ga a1).2.2.1), ((f_Mo_take ga a1).2.2.2.1), ((f_Mo_take ga a1).2.2.2.2))
          else
            if (f_Mo_kind ((f_Mo_take ga a1).1)) = (6 : Int32) then
              ((f_Mo_isJump ((f_Mo_take ga a1).1) ((f_Mo_take ga a1).2.1) ((f_Mo_take ga a1).2.2.1) ((f_Mo_take ga a1).2.2.2.1) ((f_Mo_take ga a1).2.2.2.2)), ((f_Mo_take ga a1).1), ((f_Mo_take ga a1).2.1), ((f_Mo_take ga a1).2.2.1), ((f_Mo_take ga a1).2.2.2.1), ((f_Mo_take ga a1).2.2.2.2))
            else
              if (f_Mo_kind ((f_Mo_take ga a1).1)) = (7 : Int32) then
                ((f_Mo_isArithmetic ((f_Mo_take ga a1).1) ((f_Mo_take ga a1).2.1) ((f_Mo_take ga a1).2.2.1) ((f_Mo_take ga a1).2.2.2.1) ((f_Mo_take ga a1).2.2.2.2)), ((f_Mo_take ga a1).1), ((f_Mo_take ga a1).2.1), ((f_Mo_take ga a1).2.2.1), ((f_Mo_take ga a1).2.2.2.1), ((f_Mo_take ga a1).2.2.2.2))
              else
                if (f_Mo_isWide ((f_Mo_take ga a1).1)) = true then
                  if (10 : Int32) ≤ ((f_Mo_take ga a1).2.1) then
                    (false, ((f_Mo_take ga a1).1), ((f_Mo_take ga a1).2.1), ((f_Mo_take ga a1).2.2.1), ((f_Mo_take ga a1).2.2.2.1), ((f_Mo_take ga a1).2.2.2.2))
                  else
                    if (2 : Int32) ≤ ((f_Mo_take ga a1).2.2.1) then
                      (false, ((f_Mo_take ga a1).1), ((f_Mo_take ga a1).2.1), ((f_Mo_take ga a1).2.2.1), ((f_Mo_take ga a1).2.2.2.1), ((f_Mo_take ga a1).2.2.2.2))
                    else
                      if ((f_Mo_take ga a1).2.2.2.1) = 0 then
                        if a2 ≤ (a1 + (1 : Int32)) then
                          (false, ((f_Mo_take ga a1).1), ((f_Mo_take ga a1).2.1), ((f_Mo_take ga a1).2.2.1), ((f_Mo_take ga a1).2.2.2.1), ((f_Mo_take ga a1).2.2.2.2))
                        else
                          if (f_Mo_number ga (((8 : Int32) * a1) + (8 : Int32)) (4 : Int32)) = 0 then
                            if ((f_Mo_take ga a1).2.2.1) = 0 then
                              (true, ((f_Mo_take ga a1).1), ((f_Mo_take ga a1).2.1), ((f_Mo_take ga a1).2.2.1), ((f_Mo_take ga a1).2.2.2.1), ((f_Mo_take ga a1).2.2.2.2))
                            else
                              if ((f_Mo_take ga a1).2.2.2.2) < 0 then
                                (false, ((f_Mo_take ga a1).1), ((f_Mo_take ga a1).2.1), ((f_Mo_take ga a1).2.2.1), ((f_Mo_take ga a1).2.2.2.1), ((f_Mo_take ga a1).2.2.2.2))
                              else
                                if (f_Mo_number ga (((8 : Int32) * a1) + (12 : Int32)) (4 : Int32)) = 0 then
                                  (true, ((f_Mo_take ga a1).1), ((f_Mo_take ga a1).2.1), ((f_Mo_take ga a1).2.2.1), ((f_Mo_take ga a1).2.2.2.1), ((f_Mo_take ga a1).2.2.2.2))
                                else
                                  (false, ((f_Mo_take ga a1).1), ((f_Mo_take ga a1).2.1), ((f_Mo_take ga a1).2.2.1), ((f_Mo_take ga a1).2.2.2.1), ((f_Mo_take ga a1).2.2.2.2))
                          else
                            (false, ((f_Mo_take ga a1).1), ((f_Mo_take ga a1).2.1), ((f_Mo_take ga a1).2.2.1), ((f_Mo_take ga a1).2.2.2.1), ((f_Mo_take ga a1).2.2.2.2))
                      else
                        (false, ((f_Mo_take ga a1).1), ((f_Mo_take ga a1).2.1), ((f_Mo_take ga a1).2.2.1), ((f_Mo_take ga a1).2.2.2.1), ((f_Mo_take ga a1).2.2.2.2))
                else
                  (false, ((f_Mo_take ga a1).1), ((f_Mo_take ga a1).2.1), ((f_Mo_take ga a1).2.2.1), ((f_Mo_take ga a1).2.2.2.1), ((f_Mo_take ga a1).2.2.2.2))
set_option maxHeartbeats 4000000 in
set_option maxRecDepth 100000 in
theorem c_Mo_isInstruction (l : Launch) (G : va_G) (cB cL cI : ClassId) (Hp : Heap) (m0 : Nat) (vth : Int32) (qt : Nat) (vtp : Int32) (qp : Nat) (vpl : Int32) (qr : Nat) (qm : Nat) (vpc : Int32) (vst : Int32) (vc : Int32) (vd : Int32) (vs : Int32) (vo : Int32) (vi : Int32) (vn : Int32) (qa : Nat) (ga : Nat → Int32) (a1 : Int32) (a2 : Int32) (hP : va_P G vwCl [(m0, .inr (5, [.int vth, .ref qt, .int vtp, .ref qp, .int vpl, .ref qr, .ref qm, .int vpc, .int vst, .int vc, .int vd, .int vs, .int vo, .int vi, .int vn])), (qa, .inl (cI, 32768, .inl ga))] Hp) (hD : va_D (fun _ => True) [(m0, .inr (5, [.int vth, .ref qt, .int vtp, .ref qp, .int vpl, .ref qr, .ref qm, .int vpc, .int vst, .int vc, .int vd, .int vs, .int vo, .int vi, .int vn])), (qa, .inl (cI, 32768, .inl ga))]) (hp0 : 0 ≤ a1.toInt) (hp1 : a1.toInt < 4096) (ha : a2.toInt ≤ 4096) : Met l yMo_isInstruction wsMo_isInstruction ({ frames := 3, cells := 0, slots := 0, locals := 62 }) (va_Pc [.ref m0, .ref qa, .int a1, .int a2] (fun U => U.heap = Hp ∧ va_K G vwCl [(cB, .byte), (cL, .long), (cI, .int)] U)) (va_Qi (fun (r : Int32) (u : (Int32) × (Int32) × (Int32) × (Int32) × (Int32)) => r = bI ((f_Mo_isInstruction ga a1 a2)).1 ∧ u = ((f_Mo_isInstruction ga a1 a2)).2) (fun (u : (Int32) × (Int32) × (Int32) × (Int32) × (Int32)) t => va_P G vwCl [(m0, .inr (5, [.int vth, .ref qt, .int vtp, .ref qp, .int vpl, .ref qr, .ref qm, .int vpc, .int vst, .int (u.1), .int (u.2.1), .int (u.2.2.1), .int (u.2.2.2.1), .int (u.2.2.2.2), .int vn])), (qa, .inl (cI, 32768, .inl ga))] t.heap ∧ va_D (va_A [(m0, .inr (5, [.int vth, .ref qt, .int vtp, .ref qp, .int vpl, .ref qr, .ref qm, .int vpc, .int vst, .int vc, .int vd, .int vs, .int vo, .int vi, .int vn])), (qa, .inl (cI, 32768, .inl ga))] Hp.size) [(m0, .inr (5, [.int vth, .ref qt, .int vtp, .ref qp, .int vpl, .ref qr, .ref qm, .int vpc, .int vst, .int (u.1), .int (u.2.1), .int (u.2.2.1), .int (u.2.2.2.1), .int (u.2.2.2.2), .int vn])), (qa, .inl (cI, 32768, .inl ga))]) (va_A [(m0, .inr (5, [.int vth, .ref qt, .int vtp, .ref qp, .int vpl, .ref qr, .ref qm, .int vpc, .int vst, .int vc, .int vd, .int vs, .int vo, .int vi, .int vn])), (qa, .inl (cI, 32768, .inl ga))] Hp.size)) 0 0 (va_A [(m0, .inr (5, [.int vth, .ref qt, .int vtp, .ref qp, .int vpl, .ref qr, .ref qm, .int vpc, .int vst, .int vc, .int vd, .int vs, .int vo, .int vi, .int vn])), (qa, .inl (cI, 32768, .inl ga))] Hp.size) := by
  refine Met.ofW (cc := cMo_isInstruction) (maxL := 6) (ret := (some .boolean)) (by decide) rfl ?_
  intro p e s m args below meth c s₁ B hml hv
  obtain ⟨rfl, rfl, hK⟩ := hv
  have hx := B.exec
  have hb := B.bytes
  have hr := B.returns
  have hT : ∀ w ∈ tB, w.before _ s = true := fun w h => atoms_spec (ws := wsMo_isInstruction) B.pre w (List.mem_cons_of_mem _ h)
  have hown : s.vm.findClass "CompiledProgramModel" = some m.cls := findClass_of_methodNamed B.named
  have hlocks := B.notSynchronized
  have hD := hD.self (sz := s.heap.size)
  generalize hAe : va_A [(m0, .inr (5, [.int vth, .ref qt, .int vtp, .ref qp, .int vpl, .ref qr, .ref qm, .int vpc, .int vst, .int vc, .int vd, .int vs, .int vo, .int vi, .int vn])), (qa, .inl (cI, 32768, .inl ga))] s.heap.size = A at hD ⊢
  have hA : ∀ q : Nat, s.heap.size ≤ q → A q := fun q h => by rw [← hAe]; exact Or.inr h
  have hS : va_S A s.heap s.heap [] := va_S.rf
  have hl := lv_entry ([.ref m0, .ref qa, .int a1, .int a2]) (n := 6) (Nat.le_of_ble_eq_true rfl)
  rw [lg_entry_eq]
  generalize (lg_sl ([.ref m0, .ref qa, .int a1, .int a2]) ++ List.replicate (6 - (lg_sl ([.ref m0, .ref qa, .int a1, .int a2])).length) Slot.unset).toArray = ls at hl ⊢
  have hl : lv_has ls 6 [(0, .ref m0), (1, .ref qa), (2, .int a1), (3, .int a2)] := hl
  refine lv_aload_n hx hb dMo_isInstruction_0 rfl (lv_at hl 0 rfl) ?_
  refine lv_aload_n hx hb dMo_isInstruction_1 rfl (lv_at hl 1 rfl) ?_
  refine lv_iload_n hx hb dMo_isInstruction_2 rfl (lv_at hl 2 rfl) ?_
  have hPc := hP.sub (ws' := [(m0, .inr (5, [.int vth, .ref qt, .int vtp, .ref qp, .int vpl, .ref qr, .ref qm, .int vpc, .int vst, .int vc, .int vd, .int vs, .int vo, .int vi, .int vn])), (qa, .inl (cI, 32768, .inl ga))]) [0, 1] rfl
  have hDc := hD.sub (ws' := [(m0, .inr (5, [.int vth, .ref qt, .int vtp, .ref qp, .int vpl, .ref qr, .ref qm, .int vpc, .int vst, .int vc, .int vd, .int vs, .int vo, .int vi, .int vn])), (qa, .inl (cI, 32768, .inl ga))]) [0, 1] (by decide) rfl
  have hFc := va_free (wc := [(m0, .inr (5, [.int vth, .ref qt, .int vtp, .ref qp, .int vpl, .ref qr, .ref qm, .int vpc, .int vst, .int vc, .int vd, .int vs, .int vo, .int vi, .int vn])), (qa, .inl (cI, 32768, .inl ga))]) hD hS hA [0, 1] rfl
  refine va_callv (va_runV (As := [.ref qa, .int a1]) (rest := []) ⟨hx, hb, hml, hown, hT⟩ (c_Mo_take l G cB cL cI s.heap m0 vth qt vtp qp vpl qr qm vpc vst vc vd vs vo vi vn qa ga a1 hPc (hDc.weaken (fun _ _ _ _ => trivial)) hp0 hp1) (cwV 2 hT (gB_V mw_636 mw_638 ms_3 mw_6 mw_639) rfl rfl rfl (by decide +kernel) ⟨Nat.le_of_ble_eq_true rfl, Nat.le_of_ble_eq_true rfl⟩) ⟨fun a U g mk q => ⟨q.1, q.2.1, va_K.moved (u := U) (U := U.calling g mk a) (Vm.Alike.refl U.vm) q.2.2⟩, va_recv hK hPc (ci := 5) (q0 := 0) rfl rfl, fun U hU hW => ⟨rfl, hU, va_K.moved hW.alike hK⟩⟩ rfl rfl hl.1 rfl (lv_room (Nat.le_of_ble_eq_true rfl)) dMo_isInstruction_3 ⟨Nat.zero_le _, Nat.zero_le _⟩) hS (fun q _ h => hFc q h) hFc (fun u t H locs ht hvm hw hB hz8 hk8 hS => ?_)
  subst hw
  obtain ⟨hP1, hD1⟩ := hB
  rw [ht] at hP1
  obtain ⟨hP, hD⟩ := va_join (wr := []) (w1 := [(m0, .inr (5, [.int vth, .ref qt, .int vtp, .ref qp, .int vpl, .ref qr, .ref qm, .int vpc, .int vst, .int ((f_Mo_take ga a1).1), .int ((f_Mo_take ga a1).2.1), .int ((f_Mo_take ga a1).2.2.1), .int ((f_Mo_take ga a1).2.2.2.1), .int ((f_Mo_take ga a1).2.2.2.2), .int vn])), (qa, .inl (cI, 32768, .inl ga))]) hP hD [0, 1] [] rfl rfl (by decide) (by decide) hk8 hFc hP1 hD1
  have hP : va_P G vwCl [(m0, .inr (5, [.int vth, .ref qt, .int vtp, .ref qp, .int vpl, .ref qr, .ref qm, .int vpc, .int vst, .int ((f_Mo_take ga a1).1), .int ((f_Mo_take ga a1).2.1), .int ((f_Mo_take ga a1).2.2.1), .int ((f_Mo_take ga a1).2.2.2.1), .int ((f_Mo_take ga a1).2.2.2.2), .int vn])), (qa, .inl (cI, 32768, .inl ga))] H := hP
  have hD : va_D A [(m0, .inr (5, [.int vth, .ref qt, .int vtp, .ref qp, .int vpl, .ref qr, .ref qm, .int vpc, .int vst, .int ((f_Mo_take ga a1).1), .int ((f_Mo_take ga a1).2.1), .int ((f_Mo_take ga a1).2.2.1), .int ((f_Mo_take ga a1).2.2.2.1), .int ((f_Mo_take ga a1).2.2.2.2), .int vn])), (qa, .inl (cI, 32768, .inl ga))] := hD
  refine lv_aload_n hx hb dMo_isInstruction_6 rfl (lv_at hl 0 rfl) ?_
  have hPc := hP.sub (ws' := [(m0, .inr (5, [.int vth, .ref qt, .int vtp, .ref qp, .int vpl, .ref qr, .ref qm, .int vpc, .int vst, .int ((f_Mo_take ga a1).1), .int ((f_Mo_take ga a1).2.1), .int ((f_Mo_take ga a1).2.2.1), .int ((f_Mo_take ga a1).2.2.2.1), .int ((f_Mo_take ga a1).2.2.2.2), .int vn]))]) [0] rfl
  refine va_calli (va_runV (As := []) (rest := []) ⟨hx, hb, hml, hown, hT⟩ (c_Mo_kind l G cB cL cI H m0 vth qt vtp qp vpl qr qm vpc vst ((f_Mo_take ga a1).1) ((f_Mo_take ga a1).2.1) ((f_Mo_take ga a1).2.2.1) ((f_Mo_take ga a1).2.2.2.1) ((f_Mo_take ga a1).2.2.2.2) vn hPc ) (cwV 0 hT (gB_V mw_643 mw_645 ms_4 mw_6 mw_646) rfl rfl rfl (by decide +kernel) ⟨Nat.le_of_ble_eq_true rfl, Nat.le_of_ble_eq_true rfl⟩) ⟨fun a U g mk q => ⟨q.1, q.2.1, va_K.moved (u := U) (U := U.calling g mk a) (Vm.Alike.refl U.vm) q.2.2⟩, va_recv hK hPc (ci := 5) (q0 := 0) rfl rfl, fun U hU hW => ⟨rfl, hU, va_K.moved hW.alike hK⟩⟩ rfl rfl hl.1 rfl (lv_room (Nat.le_of_ble_eq_true rfl)) dMo_isInstruction_7 ⟨Nat.zero_le _, Nat.zero_le _⟩) hS (fun _ _ h => h.elim) (fun _ h => h.elim) (fun r u t H1 locs ht hvm hw hB hz8 hk8 hS => ?_)
  obtain rfl : H = H1 := hB.symm.trans ht
  subst hw
  by_cases c1 : (f_Mo_kind ((f_Mo_take ga a1).1)) = (1 : Int32)
  · skip
    refine lv_tableIn (tgt := 62) (off := 52) hx hb dMo_isInstruction_10 (by rw [c1]; decide) (by rw [c1]; decide) (by rw [c1]; rfl) (by decide) ?_
    refine lv_aload_n hx hb dMo_isInstruction_62 rfl (lv_at hl 0 rfl) ?_
    refine va_get (D := G) (ci := 5) (v := .int ((f_Mo_take ga a1).2.2.2.2)) (C := RMo) (T := TMo) (N := 15) hx hb hT inMo hown hK hP 0 rfl rfl 13 (by decide) (hT _ mw_578) (fun _ h9 => h9) rfl dMo_isInstruction_63 ?_
    refine lv_if_ne (tgt := 116) hx hb dMo_isInstruction_66 (by decide) (fun c2 => ?_) (fun c2 => ?_)
    · skip
      refine lv_iconst (v := (0 : Int32)) hx hb dMo_isInstruction_116 (by decide) ?_
      have hP9 := hP.sub (ws' := [(m0, .inr (5, [.int vth, .ref qt, .int vtp, .ref qp, .int vpl, .ref qr, .ref qm, .int vpc, .int vst, .int ((f_Mo_take ga a1).1), .int ((f_Mo_take ga a1).2.1), .int ((f_Mo_take ga a1).2.2.1), .int ((f_Mo_take ga a1).2.2.2.1), .int ((f_Mo_take ga a1).2.2.2.2), .int vn])), (qa, .inl (cI, 32768, .inl ga))]) [0, 1] rfl
      have hD9 := hD.sub (ws' := [(m0, .inr (5, [.int vth, .ref qt, .int vtp, .ref qp, .int vpl, .ref qr, .ref qm, .int vpc, .int vst, .int ((f_Mo_take ga a1).1), .int ((f_Mo_take ga a1).2.1), .int ((f_Mo_take ga a1).2.2.1), .int ((f_Mo_take ga a1).2.2.2.1), .int ((f_Mo_take ga a1).2.2.2.2), .int vn])), (qa, .inl (cI, 32768, .inl ga))]) [0, 1] (by decide) rfl
      exact W.zret (v := (0 : Int32)) hx hb hr rfl (fun t ht hW => ⟨⟨(0 : Int32), (((f_Mo_take ga a1).1), ((f_Mo_take ga a1).2.1), ((f_Mo_take ga a1).2.2.1), ((f_Mo_take ga a1).2.2.2.1), ((f_Mo_take ga a1).2.2.2.2)), rfl, ⟨(by unfold f_Mo_isInstruction; rw [if_pos c1, if_neg c2]; try rfl), (by unfold f_Mo_isInstruction; rw [if_pos c1, if_neg c2]; try rfl)⟩, by rw [ht]; exact hP9, hD9⟩, hS.F ht⟩) hS.2.2 dMo_isInstruction_117
    · skip
      refine lv_aload_n hx hb dMo_isInstruction_69 rfl (lv_at hl 0 rfl) ?_
      refine va_get (D := G) (ci := 5) (v := .int ((f_Mo_take ga a1).2.1)) (C := RMo) (T := TMo) (N := 15) hx hb hT inMo hown hK hP 0 rfl rfl 10 (by decide) (hT _ mw_575) (fun _ h9 => h9) rfl dMo_isInstruction_70 ?_
      refine lv_bipush (v := (10 : Int32)) hx hb dMo_isInstruction_73 (by decide) ?_
      refine lv_icmp_ge (tgt := 116) hx hb dMo_isInstruction_75 (by decide) (fun c3 => ?_) (fun c3 => ?_)
      · skip
        refine lv_iconst (v := (0 : Int32)) hx hb dMo_isInstruction_116 (by decide) ?_
        have hP9 := hP.sub (ws' := [(m0, .inr (5, [.int vth, .ref qt, .int vtp, .ref qp, .int vpl, .ref qr, .ref qm, .int vpc, .int vst, .int ((f_Mo_take ga a1).1), .int ((f_Mo_take ga a1).2.1), .int ((f_Mo_take ga a1).2.2.1), .int ((f_Mo_take ga a1).2.2.2.1), .int ((f_Mo_take ga a1).2.2.2.2), .int vn])), (qa, .inl (cI, 32768, .inl ga))]) [0, 1] rfl
        have hD9 := hD.sub (ws' := [(m0, .inr (5, [.int vth, .ref qt, .int vtp, .ref qp, .int vpl, .ref qr, .ref qm, .int vpc, .int vst, .int ((f_Mo_take ga a1).1), .int ((f_Mo_take ga a1).2.1), .int ((f_Mo_take ga a1).2.2.1), .int ((f_Mo_take ga a1).2.2.2.1), .int ((f_Mo_take ga a1).2.2.2.2), .int vn])), (qa, .inl (cI, 32768, .inl ga))]) [0, 1] (by decide) rfl
        exact W.zret (v := (0 : Int32)) hx hb hr rfl (fun t ht hW => ⟨⟨(0 : Int32), (((f_Mo_take ga a1).1), ((f_Mo_take ga a1).2.1), ((f_Mo_take ga a1).2.2.1), ((f_Mo_take ga a1).2.2.2.1), ((f_Mo_take ga a1).2.2.2.2)), rfl, ⟨(by unfold f_Mo_isInstruction; rw [if_pos c1, if_pos c2, if_pos c3]; try rfl), (by unfold f_Mo_isInstruction; rw [if_pos c1, if_pos c2, if_pos c3]; try rfl)⟩, by rw [ht]; exact hP9, hD9⟩, hS.F ht⟩) hS.2.2 dMo_isInstruction_117
      · skip
        refine lv_aload_n hx hb dMo_isInstruction_78 rfl (lv_at hl 0 rfl) ?_
        refine va_get (D := G) (ci := 5) (v := .int ((f_Mo_take ga a1).2.2.1)) (C := RMo) (T := TMo) (N := 15) hx hb hT inMo hown hK hP 0 rfl rfl 11 (by decide) (hT _ mw_576) (fun _ h9 => h9) rfl dMo_isInstruction_79 ?_
        refine lv_bipush (v := (11 : Int32)) hx hb dMo_isInstruction_82 (by decide) ?_
        refine lv_icmp_ge (tgt := 116) hx hb dMo_isInstruction_84 (by decide) (fun c4 => ?_) (fun c4 => ?_)
        · skip
          refine lv_iconst (v := (0 : Int32)) hx hb dMo_isInstruction_116 (by decide) ?_
          have hP9 := hP.sub (ws' := [(m0, .inr (5, [.int vth, .ref qt, .int vtp, .ref qp, .int vpl, .ref qr, .ref qm, .int vpc, .int vst, .int ((f_Mo_take ga a1).1), .int ((f_Mo_take ga a1).2.1), .int ((f_Mo_take ga a1).2.2.1), .int ((f_Mo_take ga a1).2.2.2.1), .int ((f_Mo_take ga a1).2.2.2.2), .int vn])), (qa, .inl (cI, 32768, .inl ga))]) [0, 1] rfl
          have hD9 := hD.sub (ws' := [(m0, .inr (5, [.int vth, .ref qt, .int vtp, .ref qp, .int vpl, .ref qr, .ref qm, .int vpc, .int vst, .int ((f_Mo_take ga a1).1), .int ((f_Mo_take ga a1).2.1), .int ((f_Mo_take ga a1).2.2.1), .int ((f_Mo_take ga a1).2.2.2.1), .int ((f_Mo_take ga a1).2.2.2.2), .int vn])), (qa, .inl (cI, 32768, .inl ga))]) [0, 1] (by decide) rfl
          exact W.zret (v := (0 : Int32)) hx hb hr rfl (fun t ht hW => ⟨⟨(0 : Int32), (((f_Mo_take ga a1).1), ((f_Mo_take ga a1).2.1), ((f_Mo_take ga a1).2.2.1), ((f_Mo_take ga a1).2.2.2.1), ((f_Mo_take ga a1).2.2.2.2)), rfl, ⟨(by unfold f_Mo_isInstruction; rw [if_pos c1, if_pos c2, if_neg c3, if_pos c4]; try rfl), (by unfold f_Mo_isInstruction; rw [if_pos c1, if_pos c2, if_neg c3, if_pos c4]; try rfl)⟩, by rw [ht]; exact hP9, hD9⟩, hS.F ht⟩) hS.2.2 dMo_isInstruction_117
        · skip
          refine lv_aload_n hx hb dMo_isInstruction_87 rfl (lv_at hl 0 rfl) ?_
          have hPc := hP.sub (ws' := [(m0, .inr (5, [.int vth, .ref qt, .int vtp, .ref qp, .int vpl, .ref qr, .ref qm, .int vpc, .int vst, .int ((f_Mo_take ga a1).1), .int ((f_Mo_take ga a1).2.1), .int ((f_Mo_take ga a1).2.2.1), .int ((f_Mo_take ga a1).2.2.2.1), .int ((f_Mo_take ga a1).2.2.2.2), .int vn]))]) [0] rfl
          refine va_calli (va_runV (As := []) (rest := []) ⟨hx, hb, hml, hown, hT⟩ (c_Mo_mode l G cB cL cI H m0 vth qt vtp qp vpl qr qm vpc vst ((f_Mo_take ga a1).1) ((f_Mo_take ga a1).2.1) ((f_Mo_take ga a1).2.2.1) ((f_Mo_take ga a1).2.2.2.1) ((f_Mo_take ga a1).2.2.2.2) vn hPc ) (cwV 0 hT (gB_V mw_667 mw_669 ms_10 mw_6 mw_670) rfl rfl rfl (by decide +kernel) ⟨Nat.le_of_ble_eq_true rfl, Nat.le_of_ble_eq_true rfl⟩) ⟨fun a U g mk q => ⟨q.1, q.2.1, va_K.moved (u := U) (U := U.calling g mk a) (Vm.Alike.refl U.vm) q.2.2⟩, va_recv hK hPc (ci := 5) (q0 := 0) rfl rfl, fun U hU hW => ⟨rfl, hU, va_K.moved hW.alike hK⟩⟩ rfl rfl hl.1 rfl (lv_room (Nat.le_of_ble_eq_true rfl)) dMo_isInstruction_88 ⟨Nat.zero_le _, Nat.zero_le _⟩) hS (fun _ _ h => h.elim) (fun _ h => h.elim) (fun r u t H1 locs ht hvm hw hB hz8 hk8 hS => ?_)
          obtain rfl : H = H1 := hB.symm.trans ht
          subst hw
          refine lv_iconst (v := (3 : Int32)) hx hb dMo_isInstruction_91 (by decide) ?_
          refine lv_icmp_eq (tgt := 112) hx hb dMo_isInstruction_92 (by decide) (fun c5 => ?_) (fun c5 => ?_)
          · skip
            refine lv_iconst (v := (1 : Int32)) hx hb dMo_isInstruction_112 (by decide) ?_
            refine lv_goto (tgt := 117) hx hb dMo_isInstruction_113 (by decide) ?_
            have hP9 := hP.sub (ws' := [(m0, .inr (5, [.int vth, .ref qt, .int vtp, .ref qp, .int vpl, .ref qr, .ref qm, .int vpc, .int vst, .int ((f_Mo_take ga a1).1), .int ((f_Mo_take ga a1).2.1), .int ((f_Mo_take ga a1).2.2.1), .int ((f_Mo_take ga a1).2.2.2.1), .int ((f_Mo_take ga a1).2.2.2.2), .int vn])), (qa, .inl (cI, 32768, .inl ga))]) [0, 1] rfl
            have hD9 := hD.sub (ws' := [(m0, .inr (5, [.int vth, .ref qt, .int vtp, .ref qp, .int vpl, .ref qr, .ref qm, .int vpc, .int vst, .int ((f_Mo_take ga a1).1), .int ((f_Mo_take ga a1).2.1), .int ((f_Mo_take ga a1).2.2.1), .int ((f_Mo_take ga a1).2.2.2.1), .int ((f_Mo_take ga a1).2.2.2.2), .int vn])), (qa, .inl (cI, 32768, .inl ga))]) [0, 1] (by decide) rfl
            exact W.zret (v := (1 : Int32)) hx hb hr rfl (fun t ht hW => ⟨⟨(1 : Int32), (((f_Mo_take ga a1).1), ((f_Mo_take ga a1).2.1), ((f_Mo_take ga a1).2.2.1), ((f_Mo_take ga a1).2.2.2.1), ((f_Mo_take ga a1).2.2.2.2)), rfl, ⟨(by unfold f_Mo_isInstruction; rw [if_pos c1, if_pos c2, if_neg c3, if_neg c4, if_pos c5]; try rfl), (by unfold f_Mo_isInstruction; rw [if_pos c1, if_pos c2, if_neg c3, if_neg c4, if_pos c5]; try rfl)⟩, by rw [ht]; exact hP9, hD9⟩, hS.F ht⟩) hS.2.2 dMo_isInstruction_117
          · skip
            refine lv_aload_n hx hb dMo_isInstruction_95 rfl (lv_at hl 0 rfl) ?_
            have hPc := hP.sub (ws' := [(m0, .inr (5, [.int vth, .ref qt, .int vtp, .ref qp, .int vpl, .ref qr, .ref qm, .int vpc, .int vst, .int ((f_Mo_take ga a1).1), .int ((f_Mo_take ga a1).2.1), .int ((f_Mo_take ga a1).2.2.1), .int ((f_Mo_take ga a1).2.2.2.1), .int ((f_Mo_take ga a1).2.2.2.2), .int vn]))]) [0] rfl
            refine va_calli (va_runV (As := []) (rest := []) ⟨hx, hb, hml, hown, hT⟩ (c_Mo_mode l G cB cL cI H m0 vth qt vtp qp vpl qr qm vpc vst ((f_Mo_take ga a1).1) ((f_Mo_take ga a1).2.1) ((f_Mo_take ga a1).2.2.1) ((f_Mo_take ga a1).2.2.2.1) ((f_Mo_take ga a1).2.2.2.2) vn hPc ) (cwV 0 hT (gB_V mw_667 mw_669 ms_10 mw_6 mw_670) rfl rfl rfl (by decide +kernel) ⟨Nat.le_of_ble_eq_true rfl, Nat.le_of_ble_eq_true rfl⟩) ⟨fun a U g mk q => ⟨q.1, q.2.1, va_K.moved (u := U) (U := U.calling g mk a) (Vm.Alike.refl U.vm) q.2.2⟩, va_recv hK hPc (ci := 5) (q0 := 0) rfl rfl, fun U hU hW => ⟨rfl, hU, va_K.moved hW.alike hK⟩⟩ rfl rfl hl.1 rfl (lv_room (Nat.le_of_ble_eq_true rfl)) dMo_isInstruction_96 ⟨Nat.zero_le _, Nat.zero_le _⟩) hS (fun _ _ h => h.elim) (fun _ h => h.elim) (fun r u t H1 locs ht hvm hw hB hz8 hk8 hS => ?_)
            obtain rfl : H = H1 := hB.symm.trans ht
            subst hw
            refine lv_iconst (v := (4 : Int32)) hx hb dMo_isInstruction_99 (by decide) ?_
            refine lv_icmp_ne (tgt := 116) hx hb dMo_isInstruction_100 (by decide) (fun c6 => ?_) (fun c6 => ?_)
            · skip
              refine lv_iconst (v := (0 : Int32)) hx hb dMo_isInstruction_116 (by decide) ?_
              have hP9 := hP.sub (ws' := [(m0, .inr (5, [.int vth, .ref qt, .int vtp, .ref qp, .int vpl, .ref qr, .ref qm, .int vpc, .int vst, .int ((f_Mo_take ga a1).1), .int ((f_Mo_take ga a1).2.1), .int ((f_Mo_take ga a1).2.2.1), .int ((f_Mo_take ga a1).2.2.2.1), .int ((f_Mo_take ga a1).2.2.2.2), .int vn])), (qa, .inl (cI, 32768, .inl ga))]) [0, 1] rfl
              have hD9 := hD.sub (ws' := [(m0, .inr (5, [.int vth, .ref qt, .int vtp, .ref qp, .int vpl, .ref qr, .ref qm, .int vpc, .int vst, .int ((f_Mo_take ga a1).1), .int ((f_Mo_take ga a1).2.1), .int ((f_Mo_take ga a1).2.2.1), .int ((f_Mo_take ga a1).2.2.2.1), .int ((f_Mo_take ga a1).2.2.2.2), .int vn])), (qa, .inl (cI, 32768, .inl ga))]) [0, 1] (by decide) rfl
              exact W.zret (v := (0 : Int32)) hx hb hr rfl (fun t ht hW => ⟨⟨(0 : Int32), (((f_Mo_take ga a1).1), ((f_Mo_take ga a1).2.1), ((f_Mo_take ga a1).2.2.1), ((f_Mo_take ga a1).2.2.2.1), ((f_Mo_take ga a1).2.2.2.2)), rfl, ⟨(by unfold f_Mo_isInstruction; rw [if_pos c1, if_pos c2, if_neg c3, if_neg c4, if_neg c5, if_neg c6]; try rfl), (by unfold f_Mo_isInstruction; rw [if_pos c1, if_pos c2, if_neg c3, if_neg c4, if_neg c5, if_neg c6]; try rfl)⟩, by rw [ht]; exact hP9, hD9⟩, hS.F ht⟩) hS.2.2 dMo_isInstruction_117
            · skip
              refine lv_aload_n hx hb dMo_isInstruction_103 rfl (lv_at hl 0 rfl) ?_
              have hPc := hP.sub (ws' := [(m0, .inr (5, [.int vth, .ref qt, .int vtp, .ref qp, .int vpl, .ref qr, .ref qm, .int vpc, .int vst, .int ((f_Mo_take ga a1).1), .int ((f_Mo_take ga a1).2.1), .int ((f_Mo_take ga a1).2.2.1), .int ((f_Mo_take ga a1).2.2.2.1), .int ((f_Mo_take ga a1).2.2.2.2), .int vn]))]) [0] rfl
              refine va_calli (va_runV (As := []) (rest := []) ⟨hx, hb, hml, hown, hT⟩ (c_Mo_size l G cB cL cI H m0 vth qt vtp qp vpl qr qm vpc vst ((f_Mo_take ga a1).1) ((f_Mo_take ga a1).2.1) ((f_Mo_take ga a1).2.2.1) ((f_Mo_take ga a1).2.2.2.1) ((f_Mo_take ga a1).2.2.2.2) vn hPc ) (cwV 0 hT (gB_V mw_671 mw_673 ms_11 mw_6 mw_674) rfl rfl rfl (by decide +kernel) ⟨Nat.le_of_ble_eq_true rfl, Nat.le_of_ble_eq_true rfl⟩) ⟨fun a U g mk q => ⟨q.1, q.2.1, va_K.moved (u := U) (U := U.calling g mk a) (Vm.Alike.refl U.vm) q.2.2⟩, va_recv hK hPc (ci := 5) (q0 := 0) rfl rfl, fun U hU hW => ⟨rfl, hU, va_K.moved hW.alike hK⟩⟩ rfl rfl hl.1 rfl (lv_room (Nat.le_of_ble_eq_true rfl)) dMo_isInstruction_104 ⟨Nat.zero_le _, Nat.zero_le _⟩) hS (fun _ _ h => h.elim) (fun _ h => h.elim) (fun r u t H1 locs ht hvm hw hB hz8 hk8 hS => ?_)
              obtain rfl : H = H1 := hB.symm.trans ht
              subst hw
              refine lv_bipush (v := (8 : Int32)) hx hb dMo_isInstruction_107 (by decide) ?_
              refine lv_icmp_ge (tgt := 116) hx hb dMo_isInstruction_109 (by decide) (fun c7 => ?_) (fun c7 => ?_)
              · skip
                refine lv_iconst (v := (0 : Int32)) hx hb dMo_isInstruction_116 (by decide) ?_
                have hP9 := hP.sub (ws' := [(m0, .inr (5, [.int vth, .ref qt, .int vtp, .ref qp, .int vpl, .ref qr, .ref qm, .int vpc, .int vst, .int ((f_Mo_take ga a1).1), .int ((f_Mo_take ga a1).2.1), .int ((f_Mo_take ga a1).2.2.1), .int ((f_Mo_take ga a1).2.2.2.1), .int ((f_Mo_take ga a1).2.2.2.2), .int vn])), (qa, .inl (cI, 32768, .inl ga))]) [0, 1] rfl
                have hD9 := hD.sub (ws' := [(m0, .inr (5, [.int vth, .ref qt, .int vtp, .ref qp, .int vpl, .ref qr, .ref qm, .int vpc, .int vst, .int ((f_Mo_take ga a1).1), .int ((f_Mo_take ga a1).2.1), .int ((f_Mo_take ga a1).2.2.1), .int ((f_Mo_take ga a1).2.2.2.1), .int ((f_Mo_take ga a1).2.2.2.2), .int vn])), (qa, .inl (cI, 32768, .inl ga))]) [0, 1] (by decide) rfl
                exact W.zret (v := (0 : Int32)) hx hb hr rfl (fun t ht hW => ⟨⟨(0 : Int32), (((f_Mo_take ga a1).1), ((f_Mo_take ga a1).2.1), ((f_Mo_take ga a1).2.2.1), ((f_Mo_take ga a1).2.2.2.1), ((f_Mo_take ga a1).2.2.2.2)), rfl, ⟨(by unfold f_Mo_isInstruction; rw [if_pos c1, if_pos c2, if_neg c3, if_neg c4, if_neg c5, if_pos c6, if_pos c7]; try rfl), (by unfold f_Mo_isInstruction; rw [if_pos c1, if_pos c2, if_neg c3, if_neg c4, if_neg c5, if_pos c6, if_pos c7]; try rfl)⟩, by rw [ht]; exact hP9, hD9⟩, hS.F ht⟩) hS.2.2 dMo_isInstruction_117
              · skip
                refine lv_iconst (v := (1 : Int32)) hx hb dMo_isInstruction_112 (by decide) ?_
                refine lv_goto (tgt := 117) hx hb dMo_isInstruction_113 (by decide) ?_
                have hP9 := hP.sub (ws' := [(m0, .inr (5, [.int vth, .ref qt, .int vtp, .ref qp, .int vpl, .ref qr, .ref qm, .int vpc, .int vst, .int ((f_Mo_take ga a1).1), .int ((f_Mo_take ga a1).2.1), .int ((f_Mo_take ga a1).2.2.1), .int ((f_Mo_take ga a1).2.2.2.1), .int ((f_Mo_take ga a1).2.2.2.2), .int vn])), (qa, .inl (cI, 32768, .inl ga))]) [0, 1] rfl
                have hD9 := hD.sub (ws' := [(m0, .inr (5, [.int vth, .ref qt, .int vtp, .ref qp, .int vpl, .ref qr, .ref qm, .int vpc, .int vst, .int ((f_Mo_take ga a1).1), .int ((f_Mo_take ga a1).2.1), .int ((f_Mo_take ga a1).2.2.1), .int ((f_Mo_take ga a1).2.2.2.1), .int ((f_Mo_take ga a1).2.2.2.2), .int vn])), (qa, .inl (cI, 32768, .inl ga))]) [0, 1] (by decide) rfl
                exact W.zret (v := (1 : Int32)) hx hb hr rfl (fun t ht hW => ⟨⟨(1 : Int32), (((f_Mo_take ga a1).1), ((f_Mo_take ga a1).2.1), ((f_Mo_take ga a1).2.2.1), ((f_Mo_take ga a1).2.2.2.1), ((f_Mo_take ga a1).2.2.2.2)), rfl, ⟨(by unfold f_Mo_isInstruction; rw [if_pos c1, if_pos c2, if_neg c3, if_neg c4, if_neg c5, if_pos c6, if_neg c7]; try rfl), (by unfold f_Mo_isInstruction; rw [if_pos c1, if_pos c2, if_neg c3, if_neg c4, if_neg c5, if_pos c6, if_neg c7]; try rfl)⟩, by rw [ht]; exact hP9, hD9⟩, hS.F ht⟩) hS.2.2 dMo_isInstruction_117
  by_cases c8 : (f_Mo_kind ((f_Mo_take ga a1).1)) = (2 : Int32)
  · skip
    refine lv_tableIn (tgt := 118) (off := 108) hx hb dMo_isInstruction_10 (by rw [c8]; decide) (by rw [c8]; decide) (by rw [c8]; rfl) (by decide) ?_
    refine lv_aload_n hx hb dMo_isInstruction_118 rfl (lv_at hl 0 rfl) ?_
    refine va_get (D := G) (ci := 5) (v := .int ((f_Mo_take ga a1).2.2.1)) (C := RMo) (T := TMo) (N := 15) hx hb hT inMo hown hK hP 0 rfl rfl 11 (by decide) (hT _ mw_576) (fun _ h9 => h9) rfl dMo_isInstruction_119 ?_
    refine lv_if_ne (tgt := 146) hx hb dMo_isInstruction_122 (by decide) (fun c9 => ?_) (fun c9 => ?_)
    · skip
      refine lv_iconst (v := (0 : Int32)) hx hb dMo_isInstruction_146 (by decide) ?_
      have hP9 := hP.sub (ws' := [(m0, .inr (5, [.int vth, .ref qt, .int vtp, .ref qp, .int vpl, .ref qr, .ref qm, .int vpc, .int vst, .int ((f_Mo_take ga a1).1), .int ((f_Mo_take ga a1).2.1), .int ((f_Mo_take ga a1).2.2.1), .int ((f_Mo_take ga a1).2.2.2.1), .int ((f_Mo_take ga a1).2.2.2.2), .int vn])), (qa, .inl (cI, 32768, .inl ga))]) [0, 1] rfl
      have hD9 := hD.sub (ws' := [(m0, .inr (5, [.int vth, .ref qt, .int vtp, .ref qp, .int vpl, .ref qr, .ref qm, .int vpc, .int vst, .int ((f_Mo_take ga a1).1), .int ((f_Mo_take ga a1).2.1), .int ((f_Mo_take ga a1).2.2.1), .int ((f_Mo_take ga a1).2.2.2.1), .int ((f_Mo_take ga a1).2.2.2.2), .int vn])), (qa, .inl (cI, 32768, .inl ga))]) [0, 1] (by decide) rfl
      exact W.zret (v := (0 : Int32)) hx hb hr rfl (fun t ht hW => ⟨⟨(0 : Int32), (((f_Mo_take ga a1).1), ((f_Mo_take ga a1).2.1), ((f_Mo_take ga a1).2.2.1), ((f_Mo_take ga a1).2.2.2.1), ((f_Mo_take ga a1).2.2.2.2)), rfl, ⟨(by unfold f_Mo_isInstruction; rw [if_neg c1, if_pos c8, if_neg c9]; try rfl), (by unfold f_Mo_isInstruction; rw [if_neg c1, if_pos c8, if_neg c9]; try rfl)⟩, by rw [ht]; exact hP9, hD9⟩, hS.F ht⟩) hS.2.2 dMo_isInstruction_147
    · skip
      refine lv_aload_n hx hb dMo_isInstruction_125 rfl (lv_at hl 0 rfl) ?_
      refine va_get (D := G) (ci := 5) (v := .int ((f_Mo_take ga a1).2.1)) (C := RMo) (T := TMo) (N := 15) hx hb hT inMo hown hK hP 0 rfl rfl 10 (by decide) (hT _ mw_575) (fun _ h9 => h9) rfl dMo_isInstruction_126 ?_
      refine lv_bipush (v := (11 : Int32)) hx hb dMo_isInstruction_129 (by decide) ?_
      refine lv_icmp_ge (tgt := 146) hx hb dMo_isInstruction_131 (by decide) (fun c10 => ?_) (fun c10 => ?_)
      · skip
        refine lv_iconst (v := (0 : Int32)) hx hb dMo_isInstruction_146 (by decide) ?_
        have hP9 := hP.sub (ws' := [(m0, .inr (5, [.int vth, .ref qt, .int vtp, .ref qp, .int vpl, .ref qr, .ref qm, .int vpc, .int vst, .int ((f_Mo_take ga a1).1), .int ((f_Mo_take ga a1).2.1), .int ((f_Mo_take ga a1).2.2.1), .int ((f_Mo_take ga a1).2.2.2.1), .int ((f_Mo_take ga a1).2.2.2.2), .int vn])), (qa, .inl (cI, 32768, .inl ga))]) [0, 1] rfl
        have hD9 := hD.sub (ws' := [(m0, .inr (5, [.int vth, .ref qt, .int vtp, .ref qp, .int vpl, .ref qr, .ref qm, .int vpc, .int vst, .int ((f_Mo_take ga a1).1), .int ((f_Mo_take ga a1).2.1), .int ((f_Mo_take ga a1).2.2.1), .int ((f_Mo_take ga a1).2.2.2.1), .int ((f_Mo_take ga a1).2.2.2.2), .int vn])), (qa, .inl (cI, 32768, .inl ga))]) [0, 1] (by decide) rfl
        exact W.zret (v := (0 : Int32)) hx hb hr rfl (fun t ht hW => ⟨⟨(0 : Int32), (((f_Mo_take ga a1).1), ((f_Mo_take ga a1).2.1), ((f_Mo_take ga a1).2.2.1), ((f_Mo_take ga a1).2.2.2.1), ((f_Mo_take ga a1).2.2.2.2)), rfl, ⟨(by unfold f_Mo_isInstruction; rw [if_neg c1, if_pos c8, if_pos c9, if_pos c10]; try rfl), (by unfold f_Mo_isInstruction; rw [if_neg c1, if_pos c8, if_pos c9, if_pos c10]; try rfl)⟩, by rw [ht]; exact hP9, hD9⟩, hS.F ht⟩) hS.2.2 dMo_isInstruction_147
      · skip
        refine lv_aload_n hx hb dMo_isInstruction_134 rfl (lv_at hl 0 rfl) ?_
        have hPc := hP.sub (ws' := [(m0, .inr (5, [.int vth, .ref qt, .int vtp, .ref qp, .int vpl, .ref qr, .ref qm, .int vpc, .int vst, .int ((f_Mo_take ga a1).1), .int ((f_Mo_take ga a1).2.1), .int ((f_Mo_take ga a1).2.2.1), .int ((f_Mo_take ga a1).2.2.2.1), .int ((f_Mo_take ga a1).2.2.2.2), .int vn]))]) [0] rfl
        refine va_calli (va_runV (As := []) (rest := []) ⟨hx, hb, hml, hown, hT⟩ (c_Mo_mode l G cB cL cI H m0 vth qt vtp qp vpl qr qm vpc vst ((f_Mo_take ga a1).1) ((f_Mo_take ga a1).2.1) ((f_Mo_take ga a1).2.2.1) ((f_Mo_take ga a1).2.2.2.1) ((f_Mo_take ga a1).2.2.2.2) vn hPc ) (cwV 0 hT (gB_V mw_667 mw_669 ms_10 mw_6 mw_670) rfl rfl rfl (by decide +kernel) ⟨Nat.le_of_ble_eq_true rfl, Nat.le_of_ble_eq_true rfl⟩) ⟨fun a U g mk q => ⟨q.1, q.2.1, va_K.moved (u := U) (U := U.calling g mk a) (Vm.Alike.refl U.vm) q.2.2⟩, va_recv hK hPc (ci := 5) (q0 := 0) rfl rfl, fun U hU hW => ⟨rfl, hU, va_K.moved hW.alike hK⟩⟩ rfl rfl hl.1 rfl (lv_room (Nat.le_of_ble_eq_true rfl)) dMo_isInstruction_135 ⟨Nat.zero_le _, Nat.zero_le _⟩) hS (fun _ _ h => h.elim) (fun _ h => h.elim) (fun r u t H1 locs ht hvm hw hB hz8 hk8 hS => ?_)
        obtain rfl : H = H1 := hB.symm.trans ht
        subst hw
        refine lv_iconst (v := (3 : Int32)) hx hb dMo_isInstruction_138 (by decide) ?_
        refine lv_icmp_ne (tgt := 146) hx hb dMo_isInstruction_139 (by decide) (fun c11 => ?_) (fun c11 => ?_)
        · skip
          refine lv_iconst (v := (0 : Int32)) hx hb dMo_isInstruction_146 (by decide) ?_
          have hP9 := hP.sub (ws' := [(m0, .inr (5, [.int vth, .ref qt, .int vtp, .ref qp, .int vpl, .ref qr, .ref qm, .int vpc, .int vst, .int ((f_Mo_take ga a1).1), .int ((f_Mo_take ga a1).2.1), .int ((f_Mo_take ga a1).2.2.1), .int ((f_Mo_take ga a1).2.2.2.1), .int ((f_Mo_take ga a1).2.2.2.2), .int vn])), (qa, .inl (cI, 32768, .inl ga))]) [0, 1] rfl
          have hD9 := hD.sub (ws' := [(m0, .inr (5, [.int vth, .ref qt, .int vtp, .ref qp, .int vpl, .ref qr, .ref qm, .int vpc, .int vst, .int ((f_Mo_take ga a1).1), .int ((f_Mo_take ga a1).2.1), .int ((f_Mo_take ga a1).2.2.1), .int ((f_Mo_take ga a1).2.2.2.1), .int ((f_Mo_take ga a1).2.2.2.2), .int vn])), (qa, .inl (cI, 32768, .inl ga))]) [0, 1] (by decide) rfl
          exact W.zret (v := (0 : Int32)) hx hb hr rfl (fun t ht hW => ⟨⟨(0 : Int32), (((f_Mo_take ga a1).1), ((f_Mo_take ga a1).2.1), ((f_Mo_take ga a1).2.2.1), ((f_Mo_take ga a1).2.2.2.1), ((f_Mo_take ga a1).2.2.2.2)), rfl, ⟨(by unfold f_Mo_isInstruction; rw [if_neg c1, if_pos c8, if_pos c9, if_neg c10, if_neg c11]; try rfl), (by unfold f_Mo_isInstruction; rw [if_neg c1, if_pos c8, if_pos c9, if_neg c10, if_neg c11]; try rfl)⟩, by rw [ht]; exact hP9, hD9⟩, hS.F ht⟩) hS.2.2 dMo_isInstruction_147
        · skip
          refine lv_iconst (v := (1 : Int32)) hx hb dMo_isInstruction_142 (by decide) ?_
          refine lv_goto (tgt := 147) hx hb dMo_isInstruction_143 (by decide) ?_
          have hP9 := hP.sub (ws' := [(m0, .inr (5, [.int vth, .ref qt, .int vtp, .ref qp, .int vpl, .ref qr, .ref qm, .int vpc, .int vst, .int ((f_Mo_take ga a1).1), .int ((f_Mo_take ga a1).2.1), .int ((f_Mo_take ga a1).2.2.1), .int ((f_Mo_take ga a1).2.2.2.1), .int ((f_Mo_take ga a1).2.2.2.2), .int vn])), (qa, .inl (cI, 32768, .inl ga))]) [0, 1] rfl
          have hD9 := hD.sub (ws' := [(m0, .inr (5, [.int vth, .ref qt, .int vtp, .ref qp, .int vpl, .ref qr, .ref qm, .int vpc, .int vst, .int ((f_Mo_take ga a1).1), .int ((f_Mo_take ga a1).2.1), .int ((f_Mo_take ga a1).2.2.1), .int ((f_Mo_take ga a1).2.2.2.1), .int ((f_Mo_take ga a1).2.2.2.2), .int vn])), (qa, .inl (cI, 32768, .inl ga))]) [0, 1] (by decide) rfl
          exact W.zret (v := (1 : Int32)) hx hb hr rfl (fun t ht hW => ⟨⟨(1 : Int32), (((f_Mo_take ga a1).1), ((f_Mo_take ga a1).2.1), ((f_Mo_take ga a1).2.2.1), ((f_Mo_take ga a1).2.2.2.1), ((f_Mo_take ga a1).2.2.2.2)), rfl, ⟨(by unfold f_Mo_isInstruction; rw [if_neg c1, if_pos c8, if_pos c9, if_neg c10, if_pos c11]; try rfl), (by unfold f_Mo_isInstruction; rw [if_neg c1, if_pos c8, if_pos c9, if_neg c10, if_pos c11]; try rfl)⟩, by rw [ht]; exact hP9, hD9⟩, hS.F ht⟩) hS.2.2 dMo_isInstruction_147
  by_cases c12 : (f_Mo_kind ((f_Mo_take ga a1).1)) = (3 : Int32)
  · skip
    refine lv_tableIn (tgt := 148) (off := 138) hx hb dMo_isInstruction_10 (by rw [c12]; decide) (by rw [c12]; decide) (by rw [c12]; rfl) (by decide) ?_
    refine lv_aload_n hx hb dMo_isInstruction_148 rfl (lv_at hl 0 rfl) ?_
    have hPc := hP.sub (ws' := [(m0, .inr (5, [.int vth, .ref qt, .int vtp, .ref qp, .int vpl, .ref qr, .ref qm, .int vpc, .int vst, .int ((f_Mo_take ga a1).1), .int ((f_Mo_take ga a1).2.1), .int ((f_Mo_take ga a1).2.2.1), .int ((f_Mo_take ga a1).2.2.2.1), .int ((f_Mo_take ga a1).2.2.2.2), .int vn]))]) [0] rfl
    refine va_calli (va_runV (As := []) (rest := []) ⟨hx, hb, hml, hown, hT⟩ (c_Mo_mode l G cB cL cI H m0 vth qt vtp qp vpl qr qm vpc vst ((f_Mo_take ga a1).1) ((f_Mo_take ga a1).2.1) ((f_Mo_take ga a1).2.2.1) ((f_Mo_take ga a1).2.2.2.1) ((f_Mo_take ga a1).2.2.2.2) vn hPc ) (cwV 0 hT (gB_V mw_667 mw_669 ms_10 mw_6 mw_670) rfl rfl rfl (by decide +kernel) ⟨Nat.le_of_ble_eq_true rfl, Nat.le_of_ble_eq_true rfl⟩) ⟨fun a U g mk q => ⟨q.1, q.2.1, va_K.moved (u := U) (U := U.calling g mk a) (Vm.Alike.refl U.vm) q.2.2⟩, va_recv hK hPc (ci := 5) (q0 := 0) rfl rfl, fun U hU hW => ⟨rfl, hU, va_K.moved hW.alike hK⟩⟩ rfl rfl hl.1 rfl (lv_room (Nat.le_of_ble_eq_true rfl)) dMo_isInstruction_149 ⟨Nat.zero_le _, Nat.zero_le _⟩) hS (fun _ _ h => h.elim) (fun _ h => h.elim) (fun r u t H1 locs ht hvm hw hB hz8 hk8 hS => ?_)
    obtain rfl : H = H1 := hB.symm.trans ht
    subst hw
    refine lv_iconst (v := (3 : Int32)) hx hb dMo_isInstruction_152 (by decide) ?_
    refine lv_icmp_ne (tgt := 189) hx hb dMo_isInstruction_153 (by decide) (fun c13 => ?_) (fun c13 => ?_)
    · skip
      refine lv_aload_n hx hb dMo_isInstruction_189 rfl (lv_at hl 0 rfl) ?_
      have hPc := hP.sub (ws' := [(m0, .inr (5, [.int vth, .ref qt, .int vtp, .ref qp, .int vpl, .ref qr, .ref qm, .int vpc, .int vst, .int ((f_Mo_take ga a1).1), .int ((f_Mo_take ga a1).2.1), .int ((f_Mo_take ga a1).2.2.1), .int ((f_Mo_take ga a1).2.2.2.1), .int ((f_Mo_take ga a1).2.2.2.2), .int vn]))]) [0] rfl
      refine va_calli (va_runV (As := []) (rest := []) ⟨hx, hb, hml, hown, hT⟩ (c_Mo_mode l G cB cL cI H m0 vth qt vtp qp vpl qr qm vpc vst ((f_Mo_take ga a1).1) ((f_Mo_take ga a1).2.1) ((f_Mo_take ga a1).2.2.1) ((f_Mo_take ga a1).2.2.2.1) ((f_Mo_take ga a1).2.2.2.2) vn hPc ) (cwV 0 hT (gB_V mw_667 mw_669 ms_10 mw_6 mw_670) rfl rfl rfl (by decide +kernel) ⟨Nat.le_of_ble_eq_true rfl, Nat.le_of_ble_eq_true rfl⟩) ⟨fun a U g mk q => ⟨q.1, q.2.1, va_K.moved (u := U) (U := U.calling g mk a) (Vm.Alike.refl U.vm) q.2.2⟩, va_recv hK hPc (ci := 5) (q0 := 0) rfl rfl, fun U hU hW => ⟨rfl, hU, va_K.moved hW.alike hK⟩⟩ rfl rfl hl.1 rfl (lv_room (Nat.le_of_ble_eq_true rfl)) dMo_isInstruction_190 ⟨Nat.zero_le _, Nat.zero_le _⟩) hS (fun _ _ h => h.elim) (fun _ h => h.elim) (fun r u t H1 locs ht hvm hw hB hz8 hk8 hS => ?_)
      obtain rfl : H = H1 := hB.symm.trans ht
      subst hw
      refine lv_bipush (v := (6 : Int32)) hx hb dMo_isInstruction_193 (by decide) ?_
      refine lv_icmp_ne (tgt := 209) hx hb dMo_isInstruction_195 (by decide) (fun c14 => ?_) (fun c14 => ?_)
      · skip
        refine lv_iconst (v := (0 : Int32)) hx hb dMo_isInstruction_209 (by decide) ?_
        have hP9 := hP.sub (ws' := [(m0, .inr (5, [.int vth, .ref qt, .int vtp, .ref qp, .int vpl, .ref qr, .ref qm, .int vpc, .int vst, .int ((f_Mo_take ga a1).1), .int ((f_Mo_take ga a1).2.1), .int ((f_Mo_take ga a1).2.2.1), .int ((f_Mo_take ga a1).2.2.2.1), .int ((f_Mo_take ga a1).2.2.2.2), .int vn])), (qa, .inl (cI, 32768, .inl ga))]) [0, 1] rfl
        have hD9 := hD.sub (ws' := [(m0, .inr (5, [.int vth, .ref qt, .int vtp, .ref qp, .int vpl, .ref qr, .ref qm, .int vpc, .int vst, .int ((f_Mo_take ga a1).1), .int ((f_Mo_take ga a1).2.1), .int ((f_Mo_take ga a1).2.2.1), .int ((f_Mo_take ga a1).2.2.2.1), .int ((f_Mo_take ga a1).2.2.2.2), .int vn])), (qa, .inl (cI, 32768, .inl ga))]) [0, 1] (by decide) rfl
        exact W.zret (v := (0 : Int32)) hx hb hr rfl (fun t ht hW => ⟨⟨(0 : Int32), (((f_Mo_take ga a1).1), ((f_Mo_take ga a1).2.1), ((f_Mo_take ga a1).2.2.1), ((f_Mo_take ga a1).2.2.2.1), ((f_Mo_take ga a1).2.2.2.2)), rfl, ⟨(by unfold f_Mo_isInstruction; rw [if_neg c1, if_neg c8, if_pos c12, if_neg c13, if_neg c14]; try rfl), (by unfold f_Mo_isInstruction; rw [if_neg c1, if_neg c8, if_pos c12, if_neg c13, if_neg c14]; try rfl)⟩, by rw [ht]; exact hP9, hD9⟩, hS.F ht⟩) hS.2.2 dMo_isInstruction_210
      · skip
        refine lv_aload_n hx hb dMo_isInstruction_198 rfl (lv_at hl 0 rfl) ?_
        have hPc := hP.sub (ws' := [(m0, .inr (5, [.int vth, .ref qt, .int vtp, .ref qp, .int vpl, .ref qr, .ref qm, .int vpc, .int vst, .int ((f_Mo_take ga a1).1), .int ((f_Mo_take ga a1).2.1), .int ((f_Mo_take ga a1).2.2.1), .int ((f_Mo_take ga a1).2.2.2.1), .int ((f_Mo_take ga a1).2.2.2.2), .int vn]))]) [0] rfl
        refine va_calli (va_runV (As := []) (rest := []) ⟨hx, hb, hml, hown, hT⟩ (c_Mo_isAtomic l G cB cL cI H m0 vth qt vtp qp vpl qr qm vpc vst ((f_Mo_take ga a1).1) ((f_Mo_take ga a1).2.1) ((f_Mo_take ga a1).2.2.1) ((f_Mo_take ga a1).2.2.2.1) ((f_Mo_take ga a1).2.2.2.2) vn hPc ) (cwV 0 hT (gB_V mw_675 mw_677 ms_12 mw_6 mw_678) rfl rfl rfl (by decide +kernel) ⟨Nat.le_of_ble_eq_true rfl, Nat.le_of_ble_eq_true rfl⟩) ⟨fun a U g mk q => ⟨q.1, q.2.1, va_K.moved (u := U) (U := U.calling g mk a) (Vm.Alike.refl U.vm) q.2.2⟩, va_recv hK hPc (ci := 5) (q0 := 0) rfl rfl, fun U hU hW => ⟨rfl, hU, va_K.moved hW.alike hK⟩⟩ rfl rfl hl.1 rfl (lv_room (Nat.le_of_ble_eq_true rfl)) dMo_isInstruction_199 ⟨Nat.zero_le _, Nat.zero_le _⟩) hS (fun _ _ h => h.elim) (fun _ h => h.elim) (fun r u t H1 locs ht hvm hw hB hz8 hk8 hS => ?_)
        obtain rfl : H = H1 := hB.symm.trans ht
        subst hw
        refine lv_if_eq (tgt := 209) hx hb dMo_isInstruction_202 (by decide) (fun c15 => ?_) (fun c15 => ?_)
        · have c15 := bI_z c15
          refine lv_iconst (v := (0 : Int32)) hx hb dMo_isInstruction_209 (by decide) ?_
          have hP9 := hP.sub (ws' := [(m0, .inr (5, [.int vth, .ref qt, .int vtp, .ref qp, .int vpl, .ref qr, .ref qm, .int vpc, .int vst, .int ((f_Mo_take ga a1).1), .int ((f_Mo_take ga a1).2.1), .int ((f_Mo_take ga a1).2.2.1), .int ((f_Mo_take ga a1).2.2.2.1), .int ((f_Mo_take ga a1).2.2.2.2), .int vn])), (qa, .inl (cI, 32768, .inl ga))]) [0, 1] rfl
          have hD9 := hD.sub (ws' := [(m0, .inr (5, [.int vth, .ref qt, .int vtp, .ref qp, .int vpl, .ref qr, .ref qm, .int vpc, .int vst, .int ((f_Mo_take ga a1).1), .int ((f_Mo_take ga a1).2.1), .int ((f_Mo_take ga a1).2.2.1), .int ((f_Mo_take ga a1).2.2.2.1), .int ((f_Mo_take ga a1).2.2.2.2), .int vn])), (qa, .inl (cI, 32768, .inl ga))]) [0, 1] (by decide) rfl
          exact W.zret (v := (0 : Int32)) hx hb hr rfl (fun t ht hW => ⟨⟨(0 : Int32), (((f_Mo_take ga a1).1), ((f_Mo_take ga a1).2.1), ((f_Mo_take ga a1).2.2.1), ((f_Mo_take ga a1).2.2.2.1), ((f_Mo_take ga a1).2.2.2.2)), rfl, ⟨(by unfold f_Mo_isInstruction; rw [if_neg c1, if_neg c8, if_pos c12, if_neg c13, if_pos c14, if_neg c15]; try rfl), (by unfold f_Mo_isInstruction; rw [if_neg c1, if_neg c8, if_pos c12, if_neg c13, if_pos c14, if_neg c15]; try rfl)⟩, by rw [ht]; exact hP9, hD9⟩, hS.F ht⟩) hS.2.2 dMo_isInstruction_210
        · have c15 := bI_n c15
          refine lv_iconst (v := (1 : Int32)) hx hb dMo_isInstruction_205 (by decide) ?_
          refine lv_goto (tgt := 210) hx hb dMo_isInstruction_206 (by decide) ?_
          have hP9 := hP.sub (ws' := [(m0, .inr (5, [.int vth, .ref qt, .int vtp, .ref qp, .int vpl, .ref qr, .ref qm, .int vpc, .int vst, .int ((f_Mo_take ga a1).1), .int ((f_Mo_take ga a1).2.1), .int ((f_Mo_take ga a1).2.2.1), .int ((f_Mo_take ga a1).2.2.2.1), .int ((f_Mo_take ga a1).2.2.2.2), .int vn])), (qa, .inl (cI, 32768, .inl ga))]) [0, 1] rfl
          have hD9 := hD.sub (ws' := [(m0, .inr (5, [.int vth, .ref qt, .int vtp, .ref qp, .int vpl, .ref qr, .ref qm, .int vpc, .int vst, .int ((f_Mo_take ga a1).1), .int ((f_Mo_take ga a1).2.1), .int ((f_Mo_take ga a1).2.2.1), .int ((f_Mo_take ga a1).2.2.2.1), .int ((f_Mo_take ga a1).2.2.2.2), .int vn])), (qa, .inl (cI, 32768, .inl ga))]) [0, 1] (by decide) rfl
          exact W.zret (v := (1 : Int32)) hx hb hr rfl (fun t ht hW => ⟨⟨(1 : Int32), (((f_Mo_take ga a1).1), ((f_Mo_take ga a1).2.1), ((f_Mo_take ga a1).2.2.1), ((f_Mo_take ga a1).2.2.2.1), ((f_Mo_take ga a1).2.2.2.2)), rfl, ⟨(by unfold f_Mo_isInstruction; rw [if_neg c1, if_neg c8, if_pos c12, if_neg c13, if_pos c14, if_pos c15]; try rfl), (by unfold f_Mo_isInstruction; rw [if_neg c1, if_neg c8, if_pos c12, if_neg c13, if_pos c14, if_pos c15]; try rfl)⟩, by rw [ht]; exact hP9, hD9⟩, hS.F ht⟩) hS.2.2 dMo_isInstruction_210
    · skip
      refine lv_aload_n hx hb dMo_isInstruction_156 rfl (lv_at hl 0 rfl) ?_
      refine va_get (D := G) (ci := 5) (v := .int ((f_Mo_take ga a1).2.2.2.2)) (C := RMo) (T := TMo) (N := 15) hx hb hT inMo hown hK hP 0 rfl rfl 13 (by decide) (hT _ mw_578) (fun _ h9 => h9) rfl dMo_isInstruction_157 ?_
      refine lv_if_ne (tgt := 185) hx hb dMo_isInstruction_160 (by decide) (fun c16 => ?_) (fun c16 => ?_)
      · skip
        refine lv_iconst (v := (0 : Int32)) hx hb dMo_isInstruction_185 (by decide) ?_
        refine lv_goto (tgt := 210) hx hb dMo_isInstruction_186 (by decide) ?_
        have hP9 := hP.sub (ws' := [(m0, .inr (5, [.int vth, .ref qt, .int vtp, .ref qp, .int vpl, .ref qr, .ref qm, .int vpc, .int vst, .int ((f_Mo_take ga a1).1), .int ((f_Mo_take ga a1).2.1), .int ((f_Mo_take ga a1).2.2.1), .int ((f_Mo_take ga a1).2.2.2.1), .int ((f_Mo_take ga a1).2.2.2.2), .int vn])), (qa, .inl (cI, 32768, .inl ga))]) [0, 1] rfl
        have hD9 := hD.sub (ws' := [(m0, .inr (5, [.int vth, .ref qt, .int vtp, .ref qp, .int vpl, .ref qr, .ref qm, .int vpc, .int vst, .int ((f_Mo_take ga a1).1), .int ((f_Mo_take ga a1).2.1), .int ((f_Mo_take ga a1).2.2.1), .int ((f_Mo_take ga a1).2.2.2.1), .int ((f_Mo_take ga a1).2.2.2.2), .int vn])), (qa, .inl (cI, 32768, .inl ga))]) [0, 1] (by decide) rfl
        exact W.zret (v := (0 : Int32)) hx hb hr rfl (fun t ht hW => ⟨⟨(0 : Int32), (((f_Mo_take ga a1).1), ((f_Mo_take ga a1).2.1), ((f_Mo_take ga a1).2.2.1), ((f_Mo_take ga a1).2.2.2.1), ((f_Mo_take ga a1).2.2.2.2)), rfl, ⟨(by unfold f_Mo_isInstruction; rw [if_neg c1, if_neg c8, if_pos c12, if_pos c13, if_neg c16]; try rfl), (by unfold f_Mo_isInstruction; rw [if_neg c1, if_neg c8, if_pos c12, if_pos c13, if_neg c16]; try rfl)⟩, by rw [ht]; exact hP9, hD9⟩, hS.F ht⟩) hS.2.2 dMo_isInstruction_210
      · skip
        refine lv_aload_n hx hb dMo_isInstruction_163 rfl (lv_at hl 0 rfl) ?_
        refine va_get (D := G) (ci := 5) (v := .int ((f_Mo_take ga a1).2.1)) (C := RMo) (T := TMo) (N := 15) hx hb hT inMo hown hK hP 0 rfl rfl 10 (by decide) (hT _ mw_575) (fun _ h9 => h9) rfl dMo_isInstruction_164 ?_
        refine lv_bipush (v := (11 : Int32)) hx hb dMo_isInstruction_167 (by decide) ?_
        refine lv_icmp_ge (tgt := 185) hx hb dMo_isInstruction_169 (by decide) (fun c17 => ?_) (fun c17 => ?_)
        · skip
          refine lv_iconst (v := (0 : Int32)) hx hb dMo_isInstruction_185 (by decide) ?_
          refine lv_goto (tgt := 210) hx hb dMo_isInstruction_186 (by decide) ?_
          have hP9 := hP.sub (ws' := [(m0, .inr (5, [.int vth, .ref qt, .int vtp, .ref qp, .int vpl, .ref qr, .ref qm, .int vpc, .int vst, .int ((f_Mo_take ga a1).1), .int ((f_Mo_take ga a1).2.1), .int ((f_Mo_take ga a1).2.2.1), .int ((f_Mo_take ga a1).2.2.2.1), .int ((f_Mo_take ga a1).2.2.2.2), .int vn])), (qa, .inl (cI, 32768, .inl ga))]) [0, 1] rfl
          have hD9 := hD.sub (ws' := [(m0, .inr (5, [.int vth, .ref qt, .int vtp, .ref qp, .int vpl, .ref qr, .ref qm, .int vpc, .int vst, .int ((f_Mo_take ga a1).1), .int ((f_Mo_take ga a1).2.1), .int ((f_Mo_take ga a1).2.2.1), .int ((f_Mo_take ga a1).2.2.2.1), .int ((f_Mo_take ga a1).2.2.2.2), .int vn])), (qa, .inl (cI, 32768, .inl ga))]) [0, 1] (by decide) rfl
          exact W.zret (v := (0 : Int32)) hx hb hr rfl (fun t ht hW => ⟨⟨(0 : Int32), (((f_Mo_take ga a1).1), ((f_Mo_take ga a1).2.1), ((f_Mo_take ga a1).2.2.1), ((f_Mo_take ga a1).2.2.2.1), ((f_Mo_take ga a1).2.2.2.2)), rfl, ⟨(by unfold f_Mo_isInstruction; rw [if_neg c1, if_neg c8, if_pos c12, if_pos c13, if_pos c16, if_pos c17]; try rfl), (by unfold f_Mo_isInstruction; rw [if_neg c1, if_neg c8, if_pos c12, if_pos c13, if_pos c16, if_pos c17]; try rfl)⟩, by rw [ht]; exact hP9, hD9⟩, hS.F ht⟩) hS.2.2 dMo_isInstruction_210
        · skip
          refine lv_aload_n hx hb dMo_isInstruction_172 rfl (lv_at hl 0 rfl) ?_
          refine va_get (D := G) (ci := 5) (v := .int ((f_Mo_take ga a1).2.2.1)) (C := RMo) (T := TMo) (N := 15) hx hb hT inMo hown hK hP 0 rfl rfl 11 (by decide) (hT _ mw_576) (fun _ h9 => h9) rfl dMo_isInstruction_173 ?_
          refine lv_bipush (v := (11 : Int32)) hx hb dMo_isInstruction_176 (by decide) ?_
          refine lv_icmp_ge (tgt := 185) hx hb dMo_isInstruction_178 (by decide) (fun c18 => ?_) (fun c18 => ?_)
          · skip
            refine lv_iconst (v := (0 : Int32)) hx hb dMo_isInstruction_185 (by decide) ?_
            refine lv_goto (tgt := 210) hx hb dMo_isInstruction_186 (by decide) ?_
            have hP9 := hP.sub (ws' := [(m0, .inr (5, [.int vth, .ref qt, .int vtp, .ref qp, .int vpl, .ref qr, .ref qm, .int vpc, .int vst, .int ((f_Mo_take ga a1).1), .int ((f_Mo_take ga a1).2.1), .int ((f_Mo_take ga a1).2.2.1), .int ((f_Mo_take ga a1).2.2.2.1), .int ((f_Mo_take ga a1).2.2.2.2), .int vn])), (qa, .inl (cI, 32768, .inl ga))]) [0, 1] rfl
            have hD9 := hD.sub (ws' := [(m0, .inr (5, [.int vth, .ref qt, .int vtp, .ref qp, .int vpl, .ref qr, .ref qm, .int vpc, .int vst, .int ((f_Mo_take ga a1).1), .int ((f_Mo_take ga a1).2.1), .int ((f_Mo_take ga a1).2.2.1), .int ((f_Mo_take ga a1).2.2.2.1), .int ((f_Mo_take ga a1).2.2.2.2), .int vn])), (qa, .inl (cI, 32768, .inl ga))]) [0, 1] (by decide) rfl
            exact W.zret (v := (0 : Int32)) hx hb hr rfl (fun t ht hW => ⟨⟨(0 : Int32), (((f_Mo_take ga a1).1), ((f_Mo_take ga a1).2.1), ((f_Mo_take ga a1).2.2.1), ((f_Mo_take ga a1).2.2.2.1), ((f_Mo_take ga a1).2.2.2.2)), rfl, ⟨(by unfold f_Mo_isInstruction; rw [if_neg c1, if_neg c8, if_pos c12, if_pos c13, if_pos c16, if_neg c17, if_pos c18]; try rfl), (by unfold f_Mo_isInstruction; rw [if_neg c1, if_neg c8, if_pos c12, if_pos c13, if_pos c16, if_neg c17, if_pos c18]; try rfl)⟩, by rw [ht]; exact hP9, hD9⟩, hS.F ht⟩) hS.2.2 dMo_isInstruction_210
          · skip
            refine lv_iconst (v := (1 : Int32)) hx hb dMo_isInstruction_181 (by decide) ?_
            refine lv_goto (tgt := 210) hx hb dMo_isInstruction_182 (by decide) ?_
            have hP9 := hP.sub (ws' := [(m0, .inr (5, [.int vth, .ref qt, .int vtp, .ref qp, .int vpl, .ref qr, .ref qm, .int vpc, .int vst, .int ((f_Mo_take ga a1).1), .int ((f_Mo_take ga a1).2.1), .int ((f_Mo_take ga a1).2.2.1), .int ((f_Mo_take ga a1).2.2.2.1), .int ((f_Mo_take ga a1).2.2.2.2), .int vn])), (qa, .inl (cI, 32768, .inl ga))]) [0, 1] rfl
            have hD9 := hD.sub (ws' := [(m0, .inr (5, [.int vth, .ref qt, .int vtp, .ref qp, .int vpl, .ref qr, .ref qm, .int vpc, .int vst, .int ((f_Mo_take ga a1).1), .int ((f_Mo_take ga a1).2.1), .int ((f_Mo_take ga a1).2.2.1), .int ((f_Mo_take ga a1).2.2.2.1), .int ((f_Mo_take ga a1).2.2.2.2), .int vn])), (qa, .inl (cI, 32768, .inl ga))]) [0, 1] (by decide) rfl
            exact W.zret (v := (1 : Int32)) hx hb hr rfl (fun t ht hW => ⟨⟨(1 : Int32), (((f_Mo_take ga a1).1), ((f_Mo_take ga a1).2.1), ((f_Mo_take ga a1).2.2.1), ((f_Mo_take ga a1).2.2.2.1), ((f_Mo_take ga a1).2.2.2.2)), rfl, ⟨(by unfold f_Mo_isInstruction; rw [if_neg c1, if_neg c8, if_pos c12, if_pos c13, if_pos c16, if_neg c17, if_neg c18]; try rfl), (by unfold f_Mo_isInstruction; rw [if_neg c1, if_neg c8, if_pos c12, if_pos c13, if_pos c16, if_neg c17, if_neg c18]; try rfl)⟩, by rw [ht]; exact hP9, hD9⟩, hS.F ht⟩) hS.2.2 dMo_isInstruction_210
  by_cases c19 : (f_Mo_kind ((f_Mo_take ga a1).1)) = (4 : Int32)
  · skip
    refine lv_tableIn (tgt := 52) (off := 42) hx hb dMo_isInstruction_10 (by rw [c19]; decide) (by rw [c19]; decide) (by rw [c19]; rfl) (by decide) ?_
    refine lv_aload_n hx hb dMo_isInstruction_52 rfl (lv_at hl 0 rfl) ?_
    have hPc := hP.sub (ws' := [(m0, .inr (5, [.int vth, .ref qt, .int vtp, .ref qp, .int vpl, .ref qr, .ref qm, .int vpc, .int vst, .int ((f_Mo_take ga a1).1), .int ((f_Mo_take ga a1).2.1), .int ((f_Mo_take ga a1).2.2.1), .int ((f_Mo_take ga a1).2.2.2.1), .int ((f_Mo_take ga a1).2.2.2.2), .int vn]))]) [0] rfl
    refine va_calli (va_runV (As := []) (rest := []) ⟨hx, hb, hml, hown, hT⟩ (c_Mo_isArithmetic l G cB cL cI H m0 vth qt vtp qp vpl qr qm vpc vst ((f_Mo_take ga a1).1) ((f_Mo_take ga a1).2.1) ((f_Mo_take ga a1).2.2.1) ((f_Mo_take ga a1).2.2.2.1) ((f_Mo_take ga a1).2.2.2.2) vn hPc ) (cwV 0 hT (gB_V mw_647 mw_649 ms_5 mw_6 mw_650) rfl rfl rfl (by decide +kernel) ⟨Nat.le_of_ble_eq_true rfl, Nat.le_of_ble_eq_true rfl⟩) ⟨fun a U g mk q => ⟨q.1, q.2.1, va_K.moved (u := U) (U := U.calling g mk a) (Vm.Alike.refl U.vm) q.2.2⟩, va_recv hK hPc (ci := 5) (q0 := 0) rfl rfl, fun U hU hW => ⟨rfl, hU, va_K.moved hW.alike hK⟩⟩ rfl rfl hl.1 rfl (lv_room (Nat.le_of_ble_eq_true rfl)) dMo_isInstruction_53 ⟨Nat.zero_le _, Nat.zero_le _⟩) hS (fun _ _ h => h.elim) (fun _ h => h.elim) (fun r u t H1 locs ht hvm hw hB hz8 hk8 hS => ?_)
    obtain rfl : H = H1 := hB.symm.trans ht
    subst hw
    have hP9 := hP.sub (ws' := [(m0, .inr (5, [.int vth, .ref qt, .int vtp, .ref qp, .int vpl, .ref qr, .ref qm, .int vpc, .int vst, .int ((f_Mo_take ga a1).1), .int ((f_Mo_take ga a1).2.1), .int ((f_Mo_take ga a1).2.2.1), .int ((f_Mo_take ga a1).2.2.2.1), .int ((f_Mo_take ga a1).2.2.2.2), .int vn])), (qa, .inl (cI, 32768, .inl ga))]) [0, 1] rfl
    have hD9 := hD.sub (ws' := [(m0, .inr (5, [.int vth, .ref qt, .int vtp, .ref qp, .int vpl, .ref qr, .ref qm, .int vpc, .int vst, .int ((f_Mo_take ga a1).1), .int ((f_Mo_take ga a1).2.1), .int ((f_Mo_take ga a1).2.2.1), .int ((f_Mo_take ga a1).2.2.2.1), .int ((f_Mo_take ga a1).2.2.2.2), .int vn])), (qa, .inl (cI, 32768, .inl ga))]) [0, 1] (by decide) rfl
    exact W.zret (v := (bI (f_Mo_isArithmetic ((f_Mo_take ga a1).1) ((f_Mo_take ga a1).2.1) ((f_Mo_take ga a1).2.2.1) ((f_Mo_take ga a1).2.2.2.1) ((f_Mo_take ga a1).2.2.2.2)))) hx hb hr (bI_nar _) (fun t ht hW => ⟨⟨(bI (f_Mo_isArithmetic ((f_Mo_take ga a1).1) ((f_Mo_take ga a1).2.1) ((f_Mo_take ga a1).2.2.1) ((f_Mo_take ga a1).2.2.2.1) ((f_Mo_take ga a1).2.2.2.2))), (((f_Mo_take ga a1).1), ((f_Mo_take ga a1).2.1), ((f_Mo_take ga a1).2.2.1), ((f_Mo_take ga a1).2.2.2.1), ((f_Mo_take ga a1).2.2.2.2)), rfl, ⟨(by unfold f_Mo_isInstruction; rw [if_neg c1, if_neg c8, if_neg c12, if_pos c19]; try rfl), (by unfold f_Mo_isInstruction; rw [if_neg c1, if_neg c8, if_neg c12, if_pos c19]; try rfl)⟩, by rw [ht]; exact hP9, hD9⟩, hS.F ht⟩) hS.2.2 dMo_isInstruction_56
  by_cases c20 : (f_Mo_kind ((f_Mo_take ga a1).1)) = (5 : Int32)
  · skip
    refine lv_tableIn (tgt := 57) (off := 47) hx hb dMo_isInstruction_10 (by rw [c20]; decide) (by rw [c20]; decide) (by rw [c20]; rfl) (by decide) ?_
    refine lv_aload_n hx hb dMo_isInstruction_57 rfl (lv_at hl 0 rfl) ?_
    have hPc := hP.sub (ws' := [(m0, .inr (5, [.int vth, .ref qt, .int vtp, .ref qp, .int vpl, .ref qr, .ref qm, .int vpc, .int vst, .int ((f_Mo_take ga a1).1), .int ((f_Mo_take ga a1).2.1), .int ((f_Mo_take ga a1).2.2.1), .int ((f_Mo_take ga a1).2.2.2.1), .int ((f_Mo_take ga a1).2.2.2.2), .int vn]))]) [0] rfl
    refine va_calli (va_runV (As := []) (rest := []) ⟨hx, hb, hml, hown, hT⟩ (c_Mo_isJump l G cB cL cI H m0 vth qt vtp qp vpl qr qm vpc vst ((f_Mo_take ga a1).1) ((f_Mo_take ga a1).2.1) ((f_Mo_take ga a1).2.2.1) ((f_Mo_take ga a1).2.2.2.1) ((f_Mo_take ga a1).2.2.2.2) vn hPc ) (cwV 0 hT (gB_V mw_663 mw_665 ms_9 mw_6 mw_666) rfl rfl rfl (by decide +kernel) ⟨Nat.le_of_ble_eq_true rfl, Nat.le_of_ble_eq_true rfl⟩) ⟨fun a U g mk q => ⟨q.1, q.2.1, va_K.moved (u := U) (U := U.calling g mk a) (Vm.Alike.refl U.vm) q.2.2⟩, va_recv hK hPc (ci := 5) (q0 := 0) rfl rfl, fun U hU hW => ⟨rfl, hU, va_K.moved hW.alike hK⟩⟩ rfl rfl hl.1 rfl (lv_room (Nat.le_of_ble_eq_true rfl)) dMo_isInstruction_58 ⟨Nat.zero_le _, Nat.zero_le _⟩) hS (fun _ _ h => h.elim) (fun _ h => h.elim) (fun r u t H1 locs ht hvm hw hB hz8 hk8 hS => ?_)
    obtain rfl : H = H1 := hB.symm.trans ht
    subst hw
    have hP9 := hP.sub (ws' := [(m0, .inr (5, [.int vth, .ref qt, .int vtp, .ref qp, .int vpl, .ref qr, .ref qm, .int vpc, .int vst, .int ((f_Mo_take ga a1).1), .int ((f_Mo_take ga a1).2.1), .int ((f_Mo_take ga a1).2.2.1), .int ((f_Mo_take ga a1).2.2.2.1), .int ((f_Mo_take ga a1).2.2.2.2), .int vn])), (qa, .inl (cI, 32768, .inl ga))]) [0, 1] rfl
    have hD9 := hD.sub (ws' := [(m0, .inr (5, [.int vth, .ref qt, .int vtp, .ref qp, .int vpl, .ref qr, .ref qm, .int vpc, .int vst, .int ((f_Mo_take ga a1).1), .int ((f_Mo_take ga a1).2.1), .int ((f_Mo_take ga a1).2.2.1), .int ((f_Mo_take ga a1).2.2.2.1), .int ((f_Mo_take ga a1).2.2.2.2), .int vn])), (qa, .inl (cI, 32768, .inl ga))]) [0, 1] (by decide) rfl
    exact W.zret (v := (bI (f_Mo_isJump ((f_Mo_take ga a1).1) ((f_Mo_take ga a1).2.1) ((f_Mo_take ga a1).2.2.1) ((f_Mo_take ga a1).2.2.2.1) ((f_Mo_take ga a1).2.2.2.2)))) hx hb hr (bI_nar _) (fun t ht hW => ⟨⟨(bI (f_Mo_isJump ((f_Mo_take ga a1).1) ((f_Mo_take ga a1).2.1) ((f_Mo_take ga a1).2.2.1) ((f_Mo_take ga a1).2.2.2.1) ((f_Mo_take ga a1).2.2.2.2))), (((f_Mo_take ga a1).1), ((f_Mo_take ga a1).2.1), ((f_Mo_take ga a1).2.2.1), ((f_Mo_take ga a1).2.2.2.1), ((f_Mo_take ga a1).2.2.2.2)), rfl, ⟨(by unfold f_Mo_isInstruction; rw [if_neg c1, if_neg c8, if_neg c12, if_neg c19, if_pos c20]; try rfl), (by unfold f_Mo_isInstruction; rw [if_neg c1, if_neg c8, if_neg c12, if_neg c19, if_pos c20]; try rfl)⟩, by rw [ht]; exact hP9, hD9⟩, hS.F ht⟩) hS.2.2 dMo_isInstruction_61
  by_cases c21 : (f_Mo_kind ((f_Mo_take ga a1).1)) = (6 : Int32)
  · skip
    refine lv_tableIn (tgt := 57) (off := 47) hx hb dMo_isInstruction_10 (by rw [c21]; decide) (by rw [c21]; decide) (by rw [c21]; rfl) (by decide) ?_
    refine lv_aload_n hx hb dMo_isInstruction_57 rfl (lv_at hl 0 rfl) ?_
    have hPc := hP.sub (ws' := [(m0, .inr (5, [.int vth, .ref qt, .int vtp, .ref qp, .int vpl, .ref qr, .ref qm, .int vpc, .int vst, .int ((f_Mo_take ga a1).1), .int ((f_Mo_take ga a1).2.1), .int ((f_Mo_take ga a1).2.2.1), .int ((f_Mo_take ga a1).2.2.2.1), .int ((f_Mo_take ga a1).2.2.2.2), .int vn]))]) [0] rfl
    refine va_calli (va_runV (As := []) (rest := []) ⟨hx, hb, hml, hown, hT⟩ (c_Mo_isJump l G cB cL cI H m0 vth qt vtp qp vpl qr qm vpc vst ((f_Mo_take ga a1).1) ((f_Mo_take ga a1).2.1) ((f_Mo_take ga a1).2.2.1) ((f_Mo_take ga a1).2.2.2.1) ((f_Mo_take ga a1).2.2.2.2) vn hPc ) (cwV 0 hT (gB_V mw_663 mw_665 ms_9 mw_6 mw_666) rfl rfl rfl (by decide +kernel) ⟨Nat.le_of_ble_eq_true rfl, Nat.le_of_ble_eq_true rfl⟩) ⟨fun a U g mk q => ⟨q.1, q.2.1, va_K.moved (u := U) (U := U.calling g mk a) (Vm.Alike.refl U.vm) q.2.2⟩, va_recv hK hPc (ci := 5) (q0 := 0) rfl rfl, fun U hU hW => ⟨rfl, hU, va_K.moved hW.alike hK⟩⟩ rfl rfl hl.1 rfl (lv_room (Nat.le_of_ble_eq_true rfl)) dMo_isInstruction_58 ⟨Nat.zero_le _, Nat.zero_le _⟩) hS (fun _ _ h => h.elim) (fun _ h => h.elim) (fun r u t H1 locs ht hvm hw hB hz8 hk8 hS => ?_)
    obtain rfl : H = H1 := hB.symm.trans ht
    subst hw
    have hP9 := hP.sub (ws' := [(m0, .inr (5, [.int vth, .ref qt, .int vtp, .ref qp, .int vpl, .ref qr, .ref qm, .int vpc, .int vst, .int ((f_Mo_take ga a1).1), .int ((f_Mo_take ga a1).2.1), .int ((f_Mo_take ga a1).2.2.1), .int ((f_Mo_take ga a1).2.2.2.1), .int ((f_Mo_take ga a1).2.2.2.2), .int vn])), (qa, .inl (cI, 32768, .inl ga))]) [0, 1] rfl
    have hD9 := hD.sub (ws' := [(m0, .inr (5, [.int vth, .ref qt, .int vtp, .ref qp, .int vpl, .ref qr, .ref qm, .int vpc, .int vst, .int ((f_Mo_take ga a1).1), .int ((f_Mo_take ga a1).2.1), .int ((f_Mo_take ga a1).2.2.1), .int ((f_Mo_take ga a1).2.2.2.1), .int ((f_Mo_take ga a1).2.2.2.2), .int vn])), (qa, .inl (cI, 32768, .inl ga))]) [0, 1] (by decide) rfl
    exact W.zret (v := (bI (f_Mo_isJump ((f_Mo_take ga a1).1) ((f_Mo_take ga a1).2.1) ((f_Mo_take ga a1).2.2.1) ((f_Mo_take ga a1).2.2.2.1) ((f_Mo_take ga a1).2.2.2.2)))) hx hb hr (bI_nar _) (fun t ht hW => ⟨⟨(bI (f_Mo_isJump ((f_Mo_take ga a1).1) ((f_Mo_take ga a1).2.1) ((f_Mo_take ga a1).2.2.1) ((f_Mo_take ga a1).2.2.2.1) ((f_Mo_take ga a1).2.2.2.2))), (((f_Mo_take ga a1).1), ((f_Mo_take ga a1).2.1), ((f_Mo_take ga a1).2.2.1), ((f_Mo_take ga a1).2.2.2.1), ((f_Mo_take ga a1).2.2.2.2)), rfl, ⟨(by unfold f_Mo_isInstruction; rw [if_neg c1, if_neg c8, if_neg c12, if_neg c19, if_neg c20, if_pos c21]; try rfl), (by unfold f_Mo_isInstruction; rw [if_neg c1, if_neg c8, if_neg c12, if_neg c19, if_neg c20, if_pos c21]; try rfl)⟩, by rw [ht]; exact hP9, hD9⟩, hS.F ht⟩) hS.2.2 dMo_isInstruction_61
  by_cases c22 : (f_Mo_kind ((f_Mo_take ga a1).1)) = (7 : Int32)
  · skip
    refine lv_tableIn (tgt := 52) (off := 42) hx hb dMo_isInstruction_10 (by rw [c22]; decide) (by rw [c22]; decide) (by rw [c22]; rfl) (by decide) ?_
    refine lv_aload_n hx hb dMo_isInstruction_52 rfl (lv_at hl 0 rfl) ?_
    have hPc := hP.sub (ws' := [(m0, .inr (5, [.int vth, .ref qt, .int vtp, .ref qp, .int vpl, .ref qr, .ref qm, .int vpc, .int vst, .int ((f_Mo_take ga a1).1), .int ((f_Mo_take ga a1).2.1), .int ((f_Mo_take ga a1).2.2.1), .int ((f_Mo_take ga a1).2.2.2.1), .int ((f_Mo_take ga a1).2.2.2.2), .int vn]))]) [0] rfl
    refine va_calli (va_runV (As := []) (rest := []) ⟨hx, hb, hml, hown, hT⟩ (c_Mo_isArithmetic l G cB cL cI H m0 vth qt vtp qp vpl qr qm vpc vst ((f_Mo_take ga a1).1) ((f_Mo_take ga a1).2.1) ((f_Mo_take ga a1).2.2.1) ((f_Mo_take ga a1).2.2.2.1) ((f_Mo_take ga a1).2.2.2.2) vn hPc ) (cwV 0 hT (gB_V mw_647 mw_649 ms_5 mw_6 mw_650) rfl rfl rfl (by decide +kernel) ⟨Nat.le_of_ble_eq_true rfl, Nat.le_of_ble_eq_true rfl⟩) ⟨fun a U g mk q => ⟨q.1, q.2.1, va_K.moved (u := U) (U := U.calling g mk a) (Vm.Alike.refl U.vm) q.2.2⟩, va_recv hK hPc (ci := 5) (q0 := 0) rfl rfl, fun U hU hW => ⟨rfl, hU, va_K.moved hW.alike hK⟩⟩ rfl rfl hl.1 rfl (lv_room (Nat.le_of_ble_eq_true rfl)) dMo_isInstruction_53 ⟨Nat.zero_le _, Nat.zero_le _⟩) hS (fun _ _ h => h.elim) (fun _ h => h.elim) (fun r u t H1 locs ht hvm hw hB hz8 hk8 hS => ?_)
    obtain rfl : H = H1 := hB.symm.trans ht
    subst hw
    have hP9 := hP.sub (ws' := [(m0, .inr (5, [.int vth, .ref qt, .int vtp, .ref qp, .int vpl, .ref qr, .ref qm, .int vpc, .int vst, .int ((f_Mo_take ga a1).1), .int ((f_Mo_take ga a1).2.1), .int ((f_Mo_take ga a1).2.2.1), .int ((f_Mo_take ga a1).2.2.2.1), .int ((f_Mo_take ga a1).2.2.2.2), .int vn])), (qa, .inl (cI, 32768, .inl ga))]) [0, 1] rfl
    have hD9 := hD.sub (ws' := [(m0, .inr (5, [.int vth, .ref qt, .int vtp, .ref qp, .int vpl, .ref qr, .ref qm, .int vpc, .int vst, .int ((f_Mo_take ga a1).1), .int ((f_Mo_take ga a1).2.1), .int ((f_Mo_take ga a1).2.2.1), .int ((f_Mo_take ga a1).2.2.2.1), .int ((f_Mo_take ga a1).2.2.2.2), .int vn])), (qa, .inl (cI, 32768, .inl ga))]) [0, 1] (by decide) rfl
    exact W.zret (v := (bI (f_Mo_isArithmetic ((f_Mo_take ga a1).1) ((f_Mo_take ga a1).2.1) ((f_Mo_take ga a1).2.2.1) ((f_Mo_take ga a1).2.2.2.1) ((f_Mo_take ga a1).2.2.2.2)))) hx hb hr (bI_nar _) (fun t ht hW => ⟨⟨(bI (f_Mo_isArithmetic ((f_Mo_take ga a1).1) ((f_Mo_take ga a1).2.1) ((f_Mo_take ga a1).2.2.1) ((f_Mo_take ga a1).2.2.2.1) ((f_Mo_take ga a1).2.2.2.2))), (((f_Mo_take ga a1).1), ((f_Mo_take ga a1).2.1), ((f_Mo_take ga a1).2.2.1), ((f_Mo_take ga a1).2.2.2.1), ((f_Mo_take ga a1).2.2.2.2)), rfl, ⟨(by unfold f_Mo_isInstruction; rw [if_neg c1, if_neg c8, if_neg c12, if_neg c19, if_neg c20, if_neg c21, if_pos c22]; try rfl), (by unfold f_Mo_isInstruction; rw [if_neg c1, if_neg c8, if_neg c12, if_neg c19, if_neg c20, if_neg c21, if_pos c22]; try rfl)⟩, by rw [ht]; exact hP9, hD9⟩, hS.F ht⟩) hS.2.2 dMo_isInstruction_56
  refine lv_tableOut (tgt := 211) hx hb dMo_isInstruction_10 (by have h0 := lv_neT c1 (a := 1) (by decide); have h1 := lv_neT c8 (a := 2) (by decide); have h2 := lv_neT c12 (a := 3) (by decide); have h3 := lv_neT c19 (a := 4) (by decide); have h4 := lv_neT c20 (a := 5) (by decide); have h5 := lv_neT c21 (a := 6) (by decide); have h6 := lv_neT c22 (a := 7) (by decide); omega) (by decide) ?_
  refine lv_aload_n hx hb dMo_isInstruction_211 rfl (lv_at hl 0 rfl) ?_
  have hPc := hP.sub (ws' := [(m0, .inr (5, [.int vth, .ref qt, .int vtp, .ref qp, .int vpl, .ref qr, .ref qm, .int vpc, .int vst, .int ((f_Mo_take ga a1).1), .int ((f_Mo_take ga a1).2.1), .int ((f_Mo_take ga a1).2.2.1), .int ((f_Mo_take ga a1).2.2.2.1), .int ((f_Mo_take ga a1).2.2.2.2), .int vn]))]) [0] rfl
  refine va_calli (va_runV (As := []) (rest := []) ⟨hx, hb, hml, hown, hT⟩ (c_Mo_isWide l G cB cL cI H m0 vth qt vtp qp vpl qr qm vpc vst ((f_Mo_take ga a1).1) ((f_Mo_take ga a1).2.1) ((f_Mo_take ga a1).2.2.1) ((f_Mo_take ga a1).2.2.2.1) ((f_Mo_take ga a1).2.2.2.2) vn hPc ) (cwV 0 hT (gB_V mw_679 mw_681 ms_13 mw_6 mw_682) rfl rfl rfl (by decide +kernel) ⟨Nat.le_of_ble_eq_true rfl, Nat.le_of_ble_eq_true rfl⟩) ⟨fun a U g mk q => ⟨q.1, q.2.1, va_K.moved (u := U) (U := U.calling g mk a) (Vm.Alike.refl U.vm) q.2.2⟩, va_recv hK hPc (ci := 5) (q0 := 0) rfl rfl, fun U hU hW => ⟨rfl, hU, va_K.moved hW.alike hK⟩⟩ rfl rfl hl.1 rfl (lv_room (Nat.le_of_ble_eq_true rfl)) dMo_isInstruction_212 ⟨Nat.zero_le _, Nat.zero_le _⟩) hS (fun _ _ h => h.elim) (fun _ h => h.elim) (fun r u t H1 locs ht hvm hw hB hz8 hk8 hS => ?_)
  obtain rfl : H = H1 := hB.symm.trans ht
  subst hw
  refine lv_if_eq (tgt := 253) hx hb dMo_isInstruction_215 (by decide) (fun c23 => ?_) (fun c23 => ?_)
  · have c23 := bI_z c23
    refine lv_iconst (v := (0 : Int32)) hx hb dMo_isInstruction_253 (by decide) ?_
    refine lv_istore (lv' := [(4, .int (0 : Int32)), (0, .ref m0), (1, .ref qa), (2, .int a1), (3, .int a2)]) hx hb dMo_isInstruction_254 hl (by decide) rfl (fun ls hl => ?_)
    refine lv_iload hx hb dMo_isInstruction_256 (lv_at hl 0 rfl) ?_
    refine lv_if_eq (tgt := 280) hx hb dMo_isInstruction_258 (by decide) (fun _ => ?_) (fun c24 => absurd c24 (by decide))
    refine lv_iconst (v := (0 : Int32)) hx hb dMo_isInstruction_280 (by decide) ?_
    refine lv_istore (lv' := [(5, .int (0 : Int32)), (4, .int (0 : Int32)), (0, .ref m0), (1, .ref qa), (2, .int a1), (3, .int a2)]) hx hb dMo_isInstruction_281 hl (by decide) rfl (fun ls hl => ?_)
    refine lv_iload hx hb dMo_isInstruction_283 (lv_at hl 0 rfl) ?_
    refine lv_if_eq (tgt := 321) hx hb dMo_isInstruction_285 (by decide) (fun _ => ?_) (fun c25 => absurd c25 (by decide))
    refine lv_iconst (v := (0 : Int32)) hx hb dMo_isInstruction_321 (by decide) ?_
    have hP9 := hP.sub (ws' := [(m0, .inr (5, [.int vth, .ref qt, .int vtp, .ref qp, .int vpl, .ref qr, .ref qm, .int vpc, .int vst, .int ((f_Mo_take ga a1).1), .int ((f_Mo_take ga a1).2.1), .int ((f_Mo_take ga a1).2.2.1), .int ((f_Mo_take ga a1).2.2.2.1), .int ((f_Mo_take ga a1).2.2.2.2), .int vn])), (qa, .inl (cI, 32768, .inl ga))]) [0, 1] rfl
    have hD9 := hD.sub (ws' := [(m0, .inr (5, [.int vth, .ref qt, .int vtp, .ref qp, .int vpl, .ref qr, .ref qm, .int vpc, .int vst, .int ((f_Mo_take ga a1).1), .int ((f_Mo_take ga a1).2.1), .int ((f_Mo_take ga a1).2.2.1), .int ((f_Mo_take ga a1).2.2.2.1), .int ((f_Mo_take ga a1).2.2.2.2), .int vn])), (qa, .inl (cI, 32768, .inl ga))]) [0, 1] (by decide) rfl
    exact W.zret (v := (0 : Int32)) hx hb hr rfl (fun t ht hW => ⟨⟨(0 : Int32), (((f_Mo_take ga a1).1), ((f_Mo_take ga a1).2.1), ((f_Mo_take ga a1).2.2.1), ((f_Mo_take ga a1).2.2.2.1), ((f_Mo_take ga a1).2.2.2.2)), rfl, ⟨(by unfold f_Mo_isInstruction; rw [if_neg c1, if_neg c8, if_neg c12, if_neg c19, if_neg c20, if_neg c21, if_neg c22, if_neg c23]; try rfl), (by unfold f_Mo_isInstruction; rw [if_neg c1, if_neg c8, if_neg c12, if_neg c19, if_neg c20, if_neg c21, if_neg c22, if_neg c23]; try rfl)⟩, by rw [ht]; exact hP9, hD9⟩, hS.F ht⟩) hS.2.2 dMo_isInstruction_322
  · have c23 := bI_n c23
    refine lv_aload_n hx hb dMo_isInstruction_218 rfl (lv_at hl 0 rfl) ?_
    refine va_get (D := G) (ci := 5) (v := .int ((f_Mo_take ga a1).2.1)) (C := RMo) (T := TMo) (N := 15) hx hb hT inMo hown hK hP 0 rfl rfl 10 (by decide) (hT _ mw_575) (fun _ h9 => h9) rfl dMo_isInstruction_219 ?_
    refine lv_bipush (v := (10 : Int32)) hx hb dMo_isInstruction_222 (by decide) ?_
    refine lv_icmp_ge (tgt := 253) hx hb dMo_isInstruction_224 (by decide) (fun c26 => ?_) (fun c26 => ?_)
    · skip
      refine lv_iconst (v := (0 : Int32)) hx hb dMo_isInstruction_253 (by decide) ?_
      refine lv_istore (lv' := [(4, .int (0 : Int32)), (0, .ref m0), (1, .ref qa), (2, .int a1), (3, .int a2)]) hx hb dMo_isInstruction_254 hl (by decide) rfl (fun ls hl => ?_)
      refine lv_iload hx hb dMo_isInstruction_256 (lv_at hl 0 rfl) ?_
      refine lv_if_eq (tgt := 280) hx hb dMo_isInstruction_258 (by decide) (fun _ => ?_) (fun c27 => absurd c27 (by decide))
      refine lv_iconst (v := (0 : Int32)) hx hb dMo_isInstruction_280 (by decide) ?_
      refine lv_istore (lv' := [(5, .int (0 : Int32)), (4, .int (0 : Int32)), (0, .ref m0), (1, .ref qa), (2, .int a1), (3, .int a2)]) hx hb dMo_isInstruction_281 hl (by decide) rfl (fun ls hl => ?_)
      refine lv_iload hx hb dMo_isInstruction_283 (lv_at hl 0 rfl) ?_
      refine lv_if_eq (tgt := 321) hx hb dMo_isInstruction_285 (by decide) (fun _ => ?_) (fun c28 => absurd c28 (by decide))
      refine lv_iconst (v := (0 : Int32)) hx hb dMo_isInstruction_321 (by decide) ?_
      have hP9 := hP.sub (ws' := [(m0, .inr (5, [.int vth, .ref qt, .int vtp, .ref qp, .int vpl, .ref qr, .ref qm, .int vpc, .int vst, .int ((f_Mo_take ga a1).1), .int ((f_Mo_take ga a1).2.1), .int ((f_Mo_take ga a1).2.2.1), .int ((f_Mo_take ga a1).2.2.2.1), .int ((f_Mo_take ga a1).2.2.2.2), .int vn])), (qa, .inl (cI, 32768, .inl ga))]) [0, 1] rfl
      have hD9 := hD.sub (ws' := [(m0, .inr (5, [.int vth, .ref qt, .int vtp, .ref qp, .int vpl, .ref qr, .ref qm, .int vpc, .int vst, .int ((f_Mo_take ga a1).1), .int ((f_Mo_take ga a1).2.1), .int ((f_Mo_take ga a1).2.2.1), .int ((f_Mo_take ga a1).2.2.2.1), .int ((f_Mo_take ga a1).2.2.2.2), .int vn])), (qa, .inl (cI, 32768, .inl ga))]) [0, 1] (by decide) rfl
      exact W.zret (v := (0 : Int32)) hx hb hr rfl (fun t ht hW => ⟨⟨(0 : Int32), (((f_Mo_take ga a1).1), ((f_Mo_take ga a1).2.1), ((f_Mo_take ga a1).2.2.1), ((f_Mo_take ga a1).2.2.2.1), ((f_Mo_take ga a1).2.2.2.2)), rfl, ⟨(by unfold f_Mo_isInstruction; rw [if_neg c1, if_neg c8, if_neg c12, if_neg c19, if_neg c20, if_neg c21, if_neg c22, if_pos c23, if_pos c26]; try rfl), (by unfold f_Mo_isInstruction; rw [if_neg c1, if_neg c8, if_neg c12, if_neg c19, if_neg c20, if_neg c21, if_neg c22, if_pos c23, if_pos c26]; try rfl)⟩, by rw [ht]; exact hP9, hD9⟩, hS.F ht⟩) hS.2.2 dMo_isInstruction_322
    · skip
      refine lv_aload_n hx hb dMo_isInstruction_227 rfl (lv_at hl 0 rfl) ?_
      refine va_get (D := G) (ci := 5) (v := .int ((f_Mo_take ga a1).2.2.1)) (C := RMo) (T := TMo) (N := 15) hx hb hT inMo hown hK hP 0 rfl rfl 11 (by decide) (hT _ mw_576) (fun _ h9 => h9) rfl dMo_isInstruction_228 ?_
      refine lv_iconst (v := (2 : Int32)) hx hb dMo_isInstruction_231 (by decide) ?_
      refine lv_icmp_ge (tgt := 253) hx hb dMo_isInstruction_232 (by decide) (fun c29 => ?_) (fun c29 => ?_)
      · skip
        refine lv_iconst (v := (0 : Int32)) hx hb dMo_isInstruction_253 (by decide) ?_
        refine lv_istore (lv' := [(4, .int (0 : Int32)), (0, .ref m0), (1, .ref qa), (2, .int a1), (3, .int a2)]) hx hb dMo_isInstruction_254 hl (by decide) rfl (fun ls hl => ?_)
        refine lv_iload hx hb dMo_isInstruction_256 (lv_at hl 0 rfl) ?_
        refine lv_if_eq (tgt := 280) hx hb dMo_isInstruction_258 (by decide) (fun _ => ?_) (fun c30 => absurd c30 (by decide))
        refine lv_iconst (v := (0 : Int32)) hx hb dMo_isInstruction_280 (by decide) ?_
        refine lv_istore (lv' := [(5, .int (0 : Int32)), (4, .int (0 : Int32)), (0, .ref m0), (1, .ref qa), (2, .int a1), (3, .int a2)]) hx hb dMo_isInstruction_281 hl (by decide) rfl (fun ls hl => ?_)
        refine lv_iload hx hb dMo_isInstruction_283 (lv_at hl 0 rfl) ?_
        refine lv_if_eq (tgt := 321) hx hb dMo_isInstruction_285 (by decide) (fun _ => ?_) (fun c31 => absurd c31 (by decide))
        refine lv_iconst (v := (0 : Int32)) hx hb dMo_isInstruction_321 (by decide) ?_
        have hP9 := hP.sub (ws' := [(m0, .inr (5, [.int vth, .ref qt, .int vtp, .ref qp, .int vpl, .ref qr, .ref qm, .int vpc, .int vst, .int ((f_Mo_take ga a1).1), .int ((f_Mo_take ga a1).2.1), .int ((f_Mo_take ga a1).2.2.1), .int ((f_Mo_take ga a1).2.2.2.1), .int ((f_Mo_take ga a1).2.2.2.2), .int vn])), (qa, .inl (cI, 32768, .inl ga))]) [0, 1] rfl
        have hD9 := hD.sub (ws' := [(m0, .inr (5, [.int vth, .ref qt, .int vtp, .ref qp, .int vpl, .ref qr, .ref qm, .int vpc, .int vst, .int ((f_Mo_take ga a1).1), .int ((f_Mo_take ga a1).2.1), .int ((f_Mo_take ga a1).2.2.1), .int ((f_Mo_take ga a1).2.2.2.1), .int ((f_Mo_take ga a1).2.2.2.2), .int vn])), (qa, .inl (cI, 32768, .inl ga))]) [0, 1] (by decide) rfl
        exact W.zret (v := (0 : Int32)) hx hb hr rfl (fun t ht hW => ⟨⟨(0 : Int32), (((f_Mo_take ga a1).1), ((f_Mo_take ga a1).2.1), ((f_Mo_take ga a1).2.2.1), ((f_Mo_take ga a1).2.2.2.1), ((f_Mo_take ga a1).2.2.2.2)), rfl, ⟨(by unfold f_Mo_isInstruction; rw [if_neg c1, if_neg c8, if_neg c12, if_neg c19, if_neg c20, if_neg c21, if_neg c22, if_pos c23, if_neg c26, if_pos c29]; try rfl), (by unfold f_Mo_isInstruction; rw [if_neg c1, if_neg c8, if_neg c12, if_neg c19, if_neg c20, if_neg c21, if_neg c22, if_pos c23, if_neg c26, if_pos c29]; try rfl)⟩, by rw [ht]; exact hP9, hD9⟩, hS.F ht⟩) hS.2.2 dMo_isInstruction_322
      · skip
        refine lv_aload_n hx hb dMo_isInstruction_235 rfl (lv_at hl 0 rfl) ?_
        refine va_get (D := G) (ci := 5) (v := .int ((f_Mo_take ga a1).2.2.2.1)) (C := RMo) (T := TMo) (N := 15) hx hb hT inMo hown hK hP 0 rfl rfl 12 (by decide) (hT _ mw_577) (fun _ h9 => h9) rfl dMo_isInstruction_236 ?_
        refine lv_if_ne (tgt := 253) hx hb dMo_isInstruction_239 (by decide) (fun c32 => ?_) (fun c32 => ?_)
        · skip
          refine lv_iconst (v := (0 : Int32)) hx hb dMo_isInstruction_253 (by decide) ?_
          refine lv_istore (lv' := [(4, .int (0 : Int32)), (0, .ref m0), (1, .ref qa), (2, .int a1), (3, .int a2)]) hx hb dMo_isInstruction_254 hl (by decide) rfl (fun ls hl => ?_)
          refine lv_iload hx hb dMo_isInstruction_256 (lv_at hl 0 rfl) ?_
          refine lv_if_eq (tgt := 280) hx hb dMo_isInstruction_258 (by decide) (fun _ => ?_) (fun c33 => absurd c33 (by decide))
          refine lv_iconst (v := (0 : Int32)) hx hb dMo_isInstruction_280 (by decide) ?_
          refine lv_istore (lv' := [(5, .int (0 : Int32)), (4, .int (0 : Int32)), (0, .ref m0), (1, .ref qa), (2, .int a1), (3, .int a2)]) hx hb dMo_isInstruction_281 hl (by decide) rfl (fun ls hl => ?_)
          refine lv_iload hx hb dMo_isInstruction_283 (lv_at hl 0 rfl) ?_
          refine lv_if_eq (tgt := 321) hx hb dMo_isInstruction_285 (by decide) (fun _ => ?_) (fun c34 => absurd c34 (by decide))
          refine lv_iconst (v := (0 : Int32)) hx hb dMo_isInstruction_321 (by decide) ?_
          have hP9 := hP.sub (ws' := [(m0, .inr (5, [.int vth, .ref qt, .int vtp, .ref qp, .int vpl, .ref qr, .ref qm, .int vpc, .int vst, .int ((f_Mo_take ga a1).1), .int ((f_Mo_take ga a1).2.1), .int ((f_Mo_take ga a1).2.2.1), .int ((f_Mo_take ga a1).2.2.2.1), .int ((f_Mo_take ga a1).2.2.2.2), .int vn])), (qa, .inl (cI, 32768, .inl ga))]) [0, 1] rfl
          have hD9 := hD.sub (ws' := [(m0, .inr (5, [.int vth, .ref qt, .int vtp, .ref qp, .int vpl, .ref qr, .ref qm, .int vpc, .int vst, .int ((f_Mo_take ga a1).1), .int ((f_Mo_take ga a1).2.1), .int ((f_Mo_take ga a1).2.2.1), .int ((f_Mo_take ga a1).2.2.2.1), .int ((f_Mo_take ga a1).2.2.2.2), .int vn])), (qa, .inl (cI, 32768, .inl ga))]) [0, 1] (by decide) rfl
          exact W.zret (v := (0 : Int32)) hx hb hr rfl (fun t ht hW => ⟨⟨(0 : Int32), (((f_Mo_take ga a1).1), ((f_Mo_take ga a1).2.1), ((f_Mo_take ga a1).2.2.1), ((f_Mo_take ga a1).2.2.2.1), ((f_Mo_take ga a1).2.2.2.2)), rfl, ⟨(by unfold f_Mo_isInstruction; rw [if_neg c1, if_neg c8, if_neg c12, if_neg c19, if_neg c20, if_neg c21, if_neg c22, if_pos c23, if_neg c26, if_neg c29, if_neg c32]; try rfl), (by unfold f_Mo_isInstruction; rw [if_neg c1, if_neg c8, if_neg c12, if_neg c19, if_neg c20, if_neg c21, if_neg c22, if_pos c23, if_neg c26, if_neg c29, if_neg c32]; try rfl)⟩, by rw [ht]; exact hP9, hD9⟩, hS.F ht⟩) hS.2.2 dMo_isInstruction_322
        · skip
          refine lv_iload_n hx hb dMo_isInstruction_242 rfl (lv_at hl 2 rfl) ?_
          refine lv_iconst (v := (1 : Int32)) hx hb dMo_isInstruction_243 (by decide) ?_
          refine lv_iadd hx hb dMo_isInstruction_244 ?_
          refine lv_iload_n hx hb dMo_isInstruction_245 rfl (lv_at hl 3 rfl) ?_
          refine lv_icmp_ge (tgt := 253) hx hb dMo_isInstruction_246 (by decide) (fun c35 => ?_) (fun c35 => ?_)
          · skip
            refine lv_iconst (v := (0 : Int32)) hx hb dMo_isInstruction_253 (by decide) ?_
            refine lv_istore (lv' := [(4, .int (0 : Int32)), (0, .ref m0), (1, .ref qa), (2, .int a1), (3, .int a2)]) hx hb dMo_isInstruction_254 hl (by decide) rfl (fun ls hl => ?_)
            refine lv_iload hx hb dMo_isInstruction_256 (lv_at hl 0 rfl) ?_
            refine lv_if_eq (tgt := 280) hx hb dMo_isInstruction_258 (by decide) (fun _ => ?_) (fun c36 => absurd c36 (by decide))
            refine lv_iconst (v := (0 : Int32)) hx hb dMo_isInstruction_280 (by decide) ?_
            refine lv_istore (lv' := [(5, .int (0 : Int32)), (4, .int (0 : Int32)), (0, .ref m0), (1, .ref qa), (2, .int a1), (3, .int a2)]) hx hb dMo_isInstruction_281 hl (by decide) rfl (fun ls hl => ?_)
            refine lv_iload hx hb dMo_isInstruction_283 (lv_at hl 0 rfl) ?_
            refine lv_if_eq (tgt := 321) hx hb dMo_isInstruction_285 (by decide) (fun _ => ?_) (fun c37 => absurd c37 (by decide))
            refine lv_iconst (v := (0 : Int32)) hx hb dMo_isInstruction_321 (by decide) ?_
            have hP9 := hP.sub (ws' := [(m0, .inr (5, [.int vth, .ref qt, .int vtp, .ref qp, .int vpl, .ref qr, .ref qm, .int vpc, .int vst, .int ((f_Mo_take ga a1).1), .int ((f_Mo_take ga a1).2.1), .int ((f_Mo_take ga a1).2.2.1), .int ((f_Mo_take ga a1).2.2.2.1), .int ((f_Mo_take ga a1).2.2.2.2), .int vn])), (qa, .inl (cI, 32768, .inl ga))]) [0, 1] rfl
            have hD9 := hD.sub (ws' := [(m0, .inr (5, [.int vth, .ref qt, .int vtp, .ref qp, .int vpl, .ref qr, .ref qm, .int vpc, .int vst, .int ((f_Mo_take ga a1).1), .int ((f_Mo_take ga a1).2.1), .int ((f_Mo_take ga a1).2.2.1), .int ((f_Mo_take ga a1).2.2.2.1), .int ((f_Mo_take ga a1).2.2.2.2), .int vn])), (qa, .inl (cI, 32768, .inl ga))]) [0, 1] (by decide) rfl
            exact W.zret (v := (0 : Int32)) hx hb hr rfl (fun t ht hW => ⟨⟨(0 : Int32), (((f_Mo_take ga a1).1), ((f_Mo_take ga a1).2.1), ((f_Mo_take ga a1).2.2.1), ((f_Mo_take ga a1).2.2.2.1), ((f_Mo_take ga a1).2.2.2.2)), rfl, ⟨(by unfold f_Mo_isInstruction; rw [if_neg c1, if_neg c8, if_neg c12, if_neg c19, if_neg c20, if_neg c21, if_neg c22, if_pos c23, if_neg c26, if_neg c29, if_pos c32, if_pos c35]; try rfl), (by unfold f_Mo_isInstruction; rw [if_neg c1, if_neg c8, if_neg c12, if_neg c19, if_neg c20, if_neg c21, if_neg c22, if_pos c23, if_neg c26, if_neg c29, if_pos c32, if_pos c35]; try rfl)⟩, by rw [ht]; exact hP9, hD9⟩, hS.F ht⟩) hS.2.2 dMo_isInstruction_322
          · skip
            refine lv_iconst (v := (1 : Int32)) hx hb dMo_isInstruction_249 (by decide) ?_
            refine lv_goto (tgt := 254) hx hb dMo_isInstruction_250 (by decide) ?_
            refine lv_istore (lv' := [(4, .int (1 : Int32)), (0, .ref m0), (1, .ref qa), (2, .int a1), (3, .int a2)]) hx hb dMo_isInstruction_254 hl (by decide) rfl (fun ls hl => ?_)
            refine lv_iload hx hb dMo_isInstruction_256 (lv_at hl 0 rfl) ?_
            refine lv_if_eq (tgt := 280) hx hb dMo_isInstruction_258 (by decide) (fun c38 => absurd c38 (by decide)) (fun _ => ?_)
            refine lv_aload_n hx hb dMo_isInstruction_261 rfl (lv_at hl 2 rfl) ?_
            refine lv_bipush (v := (8 : Int32)) hx hb dMo_isInstruction_262 (by decide) ?_
            refine lv_iload_n hx hb dMo_isInstruction_264 rfl (lv_at hl 3 rfl) ?_
            refine lv_imul hx hb dMo_isInstruction_265 ?_
            refine lv_bipush (v := (8 : Int32)) hx hb dMo_isInstruction_266 (by decide) ?_
            refine lv_iadd hx hb dMo_isInstruction_268 ?_
            refine lv_iconst (v := (4 : Int32)) hx hb dMo_isInstruction_269 (by decide) ?_
            have hPc := hP.sub (ws' := [(qa, .inl (cI, 32768, .inl ga))]) [1] rfl
            refine va_calli (va_runS (As := [.ref qa, .int (((8 : Int32) * a1) + (8 : Int32)), .int (4 : Int32)]) (rest := []) ⟨hx, hb, hml, hown, hT⟩ (c_Mo_number l G cB cL cI H qa ga (((8 : Int32) * a1) + (8 : Int32)) (4 : Int32) hPc (is_n8 hp0 hp1 ha c35).1 (by decide) (is_n8 hp0 hp1 ha c35).2) (cwS 3 hT (gB_S mw_640 mw_641 mw_6 mw_642) rfl rfl rfl (by decide +kernel) ⟨Nat.le_of_ble_eq_true rfl, Nat.le_of_ble_eq_true rfl⟩) ⟨fun a U g mk q => ⟨q.1, q.2.1, va_K.moved (u := U) (U := U.calling g mk a) (Vm.Alike.refl U.vm) q.2.2⟩, fun U hU hW => ⟨rfl, hU, va_K.moved hW.alike hK⟩⟩ rfl rfl hl.1 rfl (lv_room (Nat.le_of_ble_eq_true rfl)) dMo_isInstruction_270 ⟨Nat.zero_le _, Nat.zero_le _⟩) hS (fun _ _ h => h.elim) (fun _ h => h.elim) (fun r u t H1 locs ht hvm hw hB hz8 hk8 hS => ?_)
            obtain rfl : H = H1 := hB.symm.trans ht
            subst hw
            refine lv_if_ne (tgt := 280) hx hb dMo_isInstruction_273 (by decide) (fun c39 => ?_) (fun c39 => ?_)
            · skip
              refine lv_iconst (v := (0 : Int32)) hx hb dMo_isInstruction_280 (by decide) ?_
              refine lv_istore (lv' := [(5, .int (0 : Int32)), (4, .int (1 : Int32)), (0, .ref m0), (1, .ref qa), (2, .int a1), (3, .int a2)]) hx hb dMo_isInstruction_281 hl (by decide) rfl (fun ls hl => ?_)
              refine lv_iload hx hb dMo_isInstruction_283 (lv_at hl 0 rfl) ?_
              refine lv_if_eq (tgt := 321) hx hb dMo_isInstruction_285 (by decide) (fun _ => ?_) (fun c40 => absurd c40 (by decide))
              refine lv_iconst (v := (0 : Int32)) hx hb dMo_isInstruction_321 (by decide) ?_
              have hP9 := hP.sub (ws' := [(m0, .inr (5, [.int vth, .ref qt, .int vtp, .ref qp, .int vpl, .ref qr, .ref qm, .int vpc, .int vst, .int ((f_Mo_take ga a1).1), .int ((f_Mo_take ga a1).2.1), .int ((f_Mo_take ga a1).2.2.1), .int ((f_Mo_take ga a1).2.2.2.1), .int ((f_Mo_take ga a1).2.2.2.2), .int vn])), (qa, .inl (cI, 32768, .inl ga))]) [0, 1] rfl
              have hD9 := hD.sub (ws' := [(m0, .inr (5, [.int vth, .ref qt, .int vtp, .ref qp, .int vpl, .ref qr, .ref qm, .int vpc, .int vst, .int ((f_Mo_take ga a1).1), .int ((f_Mo_take ga a1).2.1), .int ((f_Mo_take ga a1).2.2.1), .int ((f_Mo_take ga a1).2.2.2.1), .int ((f_Mo_take ga a1).2.2.2.2), .int vn])), (qa, .inl (cI, 32768, .inl ga))]) [0, 1] (by decide) rfl
              exact W.zret (v := (0 : Int32)) hx hb hr rfl (fun t ht hW => ⟨⟨(0 : Int32), (((f_Mo_take ga a1).1), ((f_Mo_take ga a1).2.1), ((f_Mo_take ga a1).2.2.1), ((f_Mo_take ga a1).2.2.2.1), ((f_Mo_take ga a1).2.2.2.2)), rfl, ⟨(by unfold f_Mo_isInstruction; rw [if_neg c1, if_neg c8, if_neg c12, if_neg c19, if_neg c20, if_neg c21, if_neg c22, if_pos c23, if_neg c26, if_neg c29, if_pos c32, if_neg c35, if_neg c39]; try rfl), (by unfold f_Mo_isInstruction; rw [if_neg c1, if_neg c8, if_neg c12, if_neg c19, if_neg c20, if_neg c21, if_neg c22, if_pos c23, if_neg c26, if_neg c29, if_pos c32, if_neg c35, if_neg c39]; try rfl)⟩, by rw [ht]; exact hP9, hD9⟩, hS.F ht⟩) hS.2.2 dMo_isInstruction_322
            · skip
              refine lv_iconst (v := (1 : Int32)) hx hb dMo_isInstruction_276 (by decide) ?_
              refine lv_goto (tgt := 281) hx hb dMo_isInstruction_277 (by decide) ?_
              refine lv_istore (lv' := [(5, .int (1 : Int32)), (4, .int (1 : Int32)), (0, .ref m0), (1, .ref qa), (2, .int a1), (3, .int a2)]) hx hb dMo_isInstruction_281 hl (by decide) rfl (fun ls hl => ?_)
              refine lv_iload hx hb dMo_isInstruction_283 (lv_at hl 0 rfl) ?_
              refine lv_if_eq (tgt := 321) hx hb dMo_isInstruction_285 (by decide) (fun c41 => absurd c41 (by decide)) (fun _ => ?_)
              refine lv_aload_n hx hb dMo_isInstruction_288 rfl (lv_at hl 2 rfl) ?_
              refine va_get (D := G) (ci := 5) (v := .int ((f_Mo_take ga a1).2.2.1)) (C := RMo) (T := TMo) (N := 15) hx hb hT inMo hown hK hP 0 rfl rfl 11 (by decide) (hT _ mw_576) (fun _ h9 => h9) rfl dMo_isInstruction_289 ?_
              refine lv_if_eq (tgt := 317) hx hb dMo_isInstruction_292 (by decide) (fun c42 => ?_) (fun c42 => ?_)
              · skip
                refine lv_iconst (v := (1 : Int32)) hx hb dMo_isInstruction_317 (by decide) ?_
                refine lv_goto (tgt := 322) hx hb dMo_isInstruction_318 (by decide) ?_
                have hP9 := hP.sub (ws' := [(m0, .inr (5, [.int vth, .ref qt, .int vtp, .ref qp, .int vpl, .ref qr, .ref qm, .int vpc, .int vst, .int ((f_Mo_take ga a1).1), .int ((f_Mo_take ga a1).2.1), .int ((f_Mo_take ga a1).2.2.1), .int ((f_Mo_take ga a1).2.2.2.1), .int ((f_Mo_take ga a1).2.2.2.2), .int vn])), (qa, .inl (cI, 32768, .inl ga))]) [0, 1] rfl
                have hD9 := hD.sub (ws' := [(m0, .inr (5, [.int vth, .ref qt, .int vtp, .ref qp, .int vpl, .ref qr, .ref qm, .int vpc, .int vst, .int ((f_Mo_take ga a1).1), .int ((f_Mo_take ga a1).2.1), .int ((f_Mo_take ga a1).2.2.1), .int ((f_Mo_take ga a1).2.2.2.1), .int ((f_Mo_take ga a1).2.2.2.2), .int vn])), (qa, .inl (cI, 32768, .inl ga))]) [0, 1] (by decide) rfl
                exact W.zret (v := (1 : Int32)) hx hb hr rfl (fun t ht hW => ⟨⟨(1 : Int32), (((f_Mo_take ga a1).1), ((f_Mo_take ga a1).2.1), ((f_Mo_take ga a1).2.2.1), ((f_Mo_take ga a1).2.2.2.1), ((f_Mo_take ga a1).2.2.2.2)), rfl, ⟨(by unfold f_Mo_isInstruction; rw [if_neg c1, if_neg c8, if_neg c12, if_neg c19, if_neg c20, if_neg c21, if_neg c22, if_pos c23, if_neg c26, if_neg c29, if_pos c32, if_neg c35, if_pos c39, if_pos c42]; try rfl), (by unfold f_Mo_isInstruction; rw [if_neg c1, if_neg c8, if_neg c12, if_neg c19, if_neg c20, if_neg c21, if_neg c22, if_pos c23, if_neg c26, if_neg c29, if_pos c32, if_neg c35, if_pos c39, if_pos c42]; try rfl)⟩, by rw [ht]; exact hP9, hD9⟩, hS.F ht⟩) hS.2.2 dMo_isInstruction_322
              · skip
                refine lv_aload_n hx hb dMo_isInstruction_295 rfl (lv_at hl 2 rfl) ?_
                refine va_get (D := G) (ci := 5) (v := .int ((f_Mo_take ga a1).2.2.2.2)) (C := RMo) (T := TMo) (N := 15) hx hb hT inMo hown hK hP 0 rfl rfl 13 (by decide) (hT _ mw_578) (fun _ h9 => h9) rfl dMo_isInstruction_296 ?_
                refine lv_if_lt (tgt := 321) hx hb dMo_isInstruction_299 (by decide) (fun c43 => ?_) (fun c43 => ?_)
                · skip
                  refine lv_iconst (v := (0 : Int32)) hx hb dMo_isInstruction_321 (by decide) ?_
                  have hP9 := hP.sub (ws' := [(m0, .inr (5, [.int vth, .ref qt, .int vtp, .ref qp, .int vpl, .ref qr, .ref qm, .int vpc, .int vst, .int ((f_Mo_take ga a1).1), .int ((f_Mo_take ga a1).2.1), .int ((f_Mo_take ga a1).2.2.1), .int ((f_Mo_take ga a1).2.2.2.1), .int ((f_Mo_take ga a1).2.2.2.2), .int vn])), (qa, .inl (cI, 32768, .inl ga))]) [0, 1] rfl
                  have hD9 := hD.sub (ws' := [(m0, .inr (5, [.int vth, .ref qt, .int vtp, .ref qp, .int vpl, .ref qr, .ref qm, .int vpc, .int vst, .int ((f_Mo_take ga a1).1), .int ((f_Mo_take ga a1).2.1), .int ((f_Mo_take ga a1).2.2.1), .int ((f_Mo_take ga a1).2.2.2.1), .int ((f_Mo_take ga a1).2.2.2.2), .int vn])), (qa, .inl (cI, 32768, .inl ga))]) [0, 1] (by decide) rfl
                  exact W.zret (v := (0 : Int32)) hx hb hr rfl (fun t ht hW => ⟨⟨(0 : Int32), (((f_Mo_take ga a1).1), ((f_Mo_take ga a1).2.1), ((f_Mo_take ga a1).2.2.1), ((f_Mo_take ga a1).2.2.2.1), ((f_Mo_take ga a1).2.2.2.2)), rfl, ⟨(by unfold f_Mo_isInstruction; rw [if_neg c1, if_neg c8, if_neg c12, if_neg c19, if_neg c20, if_neg c21, if_neg c22, if_pos c23, if_neg c26, if_neg c29, if_pos c32, if_neg c35, if_pos c39, if_neg c42, if_pos c43]; try rfl), (by unfold f_Mo_isInstruction; rw [if_neg c1, if_neg c8, if_neg c12, if_neg c19, if_neg c20, if_neg c21, if_neg c22, if_pos c23, if_neg c26, if_neg c29, if_pos c32, if_neg c35, if_pos c39, if_neg c42, if_pos c43]; try rfl)⟩, by rw [ht]; exact hP9, hD9⟩, hS.F ht⟩) hS.2.2 dMo_isInstruction_322
                · skip
                  refine lv_aload_n hx hb dMo_isInstruction_302 rfl (lv_at hl 3 rfl) ?_
                  refine lv_bipush (v := (8 : Int32)) hx hb dMo_isInstruction_303 (by decide) ?_
                  refine lv_iload_n hx hb dMo_isInstruction_305 rfl (lv_at hl 4 rfl) ?_
                  refine lv_imul hx hb dMo_isInstruction_306 ?_
                  refine lv_bipush (v := (12 : Int32)) hx hb dMo_isInstruction_307 (by decide) ?_
                  refine lv_iadd hx hb dMo_isInstruction_309 ?_
                  refine lv_iconst (v := (4 : Int32)) hx hb dMo_isInstruction_310 (by decide) ?_
                  have hPc := hP.sub (ws' := [(qa, .inl (cI, 32768, .inl ga))]) [1] rfl
                  refine va_calli (va_runS (As := [.ref qa, .int (((8 : Int32) * a1) + (12 : Int32)), .int (4 : Int32)]) (rest := []) ⟨hx, hb, hml, hown, hT⟩ (c_Mo_number l G cB cL cI H qa ga (((8 : Int32) * a1) + (12 : Int32)) (4 : Int32) hPc (is_n12 hp0 hp1 ha c35).1 (by decide) (is_n12 hp0 hp1 ha c35).2) (cwS 3 hT (gB_S mw_640 mw_641 mw_6 mw_642) rfl rfl rfl (by decide +kernel) ⟨Nat.le_of_ble_eq_true rfl, Nat.le_of_ble_eq_true rfl⟩) ⟨fun a U g mk q => ⟨q.1, q.2.1, va_K.moved (u := U) (U := U.calling g mk a) (Vm.Alike.refl U.vm) q.2.2⟩, fun U hU hW => ⟨rfl, hU, va_K.moved hW.alike hK⟩⟩ rfl rfl hl.1 rfl (lv_room (Nat.le_of_ble_eq_true rfl)) dMo_isInstruction_311 ⟨Nat.zero_le _, Nat.zero_le _⟩) hS (fun _ _ h => h.elim) (fun _ h => h.elim) (fun r u t H1 locs ht hvm hw hB hz8 hk8 hS => ?_)
                  obtain rfl : H = H1 := hB.symm.trans ht
                  subst hw
                  refine lv_if_ne (tgt := 321) hx hb dMo_isInstruction_314 (by decide) (fun c44 => ?_) (fun c44 => ?_)
                  · skip
                    refine lv_iconst (v := (0 : Int32)) hx hb dMo_isInstruction_321 (by decide) ?_
                    have hP9 := hP.sub (ws' := [(m0, .inr (5, [.int vth, .ref qt, .int vtp, .ref qp, .int vpl, .ref qr, .ref qm, .int vpc, .int vst, .int ((f_Mo_take ga a1).1), .int ((f_Mo_take ga a1).2.1), .int ((f_Mo_take ga a1).2.2.1), .int ((f_Mo_take ga a1).2.2.2.1), .int ((f_Mo_take ga a1).2.2.2.2), .int vn])), (qa, .inl (cI, 32768, .inl ga))]) [0, 1] rfl
                    have hD9 := hD.sub (ws' := [(m0, .inr (5, [.int vth, .ref qt, .int vtp, .ref qp, .int vpl, .ref qr, .ref qm, .int vpc, .int vst, .int ((f_Mo_take ga a1).1), .int ((f_Mo_take ga a1).2.1), .int ((f_Mo_take ga a1).2.2.1), .int ((f_Mo_take ga a1).2.2.2.1), .int ((f_Mo_take ga a1).2.2.2.2), .int vn])), (qa, .inl (cI, 32768, .inl ga))]) [0, 1] (by decide) rfl
                    exact W.zret (v := (0 : Int32)) hx hb hr rfl (fun t ht hW => ⟨⟨(0 : Int32), (((f_Mo_take ga a1).1), ((f_Mo_take ga a1).2.1), ((f_Mo_take ga a1).2.2.1), ((f_Mo_take ga a1).2.2.2.1), ((f_Mo_take ga a1).2.2.2.2)), rfl, ⟨(by unfold f_Mo_isInstruction; rw [if_neg c1, if_neg c8, if_neg c12, if_neg c19, if_neg c20, if_neg c21, if_neg c22, if_pos c23, if_neg c26, if_neg c29, if_pos c32, if_neg c35, if_pos c39, if_neg c42, if_neg c43, if_neg c44]; try rfl), (by unfold f_Mo_isInstruction; rw [if_neg c1, if_neg c8, if_neg c12, if_neg c19, if_neg c20, if_neg c21, if_neg c22, if_pos c23, if_neg c26, if_neg c29, if_pos c32, if_neg c35, if_pos c39, if_neg c42, if_neg c43, if_neg c44]; try rfl)⟩, by rw [ht]; exact hP9, hD9⟩, hS.F ht⟩) hS.2.2 dMo_isInstruction_322
                  · skip
                    refine lv_iconst (v := (1 : Int32)) hx hb dMo_isInstruction_317 (by decide) ?_
                    refine lv_goto (tgt := 322) hx hb dMo_isInstruction_318 (by decide) ?_
                    have hP9 := hP.sub (ws' := [(m0, .inr (5, [.int vth, .ref qt, .int vtp, .ref qp, .int vpl, .ref qr, .ref qm, .int vpc, .int vst, .int ((f_Mo_take ga a1).1), .int ((f_Mo_take ga a1).2.1), .int ((f_Mo_take ga a1).2.2.1), .int ((f_Mo_take ga a1).2.2.2.1), .int ((f_Mo_take ga a1).2.2.2.2), .int vn])), (qa, .inl (cI, 32768, .inl ga))]) [0, 1] rfl
                    have hD9 := hD.sub (ws' := [(m0, .inr (5, [.int vth, .ref qt, .int vtp, .ref qp, .int vpl, .ref qr, .ref qm, .int vpc, .int vst, .int ((f_Mo_take ga a1).1), .int ((f_Mo_take ga a1).2.1), .int ((f_Mo_take ga a1).2.2.1), .int ((f_Mo_take ga a1).2.2.2.1), .int ((f_Mo_take ga a1).2.2.2.2), .int vn])), (qa, .inl (cI, 32768, .inl ga))]) [0, 1] (by decide) rfl
                    exact W.zret (v := (1 : Int32)) hx hb hr rfl (fun t ht hW => ⟨⟨(1 : Int32), (((f_Mo_take ga a1).1), ((f_Mo_take ga a1).2.1), ((f_Mo_take ga a1).2.2.1), ((f_Mo_take ga a1).2.2.2.1), ((f_Mo_take ga a1).2.2.2.2)), rfl, ⟨(by unfold f_Mo_isInstruction; rw [if_neg c1, if_neg c8, if_neg c12, if_neg c19, if_neg c20, if_neg c21, if_neg c22, if_pos c23, if_neg c26, if_neg c29, if_pos c32, if_neg c35, if_pos c39, if_neg c42, if_neg c43, if_pos c44]; try rfl), (by unfold f_Mo_isInstruction; rw [if_neg c1, if_neg c8, if_neg c12, if_neg c19, if_neg c20, if_neg c21, if_neg c22, if_pos c23, if_neg c26, if_neg c29, if_pos c32, if_neg c35, if_pos c39, if_neg c42, if_neg c43, if_pos c44]; try rfl)⟩, by rw [ht]; exact hP9, hD9⟩, hS.F ht⟩) hS.2.2 dMo_isInstruction_322
