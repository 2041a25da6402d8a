def l_Mo_feed_33 (vtp : Int32) (gt : Nat → Int32) (a0 : Int32) (a1 : Int32) (a2 : Int32) (a3 : Int32) (a4 : Int32) : Nat → (Int32) → (Nat → Int32) → (Int32) → Int32 × (Int32) × (Nat → Int32) × (Int32)
  | 0, _, _, _ => default
  | n + 1, k, g, tp =>
    if (20 : Int32) ≤ k then
      (tp, (bI (if (vtp + (20 : Int32)) ≤ (32768 : Int32) then false else true)), g, tp)
    else
      l_Mo_feed_33 vtp gt a0 a1 a2 a3 a4 n (k + (1 : Int32)) (upd g tp.toNatClampNeg (((if (4 : Int32) ≤ k then (if (8 : Int32) ≤ k then (if (12 : Int32) ≤ k then (if (16 : Int32) ≤ k then a4 else a3) else a2) else a1) else a0) >>> (((24 : Int32) - ((8 : Int32) * (k - (k / (4 : Int32)) * (4 : Int32)))) &&& 31)) &&& (255 : Int32))) (tp + (1 : Int32))
def f_Mo_feed (vtp : Int32) (gt : Nat → Int32) (a0 : Int32) (a1 : Int32) (a2 : Int32) (a3 : Int32) (a4 : Int32) : Int32 × (Int32) × (Nat → Int32) × (Int32) :=
  if (if (vtp + (20 : Int32)) ≤ (32768 : Int32) then false else true) = true then
    ((0 : Int32), (bI (if (vtp + (20 : Int32)) ≤ (32768 : Int32) then false else true)), gt, vtp)
  else
    l_Mo_feed_33 vtp gt a0 a1 a2 a3 a4 21 (0 : Int32) gt vtp
set_option maxHeartbeats 4000000 in
set_option maxRecDepth 100000 in
theorem c_Mo_feed (l : Launch) (G : va_G) (cB cL cI : ClassId) (Hp : Heap) (m0 : Nat) (vth : Int32) (qt : Nat) (vtp : Int32) (qp : Nat) (vpl : Int32) (qr : Nat) (qm : Nat) (vpc : Int32) (vst : Int32) (vc : Int32) (vd : Int32) (vs : Int32) (vo : Int32) (vi : Int32) (vn : Int32) (gt : Nat → Int32) (a0 : Int32) (a1 : Int32) (a2 : Int32) (a3 : Int32) (a4 : Int32) (hP : va_P G vwCl [(m0, .inr (5, [.int vth, .ref qt, .int vtp, .ref qp, .int vpl, .ref qr, .ref qm, .int vpc, .int vst, .int vc, .int vd, .int vs, .int vo, .int vi, .int vn])), (qt, .inl (cI, 32768, .inl gt))] Hp) (hD : va_D (fun _ => True) [(m0, .inr (5, [.int vth, .ref qt, .int vtp, .ref qp, .int vpl, .ref qr, .ref qm, .int vpc, .int vst, .int vc, .int vd, .int vs, .int vo, .int vi, .int vn])), (qt, .inl (cI, 32768, .inl gt))]) (ht0 : 0 ≤ vtp.toInt) (ht1 : vtp.toInt ≤ 32768) : Met l yMo_feed wsMo_feed ({ frames := 0, cells := 0, slots := 0, locals := 0 }) (va_Pc [.ref m0, .int a0, .int a1, .int a2, .int a3, .int a4] (fun U => U.heap = Hp ∧ va_K G vwCl [(cB, .byte), (cL, .long), (cI, .int)] U)) (va_Qi (fun (r : Int32) (u : (Int32) × (Nat → Int32) × (Int32)) => (r, u) = (f_Mo_feed vtp gt a0 a1 a2 a3 a4)) (fun (u : (Int32) × (Nat → Int32) × (Int32)) t => va_P G vwCl [(m0, .inr (5, [.int (u.1), .ref qt, .int (u.2.2), .ref qp, .int vpl, .ref qr, .ref qm, .int vpc, .int vst, .int vc, .int vd, .int vs, .int vo, .int vi, .int vn])), (qt, .inl (cI, 32768, .inl (u.2.1)))] t.heap ∧ va_D (va_A [(m0, .inr (5, [.int vth, .ref qt, .int vtp, .ref qp, .int vpl, .ref qr, .ref qm, .int vpc, .int vst, .int vc, .int vd, .int vs, .int vo, .int vi, .int vn])), (qt, .inl (cI, 32768, .inl gt))] Hp.size) [(m0, .inr (5, [.int (u.1), .ref qt, .int (u.2.2), .ref qp, .int vpl, .ref qr, .ref qm, .int vpc, .int vst, .int vc, .int vd, .int vs, .int vo, .int vi, .int vn])), (qt, .inl (cI, 32768, .inl (u.2.1)))]) (va_A [(m0, .inr (5, [.int vth, .ref qt, .int vtp, .ref qp, .int vpl, .ref qr, .ref qm, .int vpc, .int vst, .int vc, .int vd, .int vs, .int vo, .int vi, .int vn])), (qt, .inl (cI, 32768, .inl gt))] Hp.size)) 0 0 (va_A [(m0, .inr (5, [.int vth, .ref qt, .int vtp, .ref qp, .int vpl, .ref qr, .ref qm, .int vpc, .int vst, .int vc, .int vd, .int vs, .int vo, .int vi, .int vn])), (qt, .inl (cI, 32768, .inl gt))] Hp.size) := by
  refine Met.ofW (cc := cMo_feed) (maxL := 8) (ret := (some .int)) (by decide) rfl ?_
  intro p e s m args below meth c s₁ B hml hv
  obtain ⟨rfl, rfl, hK⟩ := hv
  have hx := B.exec
  have hb := B.bytes
  have hr := B.returns
  have hT : ∀ w ∈ tB, w.before _ s = true := fun w h => atoms_spec (ws := wsMo_feed) B.pre w (List.mem_cons_of_mem _ h)
  have hown : s.vm.findClass "CompiledProgramModel" = some m.cls := findClass_of_methodNamed B.named
  have hlocks := B.notSynchronized
  have hD := hD.self (sz := s.heap.size)
  generalize hAe : va_A [(m0, .inr (5, [.int vth, .ref qt, .int vtp, .ref qp, .int vpl, .ref qr, .ref qm, .int vpc, .int vst, .int vc, .int vd, .int vs, .int vo, .int vi, .int vn])), (qt, .inl (cI, 32768, .inl gt))] s.heap.size = A at hD ⊢
  have hA : ∀ q : Nat, s.heap.size ≤ q → A q := fun q h => by rw [← hAe]; exact Or.inr h
  have hS : va_S A s.heap s.heap [] := va_S.rf
  have hl := lv_entry ([.ref m0, .int a0, .int a1, .int a2, .int a3, .int a4]) (n := 8) (Nat.le_of_ble_eq_true rfl)
  rw [lg_entry_eq]
  generalize (lg_sl ([.ref m0, .int a0, .int a1, .int a2, .int a3, .int a4]) ++ List.replicate (8 - (lg_sl ([.ref m0, .int a0, .int a1, .int a2, .int a3, .int a4])).length) Slot.unset).toArray = ls at hl ⊢
  have hl : lv_has ls 8 [(0, .ref m0), (1, .int a0), (2, .int a1), (3, .int a2), (4, .int a3), (5, .int a4)] := hl
  refine lv_aload_n hx hb dMo_feed_0 rfl (lv_at hl 0 rfl) ?_
  refine lv_aload_n hx hb dMo_feed_1 rfl (lv_at hl 0 rfl) ?_
  refine va_get (D := G) (ci := 5) (v := .int vtp) (C := RMo) (T := TMo) (N := 15) hx hb hT inMo hown hK hP 0 rfl rfl 2 (by decide) (hT _ mw_567) (fun _ h9 => h9) rfl dMo_feed_2 ?_
  refine lv_bipush (v := (20 : Int32)) hx hb dMo_feed_5 (by decide) ?_
  refine lv_iadd hx hb dMo_feed_7 ?_
  refine lv_ldc (v := (32768 : Int32)) hx hb hown (hT _ mw_564) dMo_feed_8 ?_
  have jn1 : ∀ (x1 : Bool), x1 = (if (vtp + (20 : Int32)) ≤ (32768 : Int32) then false else true) → ∀ (locs : List Loc), va_S A s.heap s.heap locs → W p l e (headSpec wsMo_feed ({ frames := 0, cells := 0, slots := 0, locals := 0 })).room s m ([.ref m0, .int a0, .int a1, .int a2, .int a3, .int a4] : List Value).toArray below meth c s.heap locs 0 0 (MQ below (va_Qi (fun (r : Int32) (u : (Int32) × (Nat → Int32) × (Int32)) => (r, u) = (f_Mo_feed vtp gt a0 a1 a2 a3 a4)) (fun (u : (Int32) × (Nat → Int32) × (Int32)) t => va_P G vwCl [(m0, .inr (5, [.int (u.1), .ref qt, .int (u.2.2), .ref qp, .int vpl, .ref qr, .ref qm, .int vpc, .int vst, .int vc, .int vd, .int vs, .int vo, .int vi, .int vn])), (qt, .inl (cI, 32768, .inl (u.2.1)))] t.heap ∧ va_D (A) [(m0, .inr (5, [.int (u.1), .ref qt, .int (u.2.2), .ref qp, .int vpl, .ref qr, .ref qm, .int vpc, .int vst, .int vc, .int vd, .int vs, .int vo, .int vi, .int vn])), (qt, .inl (cI, 32768, .inl (u.2.1)))]) (A)) ([.ref m0, .int a0, .int a1, .int a2, .int a3, .int a4] : List Value).toArray s 0 0 A) (F0 m 18 ls [.int (bI x1), .ref m0]) := by
    intro x1 hx1 locs hS
    subst hx1
    refine va_put (D := G) (ci := 5) (v := .int (bI (if (vtp + (20 : Int32)) ≤ (32768 : Int32) then false else true))) (ty := .int) (C := RMo) (T := TMo) (N := 15) hx hb hT inMo tyMo tyMo_ok nmMo hown hK hP hD hS 0 rfl rfl 0 (by decide) (hT _ mw_565) (fun _ h9 => h9) rfl (by decide +kernel) rfl rfl (Nat.le_of_ble_eq_true rfl) dMo_feed_18 (fun H locs hP hD hS => ?_)
    have hP : va_P G vwCl [(m0, .inr (5, [.int (bI (if (vtp + (20 : Int32)) ≤ (32768 : Int32) then false else true)), .ref qt, .int vtp, .ref qp, .int vpl, .ref qr, .ref qm, .int vpc, .int vst, .int vc, .int vd, .int vs, .int vo, .int vi, .int vn])), (qt, .inl (cI, 32768, .inl gt))] H := hP
    have hD : va_D A [(m0, .inr (5, [.int (bI (if (vtp + (20 : Int32)) ≤ (32768 : Int32) then false else true)), .ref qt, .int vtp, .ref qp, .int vpl, .ref qr, .ref qm, .int vpc, .int vst, .int vc, .int vd, .int vs, .int vo, .int vi, .int vn])), (qt, .inl (cI, 32768, .inl gt))] := hD
    refine lv_aload_n hx hb dMo_feed_21 rfl (lv_at hl 0 rfl) ?_
    refine va_get (D := G) (ci := 5) (v := .int (bI (if (vtp + (20 : Int32)) ≤ (32768 : Int32) then false else true))) (C := RMo) (T := TMo) (N := 15) hx hb hT inMo hown hK hP 0 rfl rfl 0 (by decide) (hT _ mw_565) (fun _ h9 => h9) rfl dMo_feed_22 ?_
    refine lv_if_le (tgt := 30) hx hb dMo_feed_25 (by decide) (fun c2 => ?_) (fun c2 => ?_)
    · have c2 := bI_lez c2
      refine lv_iconst (v := (0 : Int32)) hx hb dMo_feed_30 (by decide) ?_
      refine lv_istore (lv' := [(6, .int (0 : Int32)), (0, .ref m0), (1, .int a0), (2, .int a1), (3, .int a2), (4, .int a3), (5, .int a4)]) hx hb dMo_feed_31 hl (by decide) rfl (fun ls hl => ?_)
      have loop : ∀ (n : Nat) (k : Int32) (g : Nat → Int32) (tp : Int32), (¬ (if (vtp + (20 : Int32)) ≤ (32768 : Int32) then false else true) = true) → (0 ≤ k.toInt) → (tp.toInt = vtp.toInt + k.toInt) → (20 - k.toInt).toNat < n → (f_Mo_feed vtp gt a0 a1 a2 a3 a4) = l_Mo_feed_33 vtp gt a0 a1 a2 a3 a4 n k g tp → ∀ (H : Heap), va_P G vwCl [(m0, .inr (5, [.int (bI (if (vtp + (20 : Int32)) ≤ (32768 : Int32) then false else true)), .ref qt, .int tp, .ref qp, .int vpl, .ref qr, .ref qm, .int vpc, .int vst, .int vc, .int vd, .int vs, .int vo, .int vi, .int vn])), (qt, .inl (cI, 32768, .inl g))] H → va_D A [(m0, .inr (5, [.int (bI (if (vtp + (20 : Int32)) ≤ (32768 : Int32) then false else true)), .ref qt, .int tp, .ref qp, .int vpl, .ref qr, .ref qm, .int vpc, .int vst, .int vc, .int vd, .int vs, .int vo, .int vi, .int vn])), (qt, .inl (cI, 32768, .inl g))] → ∀ (locs : List Loc), va_S A s.heap H locs → ∀ (ls : Array Slot), lv_has ls 8 [(6, .int k), (0, .ref m0), (1, .int a0), (2, .int a1), (3, .int a2), (4, .int a3), (5, .int a4)] → W p l e (headSpec wsMo_feed ({ frames := 0, cells := 0, slots := 0, locals := 0 })).room s m ([.ref m0, .int a0, .int a1, .int a2, .int a3, .int a4] : List Value).toArray below meth c H locs 0 0 (MQ below (va_Qi (fun (r : Int32) (u : (Int32) × (Nat → Int32) × (Int32)) => (r, u) = (f_Mo_feed vtp gt a0 a1 a2 a3 a4)) (fun (u : (Int32) × (Nat → Int32) × (Int32)) t => va_P G vwCl [(m0, .inr (5, [.int (u.1), .ref qt, .int (u.2.2), .ref qp, .int vpl, .ref qr, .ref qm, .int vpc, .int vst, .int vc, .int vd, .int vs, .int vo, .int vi, .int vn])), (qt, .inl (cI, 32768, .inl (u.2.1)))] t.heap ∧ va_D (A) [(m0, .inr (5, [.int (u.1), .ref qt, .int (u.2.2), .ref qp, .int vpl, .ref qr, .ref qm, .int vpc, .int vst, .int vc, .int vd, .int vs, .int vo, .int vi, .int vn])), (qt, .inl (cI, 32768, .inl (u.2.1)))]) (A)) ([.ref m0, .int a0, .int a1, .int a2, .int a3, .int a4] : List Value).toArray s 0 0 A) (F0 m 33 ls []) := by
        intro n
        induction n with
        | zero =>
          intro k g tp hR hk0 hT0 hM
          exact absurd hM (Nat.not_lt_zero _)
        | succ n ih =>
          intro k g tp hR hk0 hT0 hM hE H hP hD locs hS ls hl
          refine lv_iload hx hb dMo_feed_33 (lv_at hl 0 rfl) ?_
          refine lv_bipush (v := (20 : Int32)) hx hb dMo_feed_35 (by decide) ?_
          refine lv_icmp_ge (tgt := 130) hx hb dMo_feed_37 (by decide) (fun c3 => ?_) (fun c3 => ?_)
          · skip
            refine lv_aload_n hx hb dMo_feed_130 rfl (lv_at hl 1 rfl) ?_
            refine va_get (D := G) (ci := 5) (v := .int tp) (C := RMo) (T := TMo) (N := 15) hx hb hT inMo hown hK hP 0 rfl rfl 2 (by decide) (hT _ mw_567) (fun _ h9 => h9) rfl dMo_feed_131 ?_
            have hP9 := hP.sub (ws' := [(m0, .inr (5, [.int (bI (if (vtp + (20 : Int32)) ≤ (32768 : Int32) then false else true)), .ref qt, .int tp, .ref qp, .int vpl, .ref qr, .ref qm, .int vpc, .int vst, .int vc, .int vd, .int vs, .int vo, .int vi, .int vn])), (qt, .inl (cI, 32768, .inl g))]) [0, 1] rfl
            have hD9 := hD.sub (ws' := [(m0, .inr (5, [.int (bI (if (vtp + (20 : Int32)) ≤ (32768 : Int32) then false else true)), .ref qt, .int tp, .ref qp, .int vpl, .ref qr, .ref qm, .int vpc, .int vst, .int vc, .int vd, .int vs, .int vo, .int vi, .int vn])), (qt, .inl (cI, 32768, .inl g))]) [0, 1] (by decide) rfl
            exact W.iret (v := tp) hx hb hr (fun t ht hW => ⟨⟨tp, ((bI (if (vtp + (20 : Int32)) ≤ (32768 : Int32) then false else true)), g, tp), rfl, (by rw [hE, l_Mo_feed_33, if_pos c3]; try rfl), by rw [ht]; exact hP9, hD9⟩, hS.F ht⟩) hS.2.2 dMo_feed_134
          · skip
            refine lv_iload hx hb dMo_feed_40 (lv_at hl 0 rfl) ?_
            refine lv_iconst (v := (4 : Int32)) hx hb dMo_feed_42 (by decide) ?_
            have jn4 : ∀ (x4 : Int32), x4 = (if (4 : Int32) ≤ k then (if (8 : Int32) ≤ k then (if (12 : Int32) ≤ k then (if (16 : Int32) ≤ k then a4 else a3) else a2) else a1) else a0) → ∀ (locs : List Loc), va_S A s.heap H locs → W p l e (headSpec wsMo_feed ({ frames := 0, cells := 0, slots := 0, locals := 0 })).room s m ([.ref m0, .int a0, .int a1, .int a2, .int a3, .int a4] : List Value).toArray below meth c H locs 0 0 (MQ below (va_Qi (fun (r : Int32) (u : (Int32) × (Nat → Int32) × (Int32)) => (r, u) = (f_Mo_feed vtp gt a0 a1 a2 a3 a4)) (fun (u : (Int32) × (Nat → Int32) × (Int32)) t => va_P G vwCl [(m0, .inr (5, [.int (u.1), .ref qt, .int (u.2.2), .ref qp, .int vpl, .ref qr, .ref qm, .int vpc, .int vst, .int vc, .int vd, .int vs, .int vo, .int vi, .int vn])), (qt, .inl (cI, 32768, .inl (u.2.1)))] t.heap ∧ va_D (A) [(m0, .inr (5, [.int (u.1), .ref qt, .int (u.2.2), .ref qp, .int vpl, .ref qr, .ref qm, .int vpc, .int vst, .int vc, .int vd, .int vs, .int vo, .int vi, .int vn])), (qt, .inl (cI, 32768, .inl (u.2.1)))]) (A)) ([.ref m0, .int a0, .int a1, .int a2, .int a3, .int a4] : List Value).toArray s 0 0 A) (F0 m 86 ls [.int x4]) := by
              intro x4 hx4 locs hS
              subst hx4
              refine lv_istore (lv' := [(7, .int (if (4 : Int32) ≤ k then (if (8 : Int32) ≤ k then (if (12 : Int32) ≤ k then (if (16 : Int32) ≤ k then a4 else a3) else a2) else a1) else a0)), (6, .int k), (0, .ref m0), (1, .int a0), (2, .int a1), (3, .int a2), (4, .int a3), (5, .int a4)]) hx hb dMo_feed_86 hl (by decide) rfl (fun ls hl => ?_)
              refine lv_aload_n hx hb dMo_feed_88 rfl (lv_at hl 2 rfl) ?_
              refine va_get (D := G) (ci := 5) (v := .ref qt) (C := RMo) (T := TMo) (N := 15) hx hb hT inMo hown hK hP 0 rfl rfl 1 (by decide) (hT _ mw_566) (fun _ h9 => h9) rfl dMo_feed_89 ?_
              refine lv_aload_n hx hb dMo_feed_92 rfl (lv_at hl 2 rfl) ?_
              refine va_get (D := G) (ci := 5) (v := .int tp) (C := RMo) (T := TMo) (N := 15) hx hb hT inMo hown hK hP 0 rfl rfl 2 (by decide) (hT _ mw_567) (fun _ h9 => h9) rfl dMo_feed_93 ?_
              refine lv_iload hx hb dMo_feed_96 (lv_at hl 0 rfl) ?_
              refine lv_bipush (v := (24 : Int32)) hx hb dMo_feed_98 (by decide) ?_
              refine lv_bipush (v := (8 : Int32)) hx hb dMo_feed_100 (by decide) ?_
              refine lv_iload hx hb dMo_feed_102 (lv_at hl 1 rfl) ?_
              refine lv_iconst (v := (4 : Int32)) hx hb dMo_feed_104 (by decide) ?_
              refine lv_irem hx hb dMo_feed_105 (by decide) ?_
              refine lv_imul hx hb dMo_feed_106 ?_
              refine lv_isub hx hb dMo_feed_107 ?_
              refine lv_ishr hx hb dMo_feed_108 ?_
              refine lv_sipush (v := (255 : Int32)) hx hb dMo_feed_109 (by decide) ?_
              refine lv_iand hx hb dMo_feed_112 ?_
              refine va_iast hx hb hK hP hD hS 1 2 rfl rfl (fe_in ht0 ht1 hR hT0 hk0 c3) dMo_feed_113 (fun H locs hP hD hS => ?_)
              have hP : va_P G vwCl [(m0, .inr (5, [.int (bI (if (vtp + (20 : Int32)) ≤ (32768 : Int32) then false else true)), .ref qt, .int tp, .ref qp, .int vpl, .ref qr, .ref qm, .int vpc, .int vst, .int vc, .int vd, .int vs, .int vo, .int vi, .int vn])), (qt, .inl (cI, 32768, .inl (upd g tp.toNatClampNeg (((if (4 : Int32) ≤ k then (if (8 : Int32) ≤ k then (if (12 : Int32) ≤ k then (if (16 : Int32) ≤ k then a4 else a3) else a2) else a1) else a0) >>> (((24 : Int32) - ((8 : Int32) * (k - (k / (4 : Int32)) * (4 : Int32)))) &&& 31)) &&& (255 : Int32)))))] H := hP
              have hD : va_D A [(m0, .inr (5, [.int (bI (if (vtp + (20 : Int32)) ≤ (32768 : Int32) then false else true)), .ref qt, .int tp, .ref qp, .int vpl, .ref qr, .ref qm, .int vpc, .int vst, .int vc, .int vd, .int vs, .int vo, .int vi, .int vn])), (qt, .inl (cI, 32768, .inl (upd g tp.toNatClampNeg (((if (4 : Int32) ≤ k then (if (8 : Int32) ≤ k then (if (12 : Int32) ≤ k then (if (16 : Int32) ≤ k then a4 else a3) else a2) else a1) else a0) >>> (((24 : Int32) - ((8 : Int32) * (k - (k / (4 : Int32)) * (4 : Int32)))) &&& 31)) &&& (255 : Int32)))))] := hD
              refine lv_aload_n hx hb dMo_feed_114 rfl (lv_at hl 2 rfl) ?_
              refine lv_dup hx hb dMo_feed_115 rfl ?_
              refine va_get (D := G) (ci := 5) (v := .int tp) (C := RMo) (T := TMo) (N := 15) hx hb hT inMo hown hK hP 0 rfl rfl 2 (by decide) (hT _ mw_567) (fun _ h9 => h9) rfl dMo_feed_116 ?_
              refine lv_iconst (v := (1 : Int32)) hx hb dMo_feed_119 (by decide) ?_
              refine lv_iadd hx hb dMo_feed_120 ?_
              refine va_put (D := G) (ci := 5) (v := .int (tp + (1 : Int32))) (ty := .int) (C := RMo) (T := TMo) (N := 15) hx hb hT inMo tyMo tyMo_ok nmMo hown hK hP hD hS 0 rfl rfl 2 (by decide) (hT _ mw_567) (fun _ h9 => h9) rfl (by decide +kernel) rfl rfl (Nat.le_of_ble_eq_true rfl) dMo_feed_121 (fun H locs hP hD hS => ?_)
              have hP : va_P G vwCl [(m0, .inr (5, [.int (bI (if (vtp + (20 : Int32)) ≤ (32768 : Int32) then false else true)), .ref qt, .int (tp + (1 : Int32)), .ref qp, .int vpl, .ref qr, .ref qm, .int vpc, .int vst, .int vc, .int vd, .int vs, .int vo, .int vi, .int vn])), (qt, .inl (cI, 32768, .inl (upd g tp.toNatClampNeg (((if (4 : Int32) ≤ k then (if (8 : Int32) ≤ k then (if (12 : Int32) ≤ k then (if (16 : Int32) ≤ k then a4 else a3) else a2) else a1) else a0) >>> (((24 : Int32) - ((8 : Int32) * (k - (k / (4 : Int32)) * (4 : Int32)))) &&& 31)) &&& (255 : Int32)))))] H := hP
              have hD : va_D A [(m0, .inr (5, [.int (bI (if (vtp + (20 : Int32)) ≤ (32768 : Int32) then false else true)), .ref qt, .int (tp + (1 : Int32)), .ref qp, .int vpl, .ref qr, .ref qm, .int vpc, .int vst, .int vc, .int vd, .int vs, .int vo, .int vi, .int vn])), (qt, .inl (cI, 32768, .inl (upd g tp.toNatClampNeg (((if (4 : Int32) ≤ k then (if (8 : Int32) ≤ k then (if (12 : Int32) ≤ k then (if (16 : Int32) ≤ k then a4 else a3) else a2) else a1) else a0) >>> (((24 : Int32) - ((8 : Int32) * (k - (k / (4 : Int32)) * (4 : Int32)))) &&& 31)) &&& (255 : Int32)))))] := hD
              refine lv_iinc (v := (k + (1 : Int32))) (lv' := [(6, .int (k + (1 : Int32))), (7, .int (if (4 : Int32) ≤ k then (if (8 : Int32) ≤ k then (if (12 : Int32) ≤ k then (if (16 : Int32) ≤ k then a4 else a3) else a2) else a1) else a0)), (0, .ref m0), (1, .int a0), (2, .int a1), (3, .int a2), (4, .int a3), (5, .int a4)]) hx hb dMo_feed_124 hl (k := 1) rfl (by first | rfl | decide) (by decide) rfl (fun ls hl => ?_)
              refine lv_goto (tgt := 33) hx hb dMo_feed_127 (by decide) ?_
              exact ih (k + (1 : Int32)) (upd g tp.toNatClampNeg (((if (4 : Int32) ≤ k then (if (8 : Int32) ≤ k then (if (12 : Int32) ≤ k then (if (16 : Int32) ≤ k then a4 else a3) else a2) else a1) else a0) >>> (((24 : Int32) - ((8 : Int32) * (k - (k / (4 : Int32)) * (4 : Int32)))) &&& 31)) &&& (255 : Int32))) (tp + (1 : Int32)) hR (fe_b1 hk0 c3) (fe_b2 ht0 ht1 hR hT0 hk0 c3) (fe_b3 hk0 c3 hM) (by rw [hE, l_Mo_feed_33, if_neg c3]) _ hP hD _ hS ls (lv_sub hl [0, 2, 3, 4, 5, 6, 7] rfl)
            refine lv_icmp_ge (tgt := 50) hx hb dMo_feed_43 (by decide) (fun c5 => ?_) (fun c5 => ?_)
            · skip
              refine lv_iload hx hb dMo_feed_50 (lv_at hl 0 rfl) ?_
              refine lv_bipush (v := (8 : Int32)) hx hb dMo_feed_52 (by decide) ?_
              refine lv_icmp_ge (tgt := 61) hx hb dMo_feed_54 (by decide) (fun c6 => ?_) (fun c6 => ?_)
              · skip
                refine lv_iload hx hb dMo_feed_61 (lv_at hl 0 rfl) ?_
                refine lv_bipush (v := (12 : Int32)) hx hb dMo_feed_63 (by decide) ?_
                refine lv_icmp_ge (tgt := 72) hx hb dMo_feed_65 (by decide) (fun c7 => ?_) (fun c7 => ?_)
                · skip
                  refine lv_iload hx hb dMo_feed_72 (lv_at hl 0 rfl) ?_
                  refine lv_bipush (v := (16 : Int32)) hx hb dMo_feed_74 (by decide) ?_
                  refine lv_icmp_ge (tgt := 84) hx hb dMo_feed_76 (by decide) (fun c8 => ?_) (fun c8 => ?_)
                  · skip
                    refine lv_iload hx hb dMo_feed_84 (lv_at hl 6 rfl) ?_
                    exact jn4 a4 (by rw [if_pos c5, if_pos c6, if_pos c7, if_pos c8]) _ hS
                  · skip
                    refine lv_iload hx hb dMo_feed_79 (lv_at hl 5 rfl) ?_
                    refine lv_goto (tgt := 86) hx hb dMo_feed_81 (by decide) ?_
                    exact jn4 a3 (by rw [if_pos c5, if_pos c6, if_pos c7, if_neg c8]) _ hS
                · skip
                  refine lv_iload_n hx hb dMo_feed_68 rfl (lv_at hl 4 rfl) ?_
                  refine lv_goto (tgt := 86) hx hb dMo_feed_69 (by decide) ?_
                  exact jn4 a2 (by rw [if_pos c5, if_pos c6, if_neg c7]) _ hS
              · skip
                refine lv_iload_n hx hb dMo_feed_57 rfl (lv_at hl 3 rfl) ?_
                refine lv_goto (tgt := 86) hx hb dMo_feed_58 (by decide) ?_
                exact jn4 a1 (by rw [if_pos c5, if_neg c6]) _ hS
            · skip
              refine lv_iload_n hx hb dMo_feed_46 rfl (lv_at hl 2 rfl) ?_
              refine lv_goto (tgt := 86) hx hb dMo_feed_47 (by decide) ?_
              exact jn4 a0 (by rw [if_neg c5]) _ hS
      exact loop 21 (0 : Int32) gt vtp c2 (by decide) (fe_0) (by decide) (by unfold f_Mo_feed; rw [if_neg c2]) _ hP hD _ hS ls (lv_sub hl [0, 1, 2, 3, 4, 5, 6] rfl)
    · have c2 := bI_len c2
      refine lv_iconst (v := (0 : Int32)) hx hb dMo_feed_28 (by decide) ?_
      have hP9 := hP.sub (ws' := [(m0, .inr (5, [.int (bI (if (vtp + (20 : Int32)) ≤ (32768 : Int32) then false else true)), .ref qt, .int vtp, .ref qp, .int vpl, .ref qr, .ref qm, .int vpc, .int vst, .int vc, .int vd, .int vs, .int vo, .int vi, .int vn])), (qt, .inl (cI, 32768, .inl gt))]) [0, 1] rfl
      have hD9 := hD.sub (ws' := [(m0, .inr (5, [.int (bI (if (vtp + (20 : Int32)) ≤ (32768 : Int32) then false else true)), .ref qt, .int vtp, .ref qp, .int vpl, .ref qr, .ref qm, .int vpc, .int vst, .int vc, .int vd, .int vs, .int vo, .int vi, .int vn])), (qt, .inl (cI, 32768, .inl gt))]) [0, 1] (by decide) rfl
      exact W.iret (v := (0 : Int32)) hx hb hr (fun t ht hW => ⟨⟨(0 : Int32), ((bI (if (vtp + (20 : Int32)) ≤ (32768 : Int32) then false else true)), gt, vtp), rfl, (by unfold f_Mo_feed; rw [if_pos c2]; try rfl), by rw [ht]; exact hP9, hD9⟩, hS.F ht⟩) hS.2.2 dMo_feed_29
  refine lv_icmp_le (tgt := 17) hx hb dMo_feed_10 (by decide) (fun c9 => ?_) (fun c9 => ?_)
  · skip
    refine lv_iconst (v := (0 : Int32)) hx hb dMo_feed_17 (by decide) ?_
    exact jn1 false (by rw [if_pos c9]) _ hS
  · skip
    refine lv_iconst (v := (1 : Int32)) hx hb dMo_feed_13 (by decide) ?_
    refine lv_goto (tgt := 18) hx hb dMo_feed_14 (by decide) ?_
    exact jn1 true (by rw [if_neg c9]) _ hS
