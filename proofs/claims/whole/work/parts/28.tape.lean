def f_Ta_hasRoom (tl : Int32) : Bool :=
  if (32768 : Int32) < (tl + (20 : Int32)) then
    false
  else
    true
set_option maxHeartbeats 4000000 in
set_option maxRecDepth 100000 in
theorem c_Ta_hasRoom (l : Launch) (G : va_G) (cB cL cI : ClassId) (Hp : Heap) (h6 : Nat) (h7 : Nat) (tn : Nat) (tf : Nat → Int32) (tl : Int32) (hP : va_P G vwCl [(h6, .inr (3, [.ref h7, .int tl])), (h7, .inl (cB, tn, .inl tf))] Hp) : Met l yTa_hasRoom wsTa_hasRoom ({ frames := 0, cells := 0, slots := 0, locals := 0 }) (va_Pc [.ref h6] (fun U => U.heap = Hp ∧ va_K G vwCl [(cB, .byte), (cL, .long), (cI, .int)] U)) (va_Qi (fun (r : Int32) (_ : Unit) => r = bI (f_Ta_hasRoom tl)) (fun _ t => t.heap = Hp) (fun _ => False)) 0 0 (fun _ => False) := by
  refine Met.ofW (cc := cTa_hasRoom) (maxL := 1) (ret := (some .boolean)) (by decide) rfl ?_
  intro p e s m args below meth c s₁ B hml hv
  obtain ⟨rfl, rfl, hK⟩ := hv
  have hx := B.exec
  have hb := B.bytes
  have hr := B.returns
  have hT : ∀ w ∈ tB, w.before _ s = true := fun w h => atoms_spec (ws := wsTa_hasRoom) B.pre w (List.mem_cons_of_mem _ h)
  have hown : s.vm.findClass "CompiledProgram$Tape" = some m.cls := findClass_of_methodNamed B.named
  have hlocks := B.notSynchronized
  have hA : ∀ q : Nat, (fun _ : Nat => False) q → False := fun _ h => h
  have hS : va_S (fun _ => False) s.heap s.heap [] := va_S.rf
  have hl := lv_entry ([.ref h6]) (n := 1) (Nat.le_of_ble_eq_true rfl)
  rw [lg_entry_eq]
  generalize (lg_sl ([.ref h6]) ++ List.replicate (1 - (lg_sl ([.ref h6])).length) Slot.unset).toArray = ls at hl ⊢
  have hl : lv_has ls 1 [(0, .ref h6)] := hl
  refine lv_aload_n hx hb dTa_hasRoom_0 rfl (lv_at hl 0 rfl) ?_
  refine va_get (D := G) (ci := 3) (v := .int tl) (C := RTa) (T := TTa) (N := 2) hx hb hT inTa hown hK hP 0 rfl rfl 1 (by decide) (hT _ mw_36) (fun _ h9 => h9) rfl dTa_hasRoom_1 ?_
  refine lv_bipush (v := (20 : Int32)) hx hb dTa_hasRoom_4 (by decide) ?_
  refine lv_iadd hx hb dTa_hasRoom_6 ?_
  refine lv_ldc (v := (32768 : Int32)) hx hb hown (hT _ mw_258) dTa_hasRoom_7 ?_
  refine lv_icmp_gt (tgt := 16) hx hb dTa_hasRoom_9 (by decide) (fun c1 => ?_) (fun c1 => ?_)
  · skip
    refine lv_iconst (v := (0 : Int32)) hx hb dTa_hasRoom_16 (by decide) ?_
    exact W.zret (v := (0 : Int32)) hx hb hr rfl (fun t ht hW => ⟨⟨(0 : Int32), (), rfl, (by unfold f_Ta_hasRoom; rw [if_pos c1]; try rfl), ht⟩, hS.F ht⟩) hS.2.2 dTa_hasRoom_17
  · skip
    refine lv_iconst (v := (1 : Int32)) hx hb dTa_hasRoom_12 (by decide) ?_
    refine lv_goto (tgt := 17) hx hb dTa_hasRoom_13 (by decide) ?_
    exact W.zret (v := (1 : Int32)) hx hb hr rfl (fun t ht hW => ⟨⟨(1 : Int32), (), rfl, (by unfold f_Ta_hasRoom; rw [if_neg c1]; try rfl), ht⟩, hS.F ht⟩) hS.2.2 dTa_hasRoom_17

theorem ty_in {tl : Int32} {tn : Nat} (h0 : 0 ≤ tl.toInt) (h1 : tl.toInt ≤ tn) (hn : tn < 1073741824) (c : (tl + (4 : Int32)) ≤ (nI tn)) : vp_in tl tn ∧ vp_in (tl + (1 : Int32)) tn ∧ vp_in (tl + (2 : Int32)) tn ∧ vp_in (tl + (3 : Int32)) tn := by
  rw [Int32.le_iff_toInt_le, nI_toInt (by omega)] at c
  have e1 : (1 : Int32).toInt = 1 := by decide
  have e2 : (2 : Int32).toInt = 2 := by decide
  have e3 : (3 : Int32).toInt = 3 := by decide
  have e4 : (4 : Int32).toInt = 4 := by decide
  rw [i_add (by rw [e4]; omega) (by rw [e4]; omega), e4] at c
  refine ⟨?_, ?_, ?_, ?_⟩
  · rw [vp_in_iff]; omega
  · rw [vp_in_iff, i_add (by rw [e1]; omega) (by rw [e1]; omega), e1]; omega
  · rw [vp_in_iff, i_add (by rw [e2]; omega) (by rw [e2]; omega), e2]; omega
  · rw [vp_in_iff, i_add (by rw [e3]; omega) (by rw [e3]; omega), e3]; omega
theorem pl_b2 {k : Int32} (c : ¬ k < 0) (h : k.toInt < 8) : (k + (-1 : Int32)).toInt < 8 := by
  rw [i_dec c]; omega
theorem pl_at {a0 k : Int32} (ha : a0.toInt < 8192) (h0 : ¬ a0 < 0) (hk0 : 0 ≤ k.toInt) (hk : k.toInt < 8) : ((a0 * (8 : Int32)) + k).toInt = 8 * a0.toInt + k.toInt ∧ (a0 * (8 : Int32)).toInt = 8 * a0.toInt := by
  have h0 := i_nlt0 h0
  have e8 : (8 : Int32).toInt = 8 := by decide
  have em : (a0 * (8 : Int32)).toInt = 8 * a0.toInt := by
    rw [Int32.toInt_mul, e8, bm32 (by omega) (by omega)]; omega
  refine ⟨?_, em⟩
  rw [i_add (by rw [em]; omega) (by rw [em]; omega), em]
theorem pl_in {a0 k tl : Int32} {tn : Nat} (ha : a0.toInt < 8192) (htl : tl.toInt ≤ tn) (h0 : ¬ a0 < 0) (hb : ((a0 * (8 : Int32)) + (8 : Int32)) ≤ tl) (hk : k.toInt < 8) (c : ¬ k < 0) : vp_in ((a0 * (8 : Int32)) + k) tn := by
  have h1 := i_nlt0 h0
  have h2 := i_nlt0 c
  obtain ⟨p1, p2⟩ := pl_at ha h0 h2 hk
  have e8 : (8 : Int32).toInt = 8 := by decide
  rw [Int32.le_iff_toInt_le, i_add (by rw [p2, e8]; omega) (by rw [p2, e8]; omega), p2, e8] at hb
  rw [vp_in_iff, p1]; omega
def f_Ta_type (tn : Nat) (tf : Nat → Int32) (tl : Int32) (a0 : Int32) : (Nat → Int32) × (Int32) :=
  if (tl + (4 : Int32)) ≤ (nI tn) then
    ((upd (upd (upd (upd tf tl.toNatClampNeg (vp_nar .byte (j_i2b (a0 >>> ((24 : Int32) &&& 31))))) (tl + (1 : Int32)).toNatClampNeg (vp_nar .byte (j_i2b (a0 >>> ((16 : Int32) &&& 31))))) (tl + (2 : Int32)).toNatClampNeg (vp_nar .byte (j_i2b (a0 >>> ((8 : Int32) &&& 31))))) (tl + (3 : Int32)).toNatClampNeg (vp_nar .byte (j_i2b a0))), (tl + (4 : Int32)))
  else
    (tf, tl)
set_option maxHeartbeats 4000000 in
set_option maxRecDepth 100000 in
theorem c_Ta_type (l : Launch) (G : va_G) (cB cL cI : ClassId) (Hp : Heap) (h6 : Nat) (h7 : Nat) (tn : Nat) (tf : Nat → Int32) (tl : Int32) (a0 : Int32) (hP : va_P G vwCl [(h6, .inr (3, [.ref h7, .int tl])), (h7, .inl (cB, tn, .inl tf))] Hp) (hD : va_D (fun _ => True) [(h6, .inr (3, [.ref h7, .int tl])), (h7, .inl (cB, tn, .inl tf))]) (ht0 : 0 ≤ tl.toInt) (ht1 : tl.toInt ≤ tn) (htn : tn < 1073741824) : Met l yTa_type wsTa_type ({ frames := 0, cells := 0, slots := 0, locals := 0 }) (va_Pc [.ref h6, .int a0] (fun U => U.heap = Hp ∧ va_K G vwCl [(cB, .byte), (cL, .long), (cI, .int)] U)) (va_Qv (fun (u : (Nat → Int32) × (Int32)) => u = (f_Ta_type tn tf tl a0)) (fun (u : (Nat → Int32) × (Int32)) t => va_P G vwCl [(h6, .inr (3, [.ref h7, .int (u.2)])), (h7, .inl (cB, tn, .inl (u.1)))] t.heap ∧ va_D (va_A [(h6, .inr (3, [.ref h7, .int tl])), (h7, .inl (cB, tn, .inl tf))] Hp.size) [(h6, .inr (3, [.ref h7, .int (u.2)])), (h7, .inl (cB, tn, .inl (u.1)))]) (va_A [(h6, .inr (3, [.ref h7, .int tl])), (h7, .inl (cB, tn, .inl tf))] Hp.size)) 0 0 (va_A [(h6, .inr (3, [.ref h7, .int tl])), (h7, .inl (cB, tn, .inl tf))] Hp.size) := by
  refine Met.ofW (cc := cTa_type) (maxL := 2) (ret := none) (by decide) rfl ?_
  intro p e s m args below meth c s₁ B hml hv
  obtain ⟨rfl, rfl, hK⟩ := hv
  have hx := B.exec
  have hb := B.bytes
  have hr := B.returns
  have hT : ∀ w ∈ tB, w.before _ s = true := fun w h => atoms_spec (ws := wsTa_type) B.pre w (List.mem_cons_of_mem _ h)
  have hown : s.vm.findClass "CompiledProgram$Tape" = some m.cls := findClass_of_methodNamed B.named
  have hlocks := B.notSynchronized
  have hD := hD.self (sz := s.heap.size)
  generalize hAe : va_A [(h6, .inr (3, [.ref h7, .int tl])), (h7, .inl (cB, tn, .inl tf))] s.heap.size = A at hD ⊢
  have hA : ∀ q : Nat, s.heap.size ≤ q → A q := fun q h => by rw [← hAe]; exact Or.inr h
  have hS : va_S A s.heap s.heap [] := va_S.rf
  have hl := lv_entry ([.ref h6, .int a0]) (n := 2) (Nat.le_of_ble_eq_true rfl)
  rw [lg_entry_eq]
  generalize (lg_sl ([.ref h6, .int a0]) ++ List.replicate (2 - (lg_sl ([.ref h6, .int a0])).length) Slot.unset).toArray = ls at hl ⊢
  have hl : lv_has ls 2 [(0, .ref h6), (1, .int a0)] := hl
  refine lv_aload_n hx hb dTa_type_0 rfl (lv_at hl 0 rfl) ?_
  refine va_get (D := G) (ci := 3) (v := .int tl) (C := RTa) (T := TTa) (N := 2) hx hb hT inTa hown hK hP 0 rfl rfl 1 (by decide) (hT _ mw_36) (fun _ h9 => h9) rfl dTa_type_1 ?_
  refine lv_iconst (v := (4 : Int32)) hx hb dTa_type_4 (by decide) ?_
  refine lv_iadd hx hb dTa_type_5 ?_
  refine lv_aload_n hx hb dTa_type_6 rfl (lv_at hl 0 rfl) ?_
  refine va_get (D := G) (ci := 3) (v := .ref h7) (C := RTa) (T := TTa) (N := 2) hx hb hT inTa hown hK hP 0 rfl rfl 0 (by decide) (hT _ mw_35) (fun _ h9 => h9) rfl dTa_type_7 ?_
  refine va_alen (v := (nI tn)) hx hb hK hP 1 0 rfl rfl rfl dTa_type_10 ?_
  refine lv_icmp_le (tgt := 15) hx hb dTa_type_11 (by decide) (fun c1 => ?_) (fun c1 => ?_)
  · skip
    refine lv_aload_n hx hb dTa_type_15 rfl (lv_at hl 0 rfl) ?_
    refine va_get (D := G) (ci := 3) (v := .ref h7) (C := RTa) (T := TTa) (N := 2) hx hb hT inTa hown hK hP 0 rfl rfl 0 (by decide) (hT _ mw_35) (fun _ h9 => h9) rfl dTa_type_16 ?_
    refine lv_aload_n hx hb dTa_type_19 rfl (lv_at hl 0 rfl) ?_
    refine va_get (D := G) (ci := 3) (v := .int tl) (C := RTa) (T := TTa) (N := 2) hx hb hT inTa hown hK hP 0 rfl rfl 1 (by decide) (hT _ mw_36) (fun _ h9 => h9) rfl dTa_type_20 ?_
    refine lv_iload_n hx hb dTa_type_23 rfl (lv_at hl 1 rfl) ?_
    refine lv_bipush (v := (24 : Int32)) hx hb dTa_type_24 (by decide) ?_
    refine lv_ishr hx hb dTa_type_26 ?_
    refine lv_i2b (v := (j_i2b (a0 >>> ((24 : Int32) &&& 31)))) hx hb dTa_type_27 rfl ?_
    refine va_bast hx hb hK hP hD hS 1 0 rfl rfl (ty_in ht0 ht1 htn c1).1 dTa_type_28 (fun H locs hP hD hS => ?_)
    have hP : va_P G vwCl [(h6, .inr (3, [.ref h7, .int tl])), (h7, .inl (cB, tn, .inl (upd tf tl.toNatClampNeg (vp_nar .byte (j_i2b (a0 >>> ((24 : Int32) &&& 31)))))))] H := hP
    have hD : va_D A [(h6, .inr (3, [.ref h7, .int tl])), (h7, .inl (cB, tn, .inl (upd tf tl.toNatClampNeg (vp_nar .byte (j_i2b (a0 >>> ((24 : Int32) &&& 31)))))))] := hD
    refine lv_aload_n hx hb dTa_type_29 rfl (lv_at hl 0 rfl) ?_
    refine va_get (D := G) (ci := 3) (v := .ref h7) (C := RTa) (T := TTa) (N := 2) hx hb hT inTa hown hK hP 0 rfl rfl 0 (by decide) (hT _ mw_35) (fun _ h9 => h9) rfl dTa_type_30 ?_
    refine lv_aload_n hx hb dTa_type_33 rfl (lv_at hl 0 rfl) ?_
    refine va_get (D := G) (ci := 3) (v := .int tl) (C := RTa) (T := TTa) (N := 2) hx hb hT inTa hown hK hP 0 rfl rfl 1 (by decide) (hT _ mw_36) (fun _ h9 => h9) rfl dTa_type_34 ?_
    refine lv_iconst (v := (1 : Int32)) hx hb dTa_type_37 (by decide) ?_
    refine lv_iadd hx hb dTa_type_38 ?_
    refine lv_iload_n hx hb dTa_type_39 rfl (lv_at hl 1 rfl) ?_
    refine lv_bipush (v := (16 : Int32)) hx hb dTa_type_40 (by decide) ?_
    refine lv_ishr hx hb dTa_type_42 ?_
    refine lv_i2b (v := (j_i2b (a0 >>> ((16 : Int32) &&& 31)))) hx hb dTa_type_43 rfl ?_
    refine va_bast hx hb hK hP hD hS 1 0 rfl rfl (ty_in ht0 ht1 htn c1).2.1 dTa_type_44 (fun H locs hP hD hS => ?_)
    have hP : va_P G vwCl [(h6, .inr (3, [.ref h7, .int tl])), (h7, .inl (cB, tn, .inl (upd (upd tf tl.toNatClampNeg (vp_nar .byte (j_i2b (a0 >>> ((24 : Int32) &&& 31))))) (tl + (1 : Int32)).toNatClampNeg (vp_nar .byte (j_i2b (a0 >>> ((16 : Int32) &&& 31)))))))] H := hP
    have hD : va_D A [(h6, .inr (3, [.ref h7, .int tl])), (h7, .inl (cB, tn, .inl (upd (upd tf tl.toNatClampNeg (vp_nar .byte (j_i2b (a0 >>> ((24 : Int32) &&& 31))))) (tl + (1 : Int32)).toNatClampNeg (vp_nar .byte (j_i2b (a0 >>> ((16 : Int32) &&& 31)))))))] := hD
    refine lv_aload_n hx hb dTa_type_45 rfl (lv_at hl 0 rfl) ?_
    refine va_get (D := G) (ci := 3) (v := .ref h7) (C := RTa) (T := TTa) (N := 2) hx hb hT inTa hown hK hP 0 rfl rfl 0 (by decide) (hT _ mw_35) (fun _ h9 => h9) rfl dTa_type_46 ?_
    refine lv_aload_n hx hb dTa_type_49 rfl (lv_at hl 0 rfl) ?_
    refine va_get (D := G) (ci := 3) (v := .int tl) (C := RTa) (T := TTa) (N := 2) hx hb hT inTa hown hK hP 0 rfl rfl 1 (by decide) (hT _ mw_36) (fun _ h9 => h9) rfl dTa_type_50 ?_
    refine lv_iconst (v := (2 : Int32)) hx hb dTa_type_53 (by decide) ?_
    refine lv_iadd hx hb dTa_type_54 ?_
    refine lv_iload_n hx hb dTa_type_55 rfl (lv_at hl 1 rfl) ?_
    refine lv_bipush (v := (8 : Int32)) hx hb dTa_type_56 (by decide) ?_
    refine lv_ishr hx hb dTa_type_58 ?_
    refine lv_i2b (v := (j_i2b (a0 >>> ((8 : Int32) &&& 31)))) hx hb dTa_type_59 rfl ?_
    refine va_bast hx hb hK hP hD hS 1 0 rfl rfl (ty_in ht0 ht1 htn c1).2.2.1 dTa_type_60 (fun H locs hP hD hS => ?_)
    have hP : va_P G vwCl [(h6, .inr (3, [.ref h7, .int tl])), (h7, .inl (cB, tn, .inl (upd (upd (upd tf tl.toNatClampNeg (vp_nar .byte (j_i2b (a0 >>> ((24 : Int32) &&& 31))))) (tl + (1 : Int32)).toNatClampNeg (vp_nar .byte (j_i2b (a0 >>> ((16 : Int32) &&& 31))))) (tl + (2 : Int32)).toNatClampNeg (vp_nar .byte (j_i2b (a0 >>> ((8 : Int32) &&& 31)))))))] H := hP
    have hD : va_D A [(h6, .inr (3, [.ref h7, .int tl])), (h7, .inl (cB, tn, .inl (upd (upd (upd tf tl.toNatClampNeg (vp_nar .byte (j_i2b (a0 >>> ((24 : Int32) &&& 31))))) (tl + (1 : Int32)).toNatClampNeg (vp_nar .byte (j_i2b (a0 >>> ((16 : Int32) &&& 31))))) (tl + (2 : Int32)).toNatClampNeg (vp_nar .byte (j_i2b (a0 >>> ((8 : Int32) &&& 31)))))))] := hD
    refine lv_aload_n hx hb dTa_type_61 rfl (lv_at hl 0 rfl) ?_
    refine va_get (D := G) (ci := 3) (v := .ref h7) (C := RTa) (T := TTa) (N := 2) hx hb hT inTa hown hK hP 0 rfl rfl 0 (by decide) (hT _ mw_35) (fun _ h9 => h9) rfl dTa_type_62 ?_
    refine lv_aload_n hx hb dTa_type_65 rfl (lv_at hl 0 rfl) ?_
    refine va_get (D := G) (ci := 3) (v := .int tl) (C := RTa) (T := TTa) (N := 2) hx hb hT inTa hown hK hP 0 rfl rfl 1 (by decide) (hT _ mw_36) (fun _ h9 => h9) rfl dTa_type_66 ?_
    refine lv_iconst (v := (3 : Int32)) hx hb dTa_type_69 (by decide) ?_
    refine lv_iadd hx hb dTa_type_70 ?_
    refine lv_iload_n hx hb dTa_type_71 rfl (lv_at hl 1 rfl) ?_
    refine lv_i2b (v := (j_i2b a0)) hx hb dTa_type_72 rfl ?_
    refine va_bast hx hb hK hP hD hS 1 0 rfl rfl (ty_in ht0 ht1 htn c1).2.2.2 dTa_type_73 (fun H locs hP hD hS => ?_)
    have hP : va_P G vwCl [(h6, .inr (3, [.ref h7, .int tl])), (h7, .inl (cB, tn, .inl (upd (upd (upd (upd tf tl.toNatClampNeg (vp_nar .byte (j_i2b (a0 >>> ((24 : Int32) &&& 31))))) (tl + (1 : Int32)).toNatClampNeg (vp_nar .byte (j_i2b (a0 >>> ((16 : Int32) &&& 31))))) (tl + (2 : Int32)).toNatClampNeg (vp_nar .byte (j_i2b (a0 >>> ((8 : Int32) &&& 31))))) (tl + (3 : Int32)).toNatClampNeg (vp_nar .byte (j_i2b a0)))))] H := hP
    have hD : va_D A [(h6, .inr (3, [.ref h7, .int tl])), (h7, .inl (cB, tn, .inl (upd (upd (upd (upd tf tl.toNatClampNeg (vp_nar .byte (j_i2b (a0 >>> ((24 : Int32) &&& 31))))) (tl + (1 : Int32)).toNatClampNeg (vp_nar .byte (j_i2b (a0 >>> ((16 : Int32) &&& 31))))) (tl + (2 : Int32)).toNatClampNeg (vp_nar .byte (j_i2b (a0 >>> ((8 : Int32) &&& 31))))) (tl + (3 : Int32)).toNatClampNeg (vp_nar .byte (j_i2b a0)))))] := hD
    refine lv_aload_n hx hb dTa_type_74 rfl (lv_at hl 0 rfl) ?_
    refine lv_dup hx hb dTa_type_75 rfl ?_
    refine va_get (D := G) (ci := 3) (v := .int tl) (C := RTa) (T := TTa) (N := 2) hx hb hT inTa hown hK hP 0 rfl rfl 1 (by decide) (hT _ mw_36) (fun _ h9 => h9) rfl dTa_type_76 ?_
    refine lv_iconst (v := (4 : Int32)) hx hb dTa_type_79 (by decide) ?_
    refine lv_iadd hx hb dTa_type_80 ?_
    refine va_put (D := G) (ci := 3) (v := .int (tl + (4 : Int32))) (ty := .int) (C := RTa) (T := TTa) (N := 2) hx hb hT inTa tyTa tyTa_ok nmTa hown hK hP hD hS 0 rfl rfl 1 (by decide) (hT _ mw_36) (fun _ h9 => h9) rfl (by decide +kernel) rfl rfl (Nat.le_of_ble_eq_true rfl) dTa_type_81 (fun H locs hP hD hS => ?_)
    have hP : va_P G vwCl [(h6, .inr (3, [.ref h7, .int (tl + (4 : Int32))])), (h7, .inl (cB, tn, .inl (upd (upd (upd (upd tf tl.toNatClampNeg (vp_nar .byte (j_i2b (a0 >>> ((24 : Int32) &&& 31))))) (tl + (1 : Int32)).toNatClampNeg (vp_nar .byte (j_i2b (a0 >>> ((16 : Int32) &&& 31))))) (tl + (2 : Int32)).toNatClampNeg (vp_nar .byte (j_i2b (a0 >>> ((8 : Int32) &&& 31))))) (tl + (3 : Int32)).toNatClampNeg (vp_nar .byte (j_i2b a0)))))] H := hP
    have hD : va_D A [(h6, .inr (3, [.ref h7, .int (tl + (4 : Int32))])), (h7, .inl (cB, tn, .inl (upd (upd (upd (upd tf tl.toNatClampNeg (vp_nar .byte (j_i2b (a0 >>> ((24 : Int32) &&& 31))))) (tl + (1 : Int32)).toNatClampNeg (vp_nar .byte (j_i2b (a0 >>> ((16 : Int32) &&& 31))))) (tl + (2 : Int32)).toNatClampNeg (vp_nar .byte (j_i2b (a0 >>> ((8 : Int32) &&& 31))))) (tl + (3 : Int32)).toNatClampNeg (vp_nar .byte (j_i2b a0)))))] := hD
    have hP9 := hP.sub (ws' := [(h6, .inr (3, [.ref h7, .int (tl + (4 : Int32))])), (h7, .inl (cB, tn, .inl (upd (upd (upd (upd tf tl.toNatClampNeg (vp_nar .byte (j_i2b (a0 >>> ((24 : Int32) &&& 31))))) (tl + (1 : Int32)).toNatClampNeg (vp_nar .byte (j_i2b (a0 >>> ((16 : Int32) &&& 31))))) (tl + (2 : Int32)).toNatClampNeg (vp_nar .byte (j_i2b (a0 >>> ((8 : Int32) &&& 31))))) (tl + (3 : Int32)).toNatClampNeg (vp_nar .byte (j_i2b a0)))))]) [0, 1] rfl
    have hD9 := hD.sub (ws' := [(h6, .inr (3, [.ref h7, .int (tl + (4 : Int32))])), (h7, .inl (cB, tn, .inl (upd (upd (upd (upd tf tl.toNatClampNeg (vp_nar .byte (j_i2b (a0 >>> ((24 : Int32) &&& 31))))) (tl + (1 : Int32)).toNatClampNeg (vp_nar .byte (j_i2b (a0 >>> ((16 : Int32) &&& 31))))) (tl + (2 : Int32)).toNatClampNeg (vp_nar .byte (j_i2b (a0 >>> ((8 : Int32) &&& 31))))) (tl + (3 : Int32)).toNatClampNeg (vp_nar .byte (j_i2b a0)))))]) [0, 1] (by decide) rfl
    exact W.vret hx hb hr (fun t ht hW => ⟨⟨((upd (upd (upd (upd tf tl.toNatClampNeg (vp_nar .byte (j_i2b (a0 >>> ((24 : Int32) &&& 31))))) (tl + (1 : Int32)).toNatClampNeg (vp_nar .byte (j_i2b (a0 >>> ((16 : Int32) &&& 31))))) (tl + (2 : Int32)).toNatClampNeg (vp_nar .byte (j_i2b (a0 >>> ((8 : Int32) &&& 31))))) (tl + (3 : Int32)).toNatClampNeg (vp_nar .byte (j_i2b a0))), (tl + (4 : Int32))), rfl, (by unfold f_Ta_type; rw [if_pos c1]; try rfl), by rw [ht]; exact hP9, hD9⟩, hS.F ht⟩) hS.2.2 dTa_type_84
  · skip
    have hP9 := hP.sub (ws' := [(h6, .inr (3, [.ref h7, .int tl])), (h7, .inl (cB, tn, .inl tf))]) [0, 1] rfl
    have hD9 := hD.sub (ws' := [(h6, .inr (3, [.ref h7, .int tl])), (h7, .inl (cB, tn, .inl tf))]) [0, 1] (by decide) rfl
    exact W.vret hx hb hr (fun t ht hW => ⟨⟨(tf, tl), rfl, (by unfold f_Ta_type; rw [if_neg c1]; try rfl), by rw [ht]; exact hP9, hD9⟩, hS.F ht⟩) hS.2.2 dTa_type_14

def l_Ta_placeAt_28 (tf : Nat → Int32) (tl : Int32) (a0 : Int32) : Nat → (Int32) → (Int64) → Int64
  | 0, _, _ => default
  | n + 1, k, v =>
    if k < 0 then
      v
    else
      l_Ta_placeAt_28 tf tl a0 n (k + (-1 : Int32)) ((j_lshl v (8 : Int32)) ||| (((tf ((a0 * (8 : Int32)) + k).toNatClampNeg) &&& (255 : Int32)).toInt64))
def f_Ta_placeAt (tf : Nat → Int32) (tl : Int32) (a0 : Int32) : Int64 :=
  if a0 < 0 then
    (0 : Int64)
  else
    if ((a0 * (8 : Int32)) + (8 : Int32)) ≤ tl then
      l_Ta_placeAt_28 tf tl a0 9 (7 : Int32) (0 : Int64)
    else
      (0 : Int64)
set_option maxHeartbeats 4000000 in
set_option maxRecDepth 100000 in
theorem c_Ta_placeAt (l : Launch) (G : va_G) (cB cL cI : ClassId) (Hp : Heap) (h6 : Nat) (h7 : Nat) (tn : Nat) (tf : Nat → Int32) (tl : Int32) (a0 : Int32) (hP : va_P G vwCl [(h6, .inr (3, [.ref h7, .int tl])), (h7, .inl (cB, tn, .inl tf))] Hp) (ha : a0.toInt < 8192) (htl : tl.toInt ≤ tn) (htn : tn < 1073741824) : Met l yTa_placeAt wsTa_placeAt ({ frames := 0, cells := 0, slots := 0, locals := 0 }) (va_Pc [.ref h6, .int a0] (fun U => U.heap = Hp ∧ va_K G vwCl [(cB, .byte), (cL, .long), (cI, .int)] U)) (va_Ql (fun (r : Int64) (_ : Unit) => r = (f_Ta_placeAt tf tl a0)) (fun _ t => t.heap = Hp) (fun _ => False)) 0 0 (fun _ => False) := by
  refine Met.ofW (cc := cTa_placeAt) (maxL := 6) (ret := (some .long)) (by decide) rfl ?_
  intro p e s m args below meth c s₁ B hml hv
  obtain ⟨rfl, rfl, hK⟩ := hv
  have hx := B.exec
  have hb := B.bytes
  have hr := B.returns
  have hT : ∀ w ∈ tB, w.before _ s = true := fun w h => atoms_spec (ws := wsTa_placeAt) B.pre w (List.mem_cons_of_mem _ h)
  have hown : s.vm.findClass "CompiledProgram$Tape" = some m.cls := findClass_of_methodNamed B.named
  have hlocks := B.notSynchronized
  have hA : ∀ q : Nat, (fun _ : Nat => False) q → False := fun _ h => h
  have hS : va_S (fun _ => False) s.heap s.heap [] := va_S.rf
  have hl := lv_entry ([.ref h6, .int a0]) (n := 6) (Nat.le_of_ble_eq_true rfl)
  rw [lg_entry_eq]
  generalize (lg_sl ([.ref h6, .int a0]) ++ List.replicate (6 - (lg_sl ([.ref h6, .int a0])).length) Slot.unset).toArray = ls at hl ⊢
  have hl : lv_has ls 6 [(0, .ref h6), (1, .int a0)] := hl
  refine lv_iload_n hx hb dTa_placeAt_0 rfl (lv_at hl 1 rfl) ?_
  refine lv_bipush (v := (8 : Int32)) hx hb dTa_placeAt_1 (by decide) ?_
  refine lv_imul hx hb dTa_placeAt_3 ?_
  refine lv_istore_n (lv' := [(2, .int (a0 * (8 : Int32))), (0, .ref h6), (1, .int a0)]) hx hb dTa_placeAt_4 rfl hl (by decide) rfl (fun ls hl => ?_)
  refine lv_iload_n hx hb dTa_placeAt_5 rfl (lv_at hl 2 rfl) ?_
  refine lv_if_lt (tgt := 20) hx hb dTa_placeAt_6 (by decide) (fun c1 => ?_) (fun c1 => ?_)
  · skip
    refine lv_lconst (v := (0 : Int64)) hx hb dTa_placeAt_20 (by decide) ?_
    exact W.lret (v := (0 : Int64)) hx hb hr (fun t ht hW => ⟨⟨(0 : Int64), (), rfl, (by unfold f_Ta_placeAt; rw [if_pos c1]; try rfl), ht⟩, hS.F ht⟩) hS.2.2 dTa_placeAt_21
  · skip
    refine lv_iload_n hx hb dTa_placeAt_9 rfl (lv_at hl 0 rfl) ?_
    refine lv_bipush (v := (8 : Int32)) hx hb dTa_placeAt_10 (by decide) ?_
    refine lv_iadd hx hb dTa_placeAt_12 ?_
    refine lv_aload_n hx hb dTa_placeAt_13 rfl (lv_at hl 1 rfl) ?_
    refine va_get (D := G) (ci := 3) (v := .int tl) (C := RTa) (T := TTa) (N := 2) hx hb hT inTa hown hK hP 0 rfl rfl 1 (by decide) (hT _ mw_36) (fun _ h9 => h9) rfl dTa_placeAt_14 ?_
    refine lv_icmp_le (tgt := 22) hx hb dTa_placeAt_17 (by decide) (fun c2 => ?_) (fun c2 => ?_)
    · skip
      refine lv_lconst (v := (0 : Int64)) hx hb dTa_placeAt_22 (by decide) ?_
      refine lv_lstore_n (lv' := [(3, .long (0 : Int64)), (2, .int (a0 * (8 : Int32))), (0, .ref h6), (1, .int a0)]) hx hb dTa_placeAt_23 rfl hl (by decide) rfl (fun ls hl => ?_)
      refine lv_bipush (v := (7 : Int32)) hx hb dTa_placeAt_24 (by decide) ?_
      refine lv_istore (lv' := [(5, .int (7 : Int32)), (3, .long (0 : Int64)), (2, .int (a0 * (8 : Int32))), (0, .ref h6), (1, .int a0)]) hx hb dTa_placeAt_26 hl (by decide) rfl (fun ls hl => ?_)
      have loop : ∀ (n : Nat) (k : Int32) (v : Int64), (¬ a0 < 0) → (((a0 * (8 : Int32)) + (8 : Int32)) ≤ tl) → (-1 ≤ k.toInt) → (k.toInt < 8) → (k.toInt + 1).toNat < n → (f_Ta_placeAt tf tl a0) = l_Ta_placeAt_28 tf tl a0 n k v → ∀ (locs : List Loc), va_S (fun _ => False) s.heap s.heap locs → ∀ (ls : Array Slot), lv_has ls 6 [(5, .int k), (3, .long v), (2, .int (a0 * (8 : Int32))), (0, .ref h6), (1, .int a0)] → W p l e (headSpec wsTa_placeAt ({ frames := 0, cells := 0, slots := 0, locals := 0 })).room s m ([.ref h6, .int a0] : List Value).toArray below meth c s.heap locs 0 0 (MQ below (va_Ql (fun (r : Int64) (_ : Unit) => r = (f_Ta_placeAt tf tl a0)) (fun _ t => t.heap = s.heap) (fun _ => False)) ([.ref h6, .int a0] : List Value).toArray s 0 0 (fun _ => False)) (F0 m 28 ls []) := by
        intro n
        induction n with
        | zero =>
          intro k v hA0 hB0 hk1 hk2 hM
          exact absurd hM (Nat.not_lt_zero _)
        | succ n ih =>
          intro k v hA0 hB0 hk1 hk2 hM hE locs hS ls hl
          refine lv_iload hx hb dTa_placeAt_28 (lv_at hl 0 rfl) ?_
          refine lv_if_lt (tgt := 59) hx hb dTa_placeAt_30 (by decide) (fun c3 => ?_) (fun c3 => ?_)
          · skip
            refine lv_lload_n hx hb dTa_placeAt_59 rfl (lv_at hl 1 rfl) ?_
            exact W.lret (v := v) hx hb hr (fun t ht hW => ⟨⟨v, (), rfl, (by rw [hE, l_Ta_placeAt_28, if_pos c3]; try rfl), ht⟩, hS.F ht⟩) hS.2.2 dTa_placeAt_60
          · skip
            refine lv_lload_n hx hb dTa_placeAt_33 rfl (lv_at hl 1 rfl) ?_
            refine lv_bipush (v := (8 : Int32)) hx hb dTa_placeAt_34 (by decide) ?_
            refine lv_lshl (v := (j_lshl v (8 : Int32))) hx hb dTa_placeAt_36 rfl ?_
            refine lv_aload_n hx hb dTa_placeAt_37 rfl (lv_at hl 3 rfl) ?_
            refine va_get (D := G) (ci := 3) (v := .ref h7) (C := RTa) (T := TTa) (N := 2) hx hb hT inTa hown hK hP 0 rfl rfl 0 (by decide) (hT _ mw_35) (fun _ h9 => h9) rfl dTa_placeAt_38 ?_
            refine lv_iload_n hx hb dTa_placeAt_41 rfl (lv_at hl 2 rfl) ?_
            refine lv_iload hx hb dTa_placeAt_42 (lv_at hl 0 rfl) ?_
            refine lv_iadd hx hb dTa_placeAt_44 ?_
            refine va_bald hx hb hK hP 1 0 rfl rfl (pl_in ha htl hA0 hB0 hk2 c3) dTa_placeAt_45 ?_
            refine lv_sipush (v := (255 : Int32)) hx hb dTa_placeAt_46 (by decide) ?_
            refine lv_iand hx hb dTa_placeAt_49 ?_
            refine lv_i2l hx hb dTa_placeAt_50 rfl ?_
            refine lv_lor hx hb dTa_placeAt_51 ?_
            refine lv_lstore_n (lv' := [(3, .long ((j_lshl v (8 : Int32)) ||| (((tf ((a0 * (8 : Int32)) + k).toNatClampNeg) &&& (255 : Int32)).toInt64))), (5, .int k), (2, .int (a0 * (8 : Int32))), (0, .ref h6), (1, .int a0)]) hx hb dTa_placeAt_52 rfl hl (by decide) rfl (fun ls hl => ?_)
            refine lv_iinc (v := (k + (-1 : Int32))) (lv' := [(5, .int (k + (-1 : Int32))), (3, .long ((j_lshl v (8 : Int32)) ||| (((tf ((a0 * (8 : Int32)) + k).toNatClampNeg) &&& (255 : Int32)).toInt64))), (2, .int (a0 * (8 : Int32))), (0, .ref h6), (1, .int a0)]) hx hb dTa_placeAt_53 hl (k := 1) rfl (by first | rfl | decide) (by decide) rfl (fun ls hl => ?_)
            refine lv_goto (tgt := 28) hx hb dTa_placeAt_56 (by decide) ?_
            exact ih (k + (-1 : Int32)) ((j_lshl v (8 : Int32)) ||| (((tf ((a0 * (8 : Int32)) + k).toNatClampNeg) &&& (255 : Int32)).toInt64)) hA0 hB0 (rd_b1 c3) (pl_b2 c3 hk2) (rd_b3 c3 hM) (by rw [hE, l_Ta_placeAt_28, if_neg c3]) _ hS ls (lv_sub hl [0, 1, 2, 3, 4] rfl)
      exact loop 9 (7 : Int32) (0 : Int64) c1 c2 (by decide) (by decide) (by decide) (by unfold f_Ta_placeAt; rw [if_neg c1, if_pos c2]) _ hS ls (lv_sub hl [0, 1, 2, 3, 4] rfl)
    · skip
      refine lv_lconst (v := (0 : Int64)) hx hb dTa_placeAt_20 (by decide) ?_
      exact W.lret (v := (0 : Int64)) hx hb hr (fun t ht hW => ⟨⟨(0 : Int64), (), rfl, (by unfold f_Ta_placeAt; rw [if_neg c1, if_neg c2]; try rfl), ht⟩, hS.F ht⟩) hS.2.2 dTa_placeAt_21
