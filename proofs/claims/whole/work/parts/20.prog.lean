def f_Pr_has (cnt : Int32) (a0 : Int64) : Bool :=
  if a0 < (0 : Int64) then
    false
  else
    if ((cnt).toInt64) ≤ a0 then
      false
    else
      true
set_option maxHeartbeats 4000000 in
set_option maxRecDepth 100000 in
theorem c_Pr_has (l : Launch) (G : va_G) (cB cL cI : ClassId) (Hp : Heap) (h0 : Nat) (h1 : Nat) (pn : Nat) (pf : Nat → Int64) (cnt : Int32) (a0 : Int64) (hP : va_P G vwCl [(h0, .inr (0, [.ref h1, .int cnt])), (h1, .inl (cL, pn, .inr (.inl pf)))] Hp) : Met l yPr_has wsPr_has ({ frames := 0, cells := 0, slots := 0, locals := 0 }) (va_Pc [.ref h0, .long a0] (fun U => U.heap = Hp ∧ va_K G vwCl [(cB, .byte), (cL, .long), (cI, .int)] U)) (va_Qi (fun (r : Int32) (_ : Unit) => r = bI (f_Pr_has cnt a0)) (fun _ t => t.heap = Hp) (fun _ => False)) 0 0 (fun _ => False) := by
  refine Met.ofW (cc := cPr_has) (maxL := 3) (ret := (some .boolean)) (by decide) rfl ?_
  intro p e s m args below meth c s₁ B hml hv
  obtain ⟨rfl, rfl, hK⟩ := hv
  have hx := B.exec
  have hb := B.bytes
  have hr := B.returns
  have hT : ∀ w ∈ tB, w.before _ s = true := fun w h => atoms_spec (ws := wsPr_has) B.pre w (List.mem_cons_of_mem _ h)
  have hown : s.vm.findClass "CompiledProgram$Program" = some m.cls := findClass_of_methodNamed B.named
  have hlocks := B.notSynchronized
  have hA : ∀ q : Nat, (fun _ : Nat => False) q → False := fun _ h => h
  have hS : va_S (fun _ => False) s.heap s.heap [] := va_S.rf
  have hl := lv_entry ([.ref h0, .long a0]) (n := 3) (Nat.le_of_ble_eq_true rfl)
  rw [lg_entry_eq]
  generalize (lg_sl ([.ref h0, .long a0]) ++ List.replicate (3 - (lg_sl ([.ref h0, .long a0])).length) Slot.unset).toArray = ls at hl ⊢
  have hl : lv_has ls 3 [(0, .ref h0), (1, .long a0)] := hl
  refine lv_lload_n hx hb dPr_has_0 rfl (lv_at hl 1 rfl) ?_
  refine lv_lconst (v := (0 : Int64)) hx hb dPr_has_1 (by decide) ?_
  refine W.lcmp hx hb dPr_has_2 ?_
  refine lv_if_lt (tgt := 20) hx hb dPr_has_3 (by decide) (fun c1 => ?_) (fun c1 => ?_)
  · have c1 := (lg_cmp_lt _ _).mp c1
    refine lv_iconst (v := (0 : Int32)) hx hb dPr_has_20 (by decide) ?_
    exact W.zret (v := (0 : Int32)) hx hb hr rfl (fun t ht hW => ⟨⟨(0 : Int32), (), rfl, (by unfold f_Pr_has; rw [if_pos c1]; try rfl), ht⟩, hS.F ht⟩) hS.2.2 dPr_has_21
  · have c1 := mt (lg_cmp_lt _ _).mpr c1
    refine lv_lload_n hx hb dPr_has_6 rfl (lv_at hl 1 rfl) ?_
    refine lv_aload_n hx hb dPr_has_7 rfl (lv_at hl 0 rfl) ?_
    refine va_get (D := G) (ci := 0) (v := .int cnt) (C := RPr) (T := TPr) (N := 2) hx hb hT inPr hown hK hP 0 rfl rfl 1 (by decide) (hT _ mw_52) (fun _ h9 => h9) rfl dPr_has_8 ?_
    refine lv_i2l hx hb dPr_has_11 rfl ?_
    refine W.lcmp hx hb dPr_has_12 ?_
    refine lv_if_ge (tgt := 20) hx hb dPr_has_13 (by decide) (fun c2 => ?_) (fun c2 => ?_)
    · have c2 := (lg_cmp_ge _ _).mp c2
      refine lv_iconst (v := (0 : Int32)) hx hb dPr_has_20 (by decide) ?_
      exact W.zret (v := (0 : Int32)) hx hb hr rfl (fun t ht hW => ⟨⟨(0 : Int32), (), rfl, (by unfold f_Pr_has; rw [if_neg c1, if_pos c2]; try rfl), ht⟩, hS.F ht⟩) hS.2.2 dPr_has_21
    · have c2 := mt (lg_cmp_ge _ _).mpr c2
      refine lv_iconst (v := (1 : Int32)) hx hb dPr_has_16 (by decide) ?_
      refine lv_goto (tgt := 21) hx hb dPr_has_17 (by decide) ?_
      exact W.zret (v := (1 : Int32)) hx hb hr rfl (fun t ht hW => ⟨⟨(1 : Int32), (), rfl, (by unfold f_Pr_has; rw [if_neg c1, if_neg c2]; try rfl), ht⟩, hS.F ht⟩) hS.2.2 dPr_has_21

theorem has_spec {cnt : Int32} {x : Int64} (h : (f_Pr_has cnt x) = true) : 0 ≤ x.toInt ∧ x.toInt < cnt.toInt := by
  unfold f_Pr_has at h
  by_cases c1 : x < (0 : Int64)
  · rw [if_pos c1] at h; cases h
  · rw [if_neg c1] at h
    by_cases c2 : ((cnt).toInt64) ≤ x
    · rw [if_pos c2] at h; cases h
    · have c1 := l_nlt c1
      have c2 := l_nle c2
      rw [l_0] at c1
      rw [Int32.toInt_toInt64] at c2
      exact ⟨c1, c2⟩
theorem pr_in {cnt a0 : Int32} {pn : Nat} (hc : cnt.toInt ≤ pn) (h : (f_Pr_has cnt ((a0).toInt64)) = true) : vp_in a0 pn := by
  have h := has_spec h
  rw [Int32.toInt_toInt64] at h
  rw [vp_in_iff]; omega
theorem fw_fuel {cnt : Int32} : (cnt.toInt - (0 : Int32).toInt).toNat < cnt.toNatClampNeg + 1 := by
  rw [i_0, Int.sub_zero, Int32.toNat_toInt]; omega
theorem fw_inv {cnt p q : Int32} {pn : Nat} (hc : cnt.toInt ≤ pn) (hn : pn < 1073741824) (hp : 0 ≤ p.toInt) (c : ¬ cnt ≤ p) (hq : q = p + (1 : Int32) ∨ q = p + (1 : Int32) + (1 : Int32)) : 0 ≤ q.toInt ∧ (cnt.toInt - q.toInt).toNat < (cnt.toInt - p.toInt).toNat := by
  have c := i_nle c
  have e1 : (p + (1 : Int32)).toInt = p.toInt + 1 := by
    rw [i_add (by rw [i_1]; omega) (by rw [i_1]; omega), i_1]
  rcases hq with rfl | rfl
  · rw [e1]; omega
  · have e2 : (p + (1 : Int32) + (1 : Int32)).toInt = p.toInt + 2 := by
      rw [i_add (by rw [i_1, e1]; omega) (by rw [i_1, e1]; omega), i_1, e1]; omega
    rw [e2]; omega
def f_Pr_at (pf : Nat → Int64) (cnt : Int32) (a0 : Int32) : Int64 :=
  if (f_Pr_has cnt ((a0).toInt64)) = true then
    (pf a0.toNatClampNeg)
  else
    (0 : Int64)
set_option maxHeartbeats 4000000 in
set_option maxRecDepth 100000 in
theorem c_Pr_at (l : Launch) (G : va_G) (cB cL cI : ClassId) (Hp : Heap) (h0 : Nat) (h1 : Nat) (pn : Nat) (pf : Nat → Int64) (cnt : Int32) (a0 : Int32) (hP : va_P G vwCl [(h0, .inr (0, [.ref h1, .int cnt])), (h1, .inl (cL, pn, .inr (.inl pf)))] Hp) (hc : cnt.toInt ≤ pn) : Met l yPr_at wsPr_at ({ frames := 1, cells := 0, slots := 0, locals := 22 }) (va_Pc [.ref h0, .int a0] (fun U => U.heap = Hp ∧ va_K G vwCl [(cB, .byte), (cL, .long), (cI, .int)] U)) (va_Ql (fun (r : Int64) (_ : Unit) => r = (f_Pr_at pf cnt a0)) (fun _ t => t.heap = Hp) (fun _ => False)) 0 0 (fun _ => False) := by
  refine Met.ofW (cc := cPr_at) (maxL := 2) (ret := (some .long)) (by decide) rfl ?_
  intro p e s m args below meth c s₁ B hml hv
  obtain ⟨rfl, rfl, hK⟩ := hv
  have hx := B.exec
  have hb := B.bytes
  have hr := B.returns
  have hT : ∀ w ∈ tB, w.before _ s = true := fun w h => atoms_spec (ws := wsPr_at) B.pre w (List.mem_cons_of_mem _ h)
  have hown : s.vm.findClass "CompiledProgram$Program" = some m.cls := findClass_of_methodNamed B.named
  have hlocks := B.notSynchronized
  have hA : ∀ q : Nat, (fun _ : Nat => False) q → False := fun _ h => h
  have hS : va_S (fun _ => False) s.heap s.heap [] := va_S.rf
  have hl := lv_entry ([.ref h0, .int a0]) (n := 2) (Nat.le_of_ble_eq_true rfl)
  rw [lg_entry_eq]
  generalize (lg_sl ([.ref h0, .int a0]) ++ List.replicate (2 - (lg_sl ([.ref h0, .int a0])).length) Slot.unset).toArray = ls at hl ⊢
  have hl : lv_has ls 2 [(0, .ref h0), (1, .int a0)] := hl
  refine lv_aload_n hx hb dPr_at_0 rfl (lv_at hl 0 rfl) ?_
  refine lv_iload_n hx hb dPr_at_1 rfl (lv_at hl 1 rfl) ?_
  refine lv_i2l hx hb dPr_at_2 rfl ?_
  have hPc := hP.sub (ws' := [(h0, .inr (0, [.ref h1, .int cnt])), (h1, .inl (cL, pn, .inr (.inl pf)))]) [0, 1] rfl
  refine va_calli (va_runV (As := [.long ((a0).toInt64)]) (rest := []) ⟨hx, hb, hml, hown, hT⟩ (c_Pr_has l G cB cL cI s.heap h0 h1 pn pf cnt ((a0).toInt64) hPc ) (cwV 1 hT (gB_V mw_124 mw_125 mw_126 mw_3 mw_127) rfl rfl rfl (by decide +kernel) ⟨Nat.le_of_ble_eq_true rfl, Nat.le_of_ble_eq_true rfl⟩) ⟨fun a U g mk q => ⟨q.1, q.2.1, va_K.moved (u := U) (U := U.calling g mk a) (Vm.Alike.refl U.vm) q.2.2⟩, va_recv hK hPc (ci := 0) (q0 := 0) rfl rfl, fun U hU hW => ⟨rfl, hU, va_K.moved hW.alike hK⟩⟩ rfl rfl hl.1 rfl (lv_room (Nat.le_of_ble_eq_true rfl)) dPr_at_3 ⟨Nat.zero_le _, Nat.zero_le _⟩) hS (fun _ _ h => h.elim) (fun _ h => h.elim) (fun r u t H1 locs ht hvm hw hB hz8 hk8 hS => ?_)
  obtain rfl : s.heap = H1 := hB.symm.trans ht
  subst hw
  refine lv_if_eq (tgt := 18) hx hb dPr_at_6 (by decide) (fun c1 => ?_) (fun c1 => ?_)
  · have c1 := bI_z c1
    refine lv_lconst (v := (0 : Int64)) hx hb dPr_at_18 (by decide) ?_
    exact W.lret (v := (0 : Int64)) hx hb hr (fun t ht hW => ⟨⟨(0 : Int64), (), rfl, (by unfold f_Pr_at; rw [if_neg c1]; try rfl), ht⟩, hS.F ht⟩) hS.2.2 dPr_at_19
  · have c1 := bI_n c1
    refine lv_aload_n hx hb dPr_at_9 rfl (lv_at hl 0 rfl) ?_
    refine va_get (D := G) (ci := 0) (v := .ref h1) (C := RPr) (T := TPr) (N := 2) hx hb hT inPr hown hK hP 0 rfl rfl 0 (by decide) (hT _ mw_51) (fun _ h9 => h9) rfl dPr_at_10 ?_
    refine lv_iload_n hx hb dPr_at_13 rfl (lv_at hl 1 rfl) ?_
    refine va_lald hx hb hK hP 1 1 rfl rfl (pr_in hc c1) dPr_at_14 ?_
    refine lv_goto (tgt := 19) hx hb dPr_at_15 (by decide) ?_
    exact W.lret (v := (pf a0.toNatClampNeg)) hx hb hr (fun t ht hW => ⟨⟨(pf a0.toNatClampNeg), (), rfl, (by unfold f_Pr_at; rw [if_pos c1]; try rfl), ht⟩, hS.F ht⟩) hS.2.2 dPr_at_19
