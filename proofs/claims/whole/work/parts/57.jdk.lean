def f_Jm_max (a0 : Int32) (a1 : Int32) : Int32 :=
  if a0 < a1 then
    a1
  else
    a0
set_option maxHeartbeats 4000000 in
set_option maxRecDepth 100000 in
theorem c_Jm_max (l : Launch) (Hp : Heap) (a0 : Int32) (a1 : Int32) : Met l yJm_max wsJm_max ({ frames := 0, cells := 0, slots := 0, locals := 0 }) (va_Pc [.int a0, .int a1] (fun U => U.heap = Hp)) (va_Qi (fun (r : Int32) (_ : Unit) => r = f_Jm_max a0 a1) (fun _ t => t.heap = Hp) (fun _ => False)) 0 0 (fun _ => False) := by
  refine va_MetF (cc := cJm_max) (maxL := 2) (ret := (some .int)) (by decide +kernel) rfl ?_
  intro p e s m args below meth c s₁ B hml hv
  obtain ⟨rfl, rfl⟩ := hv
  have hx := B.exec
  have hb := B.bytes
  have hr := B.returns
  have hT : ∀ w ∈ tB, w.before _ s = true := fun w h => atoms_spec (ws := wsJm_max) B.pre w (List.mem_cons_of_mem _ h)
  have hown : s.vm.findClass "java/lang/Math" = some m.cls := findClass_of_methodNamed B.named
  have hlocks := B.notSynchronized
  have hS : va_S (fun _ => False) s.heap s.heap [] := va_S.rf
  have hl := lv_entry ([.int a0, .int a1]) (n := 2) (Nat.le_of_ble_eq_true rfl)
  rw [lg_entry_eq]
  generalize (lg_sl ([.int a0, .int a1]) ++ List.replicate (2 - (lg_sl ([.int a0, .int a1])).length) Slot.unset).toArray = ls at hl ⊢
  have hl : lv_has ls 2 [(0, .int a0), (1, .int a1)] := hl
  refine lv_iload_n hx hb dJm_max_0 rfl (lv_at hl 0 rfl) ?_
  refine lv_iload_n hx hb dJm_max_1 rfl (lv_at hl 1 rfl) ?_
  refine lv_icmp_lt (tgt := 9) hx hb dJm_max_2 (by decide) (fun c1 => ?_) (fun c1 => ?_)
  · skip
    refine lv_iload_n hx hb dJm_max_9 rfl (lv_at hl 1 rfl) ?_
    exact W.iret (v := a1) hx hb hr (fun t ht hW => ⟨⟨a1, (), rfl, (by unfold f_Jm_max; rw [if_pos c1]; try rfl), ht⟩, hS.F ht⟩) hS.2.2 dJm_max_10
  · skip
    refine lv_iload_n hx hb dJm_max_5 rfl (lv_at hl 0 rfl) ?_
    refine lv_goto (tgt := 10) hx hb dJm_max_6 (by decide) ?_
    exact W.iret (v := a0) hx hb hr (fun t ht hW => ⟨⟨a0, (), rfl, (by unfold f_Jm_max; rw [if_neg c1]; try rfl), ht⟩, hS.F ht⟩) hS.2.2 dJm_max_10
def f_Jm_min (a0 : Int32) (a1 : Int32) : Int32 :=
  if a1 < a0 then
    a1
  else
    a0
set_option maxHeartbeats 4000000 in
set_option maxRecDepth 100000 in
theorem c_Jm_min (l : Launch) (Hp : Heap) (a0 : Int32) (a1 : Int32) : Met l yJm_min wsJm_min ({ frames := 0, cells := 0, slots := 0, locals := 0 }) (va_Pc [.int a0, .int a1] (fun U => U.heap = Hp)) (va_Qi (fun (r : Int32) (_ : Unit) => r = f_Jm_min a0 a1) (fun _ t => t.heap = Hp) (fun _ => False)) 0 0 (fun _ => False) := by
  refine va_MetF (cc := cJm_min) (maxL := 2) (ret := (some .int)) (by decide +kernel) rfl ?_
  intro p e s m args below meth c s₁ B hml hv
  obtain ⟨rfl, rfl⟩ := hv
  have hx := B.exec
  have hb := B.bytes
  have hr := B.returns
  have hT : ∀ w ∈ tB, w.before _ s = true := fun w h => atoms_spec (ws := wsJm_min) B.pre w (List.mem_cons_of_mem _ h)
  have hown : s.vm.findClass "java/lang/Math" = some m.cls := findClass_of_methodNamed B.named
  have hlocks := B.notSynchronized
  have hS : va_S (fun _ => False) s.heap s.heap [] := va_S.rf
  have hl := lv_entry ([.int a0, .int a1]) (n := 2) (Nat.le_of_ble_eq_true rfl)
  rw [lg_entry_eq]
  generalize (lg_sl ([.int a0, .int a1]) ++ List.replicate (2 - (lg_sl ([.int a0, .int a1])).length) Slot.unset).toArray = ls at hl ⊢
  have hl : lv_has ls 2 [(0, .int a0), (1, .int a1)] := hl
  refine lv_iload_n hx hb dJm_min_0 rfl (lv_at hl 0 rfl) ?_
  refine lv_iload_n hx hb dJm_min_1 rfl (lv_at hl 1 rfl) ?_
  refine lv_icmp_gt (tgt := 9) hx hb dJm_min_2 (by decide) (fun c1 => ?_) (fun c1 => ?_)
  · skip
    refine lv_iload_n hx hb dJm_min_9 rfl (lv_at hl 1 rfl) ?_
    exact W.iret (v := a1) hx hb hr (fun t ht hW => ⟨⟨a1, (), rfl, (by unfold f_Jm_min; rw [if_pos c1]; try rfl), ht⟩, hS.F ht⟩) hS.2.2 dJm_min_10
  · skip
    refine lv_iload_n hx hb dJm_min_5 rfl (lv_at hl 0 rfl) ?_
    refine lv_goto (tgt := 10) hx hb dJm_min_6 (by decide) ?_
    exact W.iret (v := a0) hx hb hr (fun t ht hW => ⟨⟨a0, (), rfl, (by unfold f_Jm_min; rw [if_neg c1]; try rfl), ht⟩, hS.F ht⟩) hS.2.2 dJm_min_10
theorem dJa_copyOf_0 : decode cJa_copyOf 0 = .ok (.iload_n 1, 1) := by decide +kernel
theorem dJa_copyOf_1 : decode cJa_copyOf 1 = .ok (.aload_n 0, 1) := by decide +kernel
theorem dJa_copyOf_2 : decode cJa_copyOf 2 = .ok (.arraylength, 1) := by decide +kernel
theorem dJa_copyOf_3 : decode cJa_copyOf 3 = .ok (.if_icmp .ne 11, 3) := by decide +kernel
theorem dJa_copyOf_14 : decode cJa_copyOf 14 = .ok (.iload_n 1, 1) := by decide +kernel
theorem dJa_copyOf_15 : decode cJa_copyOf 15 = .ok (.newarray .byte, 2) := by decide +kernel
theorem dJa_copyOf_17 : decode cJa_copyOf 17 = .ok (.astore_n 2, 1) := by decide +kernel
theorem dJa_copyOf_18 : decode cJa_copyOf 18 = .ok (.aload_n 0, 1) := by decide +kernel
theorem dJa_copyOf_19 : decode cJa_copyOf 19 = .ok (.iconst 0, 1) := by decide +kernel
theorem dJa_copyOf_20 : decode cJa_copyOf 20 = .ok (.aload_n 2, 1) := by decide +kernel
theorem dJa_copyOf_21 : decode cJa_copyOf 21 = .ok (.iconst 0, 1) := by decide +kernel
theorem dJa_copyOf_22 : decode cJa_copyOf 22 = .ok (.aload_n 0, 1) := by decide +kernel
theorem dJa_copyOf_23 : decode cJa_copyOf 23 = .ok (.arraylength, 1) := by decide +kernel
theorem dJa_copyOf_24 : decode cJa_copyOf 24 = .ok (.iload_n 1, 1) := by decide +kernel
theorem dJa_copyOf_25 : decode cJa_copyOf 25 = .ok (.invokestatic 304, 3) := by decide +kernel
theorem dJa_copyOf_28 : decode cJa_copyOf 28 = .ok (.invokestatic 150, 3) := by decide +kernel
theorem dJa_copyOf_31 : decode cJa_copyOf 31 = .ok (.aload_n 2, 1) := by decide +kernel
theorem dJa_copyOf_32 : decode cJa_copyOf 32 = .ok (.areturn, 1) := by decide +kernel
theorem mn_eq {a b : Nat} (h : a < b) (hb : b ≤ 32768) : f_Jm_min (nI a) (nI b) = nI a := by
  unfold f_Jm_min
  have h1 : nI a ≤ nI b := nI_le (Nat.le_of_lt h) (by omega)
  have h2 : ¬ nI b < nI a := nI_nlt (Nat.le_of_lt h) (by omega)
  split <;> first | rfl | (exfalso; first | exact absurd h1 (by assumption) | exact h2 (by assumption))
set_option maxHeartbeats 4000000 in
set_option maxRecDepth 100000 in
/-- Arrays.copyOf of bytes to a greater length -/
theorem c_Ja_copyOf (l : Launch) (G : va_G) (cB cL cI : ClassId) (Hp : Heap) (h7 tn m9 : Nat) (tf : Nat → Int32) (hP : va_P G vwCl [(h7, .inl (cB, tn, .inl tf))] Hp) (hD : va_D (fun _ => True) [(h7, .inl (cB, tn, .inl tf))]) (hm0 : tn < m9) (hm1 : m9 ≤ 32768) (hft : ∀ j, fits .byte (.int (tf j)) = true) : Met l yJa_copyOf wsJa_copyOf ({ frames := 1, cells := 1, slots := m9, locals := 21 }) (va_Pc [.ref h7, .int (nI m9)] (fun U => U.heap = Hp ∧ va_K G vwCl [(cB, .byte), (cL, .long), (cI, .int)] U)) (va_Qr (fun (_ : Unit) => True) (fun _ a t => va_P G vwCl [(h7, .inl (cB, tn, .inl tf)), (a, .inl (cB, m9, .inl (va_cpy tf (fun _ => 0) 0 0 tn)))] t.heap ∧ va_D (va_A [(h7, .inl (cB, tn, .inl tf))] Hp.size) [(h7, .inl (cB, tn, .inl tf)), (a, .inl (cB, m9, .inl (va_cpy tf (fun _ => 0) 0 0 tn)))]) (va_A [(h7, .inl (cB, tn, .inl tf))] Hp.size)) 1 m9 (va_A [(h7, .inl (cB, tn, .inl tf))] Hp.size) := by
  refine Met.ofW (cc := cJa_copyOf) (maxL := 3) (ret := (some (.array .byte))) (by decide) rfl ?_
  intro p e s m args below meth c s₁ B hml hv
  obtain ⟨rfl, rfl, hK⟩ := hv
  have hx := B.exec
  have hb := B.bytes
  have hr := B.returns
  have hT : ∀ w ∈ tB, w.before _ s = true := fun w h => atoms_spec (ws := wsJa_copyOf) B.pre w (List.mem_cons_of_mem _ h)
  have hown : s.vm.findClass "java/util/Arrays" = some m.cls := findClass_of_methodNamed B.named
  have hlocks := B.notSynchronized
  have hD := hD.self (sz := s.heap.size)
  generalize hAe : va_A [(h7, .inl (cB, tn, .inl tf))] s.heap.size = A at hD ⊢
  have hA : ∀ q : Nat, s.heap.size ≤ q → A q := fun q h => by rw [← hAe]; exact Or.inr h
  have hS : va_S A s.heap s.heap [] := va_S.rf
  have hl := lv_entry ([.ref h7, .int (nI m9)]) (n := 3) (Nat.le_of_ble_eq_true rfl)
  rw [lg_entry_eq]
  generalize (lg_sl ([.ref h7, .int (nI m9)]) ++ List.replicate (3 - (lg_sl ([.ref h7, .int (nI m9)])).length) Slot.unset).toArray = ls at hl ⊢
  have hl : lv_has ls 3 [(0, .ref h7), (1, .int (nI m9))] := hl
  refine lv_iload_n hx hb dJa_copyOf_0 rfl (lv_at hl 1 rfl) ?_
  refine lv_aload_n hx hb dJa_copyOf_1 rfl (lv_at hl 0 rfl) ?_
  refine va_alen (v := (nI tn)) hx hb hK hP 0 0 rfl rfl rfl dJa_copyOf_2 ?_
  refine lv_icmp_ne (tgt := 14) hx hb dJa_copyOf_3 (by decide) (fun c1 => ?_) (fun c1 => absurd ((nI_eq (by omega) (by omega)).mp c1) (by omega))
  refine lv_iload_n hx hb dJa_copyOf_14 rfl (lv_at hl 1 rfl) ?_
  refine va_newa (atype := .byte) (ty := .byte) (N' := m9) (a0 := (m9, .inl (fun _ => 0))) hx hb (hT _ mw_44) rfl hK hP hD hS hA (fun _ => rfl) (nI_pos (by omega)) (nI_clamp (by omega)) (by show m9 * 1 ≤ 536870912; omega) (Nat.le_of_ble_eq_true rfl) (by show 0 + m9 ≤ m9; omega) dJa_copyOf_15 (fun q1 cA H hK hP hD hS => ?_)
  obtain rfl : cB = cA := (k_byte hK).symm
  have hK := hK.sub (tys' := [(cB, .byte), (cL, .long), (cI, .int)]) [0, 1, 2] rfl
  have hP : va_P G vwCl [(h7, .inl (cB, tn, .inl tf)), (q1, .inl (cB, m9, .inl (fun _ => 0)))] H := hP
  have hD : va_D A [(h7, .inl (cB, tn, .inl tf)), (q1, .inl (cB, m9, .inl (fun _ => 0)))] := hD
  refine lv_astore_n (lv' := [(2, .ref q1), (0, .ref h7), (1, .int (nI m9))]) hx hb dJa_copyOf_17 rfl hl (by decide) rfl (fun ls hl => ?_)
  refine lv_aload_n hx hb dJa_copyOf_18 rfl (lv_at hl 1 rfl) ?_
  refine lv_iconst (v := (0 : Int32)) hx hb dJa_copyOf_19 (by decide) ?_
  refine lv_aload_n hx hb dJa_copyOf_20 rfl (lv_at hl 0 rfl) ?_
  refine lv_iconst (v := (0 : Int32)) hx hb dJa_copyOf_21 (by decide) ?_
  refine lv_aload_n hx hb dJa_copyOf_22 rfl (lv_at hl 1 rfl) ?_
  refine va_alen (v := (nI tn)) hx hb hK hP 0 0 rfl rfl rfl dJa_copyOf_23 ?_
  refine lv_iload_n hx hb dJa_copyOf_24 rfl (lv_at hl 2 rfl) ?_
  refine va_calli (va_runS (As := [.int (nI tn), .int (nI m9)]) (rest := [.int (0 : Int32), .ref q1, .int (0 : Int32), .ref h7]) ⟨hx, hb, hml, hown, hT⟩ (c_Jm_min l H (nI tn) (nI m9)) (va_cwS 2 hT (gB_SV mw_343 mw_331 mw_11 mw_332) rfl rfl rfl (by decide +kernel) ⟨Nat.le_of_ble_eq_true rfl, Nat.le_of_ble_eq_true rfl⟩) ⟨fun _ _ _ _ q => q, fun U hU hW => ⟨rfl, hU⟩⟩ rfl rfl hl.1 rfl (lv_room (Nat.le_of_ble_eq_true rfl)) dJa_copyOf_25 ⟨Nat.le_of_ble_eq_true rfl, by show 0 + m9 + 0 ≤ m9; omega⟩) hS (fun _ _ h => h.elim) (fun _ h => h.elim) (fun r u t H1 locs ht hvm hw hB hz8 hk8 hS => ?_)
  obtain rfl : H = H1 := hB.symm.trans ht
  subst hw
  rw [mn_eq hm0 hm1]
  refine va_copyi hx hb (by rw [hml]; exact hl.1.symm) hown (hT _ mw_344) (hT _ mw_346) (hT _ mw_345) (hT _ mw_13) hK hP hD hS 0 1 0 0 rfl rfl rfl rfl rfl (by decide) (by decide) (nI_pos (by omega)) (by rw [nI_clamp (by omega)]; exact Nat.le_of_eq (Nat.zero_add _)) (by rw [nI_clamp (by omega)]; show 0 + tn ≤ m9; omega) (fun i _ => hft _) (Nat.le_of_ble_eq_true rfl) (Nat.le_of_ble_eq_true rfl) dJa_copyOf_28 (fun H locs hP hD hS => ?_)
  rw [nI_clamp (by omega)] at hP hD
  have hP : va_P G vwCl [(h7, .inl (cB, tn, .inl tf)), (q1, .inl (cB, m9, .inl (va_cpy tf (fun _ => 0) 0 0 tn)))] H := hP
  have hD : va_D A [(h7, .inl (cB, tn, .inl tf)), (q1, .inl (cB, m9, .inl (va_cpy tf (fun _ => 0) 0 0 tn)))] := hD
  refine lv_aload_n hx hb dJa_copyOf_31 rfl (lv_at hl 0 rfl) ?_
  refine W.widen (k := 1) (n := m9) (Nat.le_of_ble_eq_true rfl) (by omega) ?_
  exact W.aret (v := .ref q1) hx hb hr (Or.inr ⟨_, rfl⟩) (Or.inr ⟨_, rfl⟩) (fun t ht hW => ⟨⟨(), q1, rfl, trivial, by rw [ht]; exact hP, hD⟩, hS.F ht⟩) hS.2.2 dJa_copyOf_32
