def f_Ma_takeTwoPlaces (rf : Nat → Int64) (a0 : Int64) (a1 : Int64) : (Nat → Int64) :=
  ((vp_updL rf (f_Fi_target a0).toNatClampNeg ((j_lshl ((f_Fi_immediate a1).toInt64) (32 : Int32)) ||| (f_Ar_lowest ((f_Fi_immediate a0).toInt64) (32 : Int32)))))
set_option maxHeartbeats 4000000 in
set_option maxRecDepth 100000 in
theorem c_Ma_takeTwoPlaces (l : Launch) (G : va_G) (cB cL cI : ClassId) (Hp : Heap) (h4 : Nat) (h5 : Nat) (h2 : Nat) (rf : Nat → Int64) (a0 : Int64) (a1 : Int64) (hP : va_P G vwCl [(h4, .inr (2, [.ref h5, .ref h2])), (h5, .inl (cL, 16, .inr (.inl rf)))] Hp) (hD : va_D (fun _ => True) [(h4, .inr (2, [.ref h5, .ref h2])), (h5, .inl (cL, 16, .inr (.inl rf)))]) : Met l yMa_takeTwoPlaces wsMa_takeTwoPlaces ({ frames := 1, cells := 0, slots := 0, locals := 22 }) (va_Pc [.ref h4, .long a0, .long a1] (fun U => U.heap = Hp ∧ va_K G vwCl [(cB, .byte), (cL, .long), (cI, .int)] U)) (va_Qv (fun (u : (Nat → Int64)) => u = (f_Ma_takeTwoPlaces rf a0 a1)) (fun (u : (Nat → Int64)) t => va_P G vwCl [(h4, .inr (2, [.ref h5, .ref h2])), (h5, .inl (cL, 16, .inr (.inl (u))))] t.heap ∧ va_D (va_A [(h4, .inr (2, [.ref h5, .ref h2])), (h5, .inl (cL, 16, .inr (.inl rf)))] Hp.size) [(h4, .inr (2, [.ref h5, .ref h2])), (h5, .inl (cL, 16, .inr (.inl (u))))]) (va_A [(h4, .inr (2, [.ref h5, .ref h2])), (h5, .inl (cL, 16, .inr (.inl rf)))] Hp.size)) 0 0 (va_A [(h4, .inr (2, [.ref h5, .ref h2])), (h5, .inl (cL, 16, .inr (.inl rf)))] Hp.size) := by
  refine Met.ofW (cc := cMa_takeTwoPlaces) (maxL := 7) (ret := none) (by decide) rfl ?_
  intro p e s m args below meth c s₁ B hml hv
  obtain ⟨rfl, rfl, hK⟩ := hv
  have hx := B.exec
  have hb := B.bytes
  have hr := B.returns
  have hT : ∀ w ∈ tB, w.before _ s = true := fun w h => atoms_spec (ws := wsMa_takeTwoPlaces) B.pre w (List.mem_cons_of_mem _ h)
  have hown : s.vm.findClass "CompiledProgram$Machine" = some m.cls := findClass_of_methodNamed B.named
  have hlocks := B.notSynchronized
  have hD := hD.self (sz := s.heap.size)
  generalize hAe : va_A [(h4, .inr (2, [.ref h5, .ref h2])), (h5, .inl (cL, 16, .inr (.inl rf)))] s.heap.size = A at hD ⊢
  have hA : ∀ q : Nat, s.heap.size ≤ q → A q := fun q h => by rw [← hAe]; exact Or.inr h
  have hS : va_S A s.heap s.heap [] := va_S.rf
  have hl := lv_entry ([.ref h4, .long a0, .long a1]) (n := 7) (Nat.le_of_ble_eq_true rfl)
  rw [lg_entry_eq]
  generalize (lg_sl ([.ref h4, .long a0, .long a1]) ++ List.replicate (7 - (lg_sl ([.ref h4, .long a0, .long a1])).length) Slot.unset).toArray = ls at hl ⊢
  have hl : lv_has ls 7 [(0, .ref h4), (1, .long a0), (3, .long a1)] := hl
  refine lv_lload_n hx hb dMa_takeTwoPlaces_0 rfl (lv_at hl 2 rfl) ?_
  refine va_calli (va_runS (As := [.long a1]) (rest := []) ⟨hx, hb, hml, hown, hT⟩ (c_Fi_immediate l s.heap a1) (va_cwS 1 hT (gB_SV mw_455 mw_153 mw_16 mw_154) rfl rfl rfl (by decide +kernel) ⟨Nat.le_of_ble_eq_true rfl, Nat.le_of_ble_eq_true rfl⟩) ⟨fun _ _ _ _ q => q, fun U hU hW => ⟨rfl, hU⟩⟩ rfl rfl hl.1 rfl (lv_room (Nat.le_of_ble_eq_true rfl)) dMa_takeTwoPlaces_1 ⟨Nat.zero_le _, Nat.zero_le _⟩) hS (fun _ _ h => h.elim) (fun _ h => h.elim) (fun r u t H1 locs ht hvm hw hB hz8 hk8 hS => ?_)
  obtain rfl : s.heap = H1 := hB.symm.trans ht
  subst hw
  refine lv_i2l hx hb dMa_takeTwoPlaces_4 rfl ?_
  refine lv_lstore (lv' := [(5, .long ((f_Fi_immediate a1).toInt64)), (0, .ref h4), (1, .long a0), (3, .long a1)]) hx hb dMa_takeTwoPlaces_5 hl (by decide) rfl (fun ls hl => ?_)
  refine lv_aload_n hx hb dMa_takeTwoPlaces_7 rfl (lv_at hl 1 rfl) ?_
  refine va_get (D := G) (ci := 2) (v := .ref h5) (C := RMa) (T := TMa) (N := 2) hx hb hT inMa hown hK hP 0 rfl rfl 0 (by decide) (hT _ mw_77) (fun _ h9 => h9) rfl dMa_takeTwoPlaces_8 ?_
  refine lv_lload_n hx hb dMa_takeTwoPlaces_11 rfl (lv_at hl 2 rfl) ?_
  refine va_calli (va_runS (As := [.long a0]) (rest := [.ref h5]) ⟨hx, hb, hml, hown, hT⟩ (c_Fi_target l s.heap a0) (va_cwS 1 hT (gB_SV mw_456 mw_147 mw_16 mw_148) rfl rfl rfl (by decide +kernel) ⟨Nat.le_of_ble_eq_true rfl, Nat.le_of_ble_eq_true rfl⟩) ⟨fun _ _ _ _ q => q, fun U hU hW => ⟨rfl, hU⟩⟩ rfl rfl hl.1 rfl (lv_room (Nat.le_of_ble_eq_true rfl)) dMa_takeTwoPlaces_12 ⟨Nat.zero_le _, Nat.zero_le _⟩) hS (fun _ _ h => h.elim) (fun _ h => h.elim) (fun r u t H1 locs ht hvm hw hB hz8 hk8 hS => ?_)
  obtain rfl : s.heap = H1 := hB.symm.trans ht
  subst hw
  refine lv_lload hx hb dMa_takeTwoPlaces_15 (lv_at hl 0 rfl) ?_
  refine lv_bipush (v := (32 : Int32)) hx hb dMa_takeTwoPlaces_17 (by decide) ?_
  refine lv_lshl (v := (j_lshl ((f_Fi_immediate a1).toInt64) (32 : Int32))) hx hb dMa_takeTwoPlaces_19 rfl ?_
  refine lv_lload_n hx hb dMa_takeTwoPlaces_20 rfl (lv_at hl 2 rfl) ?_
  refine va_calli (va_runS (As := [.long a0]) (rest := [.long (j_lshl ((f_Fi_immediate a1).toInt64) (32 : Int32)), .int (f_Fi_target a0), .ref h5]) ⟨hx, hb, hml, hown, hT⟩ (c_Fi_immediate l s.heap a0) (va_cwS 1 hT (gB_SV mw_455 mw_153 mw_16 mw_154) rfl rfl rfl (by decide +kernel) ⟨Nat.le_of_ble_eq_true rfl, Nat.le_of_ble_eq_true rfl⟩) ⟨fun _ _ _ _ q => q, fun U hU hW => ⟨rfl, hU⟩⟩ rfl rfl hl.1 rfl (lv_room (Nat.le_of_ble_eq_true rfl)) dMa_takeTwoPlaces_21 ⟨Nat.zero_le _, Nat.zero_le _⟩) hS (fun _ _ h => h.elim) (fun _ h => h.elim) (fun r u t H1 locs ht hvm hw hB hz8 hk8 hS => ?_)
  obtain rfl : s.heap = H1 := hB.symm.trans ht
  subst hw
  refine lv_i2l hx hb dMa_takeTwoPlaces_24 rfl ?_
  refine lv_bipush (v := (32 : Int32)) hx hb dMa_takeTwoPlaces_25 (by decide) ?_
  refine va_calll (va_runS (As := [.long ((f_Fi_immediate a0).toInt64), .int (32 : Int32)]) (rest := [.long (j_lshl ((f_Fi_immediate a1).toInt64) (32 : Int32)), .int (f_Fi_target a0), .ref h5]) ⟨hx, hb, hml, hown, hT⟩ (c_Ar_lowest l s.heap ((f_Fi_immediate a0).toInt64) (32 : Int32)) (va_cwS 2 hT (gB_SV mw_457 mw_458 mw_19 mw_459) rfl rfl rfl (by decide +kernel) ⟨Nat.le_of_ble_eq_true rfl, Nat.le_of_ble_eq_true rfl⟩) ⟨fun _ _ _ _ q => q, fun U hU hW => ⟨rfl, hU⟩⟩ rfl rfl hl.1 rfl (lv_room (Nat.le_of_ble_eq_true rfl)) dMa_takeTwoPlaces_27 ⟨Nat.zero_le _, Nat.zero_le _⟩) hS (fun _ _ h => h.elim) (fun _ h => h.elim) (fun r u t H1 locs ht hvm hw hB hz8 hk8 hS => ?_)
  obtain rfl : s.heap = H1 := hB.symm.trans ht
  subst hw
  refine lv_lor hx hb dMa_takeTwoPlaces_30 ?_
  refine va_last hx hb hK hP hD hS 1 1 rfl rfl (in_Fi_target a0) dMa_takeTwoPlaces_31 (fun H locs hP hD hS => ?_)
  have hP : va_P G vwCl [(h4, .inr (2, [.ref h5, .ref h2])), (h5, .inl (cL, 16, .inr (.inl (vp_updL rf (f_Fi_target a0).toNatClampNeg ((j_lshl ((f_Fi_immediate a1).toInt64) (32 : Int32)) ||| (f_Ar_lowest ((f_Fi_immediate a0).toInt64) (32 : Int32)))))))] H := hP
  have hD : va_D A [(h4, .inr (2, [.ref h5, .ref h2])), (h5, .inl (cL, 16, .inr (.inl (vp_updL rf (f_Fi_target a0).toNatClampNeg ((j_lshl ((f_Fi_immediate a1).toInt64) (32 : Int32)) ||| (f_Ar_lowest ((f_Fi_immediate a0).toInt64) (32 : Int32)))))))] := hD
  have hP9 := hP.sub (ws' := [(h4, .inr (2, [.ref h5, .ref h2])), (h5, .inl (cL, 16, .inr (.inl (vp_updL rf (f_Fi_target a0).toNatClampNeg ((j_lshl ((f_Fi_immediate a1).toInt64) (32 : Int32)) ||| (f_Ar_lowest ((f_Fi_immediate a0).toInt64) (32 : Int32)))))))]) [0, 1] rfl
  have hD9 := hD.sub (ws' := [(h4, .inr (2, [.ref h5, .ref h2])), (h5, .inl (cL, 16, .inr (.inl (vp_updL rf (f_Fi_target a0).toNatClampNeg ((j_lshl ((f_Fi_immediate a1).toInt64) (32 : Int32)) ||| (f_Ar_lowest ((f_Fi_immediate a0).toInt64) (32 : Int32)))))))]) [0, 1] (by decide) rfl
  exact W.vret hx hb hr (fun t ht hW => ⟨⟨((vp_updL rf (f_Fi_target a0).toNatClampNeg ((j_lshl ((f_Fi_immediate a1).toInt64) (32 : Int32)) ||| (f_Ar_lowest ((f_Fi_immediate a0).toInt64) (32 : Int32))))), rfl, rfl, by rw [ht]; exact hP9, hD9⟩, hS.F ht⟩) hS.2.2 dMa_takeTwoPlaces_32

def l_Ma_answerCall_6 (rf : Nat → Int64) (a0 : Int32) : Nat → (Int32) → (Int64) → (Nat → Int64) → (Nat → Int64)
  | 0, _, _, _ => default
  | n + 1, r9, v, g =>
    if (5 : Int32) < r9 then
      ((vp_updL g (0 : Int32).toNatClampNeg v))
    else
      l_Ma_answerCall_6 rf a0 n (r9 + (1 : Int32)) (((31 : Int64) * v) + (g r9.toNatClampNeg)) (vp_updL g r9.toNatClampNeg (0 : Int64))
def f_Ma_answerCall (rf : Nat → Int64) (a0 : Int32) : (Nat → Int64) :=
  l_Ma_answerCall_6 rf a0 6 (1 : Int32) ((a0).toInt64) rf
set_option maxHeartbeats 4000000 in
set_option maxRecDepth 100000 in
theorem c_Ma_answerCall (l : Launch) (G : va_G) (cB cL cI : ClassId) (Hp : Heap) (h4 : Nat) (h5 : Nat) (h2 : Nat) (rf : Nat → Int64) (a0 : Int32) (hP : va_P G vwCl [(h4, .inr (2, [.ref h5, .ref h2])), (h5, .inl (cL, 16, .inr (.inl rf)))] Hp) (hD : va_D (fun _ => True) [(h4, .inr (2, [.ref h5, .ref h2])), (h5, .inl (cL, 16, .inr (.inl rf)))]) : Met l yMa_answerCall wsMa_answerCall ({ frames := 0, cells := 0, slots := 0, locals := 0 }) (va_Pc [.ref h4, .int a0] (fun U => U.heap = Hp ∧ va_K G vwCl [(cB, .byte), (cL, .long), (cI, .int)] U)) (va_Qv (fun (u : (Nat → Int64)) => u = (f_Ma_answerCall rf a0)) (fun (u : (Nat → Int64)) t => va_P G vwCl [(h4, .inr (2, [.ref h5, .ref h2])), (h5, .inl (cL, 16, .inr (.inl (u))))] t.heap ∧ va_D (va_A [(h4, .inr (2, [.ref h5, .ref h2])), (h5, .inl (cL, 16, .inr (.inl rf)))] Hp.size) [(h4, .inr (2, [.ref h5, .ref h2])), (h5, .inl (cL, 16, .inr (.inl (u))))]) (va_A [(h4, .inr (2, [.ref h5, .ref h2])), (h5, .inl (cL, 16, .inr (.inl rf)))] Hp.size)) 0 0 (va_A [(h4, .inr (2, [.ref h5, .ref h2])), (h5, .inl (cL, 16, .inr (.inl rf)))] Hp.size) := by
  refine Met.ofW (cc := cMa_answerCall) (maxL := 5) (ret := none) (by decide) rfl ?_
  intro p e s m args below meth c s₁ B hml hv
  obtain ⟨rfl, rfl, hK⟩ := hv
  have hx := B.exec
  have hb := B.bytes
  have hr := B.returns
  have hT : ∀ w ∈ tB, w.before _ s = true := fun w h => atoms_spec (ws := wsMa_answerCall) B.pre w (List.mem_cons_of_mem _ h)
  have hown : s.vm.findClass "CompiledProgram$Machine" = some m.cls := findClass_of_methodNamed B.named
  have hlocks := B.notSynchronized
  have hD := hD.self (sz := s.heap.size)
  generalize hAe : va_A [(h4, .inr (2, [.ref h5, .ref h2])), (h5, .inl (cL, 16, .inr (.inl rf)))] s.heap.size = A at hD ⊢
  have hA : ∀ q : Nat, s.heap.size ≤ q → A q := fun q h => by rw [← hAe]; exact Or.inr h
  have hS : va_S A s.heap s.heap [] := va_S.rf
  have hl := lv_entry ([.ref h4, .int a0]) (n := 5) (Nat.le_of_ble_eq_true rfl)
  rw [lg_entry_eq]
  generalize (lg_sl ([.ref h4, .int a0]) ++ List.replicate (5 - (lg_sl ([.ref h4, .int a0])).length) Slot.unset).toArray = ls at hl ⊢
  have hl : lv_has ls 5 [(0, .ref h4), (1, .int a0)] := hl
  refine lv_iload_n hx hb dMa_answerCall_0 rfl (lv_at hl 1 rfl) ?_
  refine lv_i2l hx hb dMa_answerCall_1 rfl ?_
  refine lv_lstore_n (lv' := [(2, .long ((a0).toInt64)), (0, .ref h4), (1, .int a0)]) hx hb dMa_answerCall_2 rfl hl (by decide) rfl (fun ls hl => ?_)
  refine lv_iconst (v := (1 : Int32)) hx hb dMa_answerCall_3 (by decide) ?_
  refine lv_istore (lv' := [(4, .int (1 : Int32)), (2, .long ((a0).toInt64)), (0, .ref h4), (1, .int a0)]) hx hb dMa_answerCall_4 hl (by decide) rfl (fun ls hl => ?_)
  have loop : ∀ (n : Nat) (r9 : Int32) (v : Int64) (g : Nat → Int64), (1 ≤ r9.toInt) → (6 - r9.toInt).toNat < n → (f_Ma_answerCall rf a0) = l_Ma_answerCall_6 rf a0 n r9 v g → ∀ (H : Heap), va_P G vwCl [(h4, .inr (2, [.ref h5, .ref h2])), (h5, .inl (cL, 16, .inr (.inl g)))] H → va_D A [(h4, .inr (2, [.ref h5, .ref h2])), (h5, .inl (cL, 16, .inr (.inl g)))] → ∀ (locs : List Loc), va_S A s.heap H locs → ∀ (ls : Array Slot), lv_has ls 5 [(4, .int r9), (2, .long v), (0, .ref h4), (1, .int a0)] → W p l e (headSpec wsMa_answerCall ({ frames := 0, cells := 0, slots := 0, locals := 0 })).room s m ([.ref h4, .int a0] : List Value).toArray below meth c H locs 0 0 (MQ below (va_Qv (fun (u : (Nat → Int64)) => u = (f_Ma_answerCall rf a0)) (fun (u : (Nat → Int64)) t => va_P G vwCl [(h4, .inr (2, [.ref h5, .ref h2])), (h5, .inl (cL, 16, .inr (.inl (u))))] t.heap ∧ va_D (A) [(h4, .inr (2, [.ref h5, .ref h2])), (h5, .inl (cL, 16, .inr (.inl (u))))]) (A)) ([.ref h4, .int a0] : List Value).toArray s 0 0 A) (F0 m 6 ls []) := by
    intro n
    induction n with
    | zero =>
      intro r9 v g hr1 hM
      exact absurd hM (Nat.not_lt_zero _)
    | succ n ih =>
      intro r9 v g hr1 hM hE H hP hD locs hS ls hl
      refine lv_iload hx hb dMa_answerCall_6 (lv_at hl 0 rfl) ?_
      refine lv_iconst (v := (5 : Int32)) hx hb dMa_answerCall_8 (by decide) ?_
      refine lv_icmp_gt (tgt := 40) hx hb dMa_answerCall_9 (by decide) (fun c1 => ?_) (fun c1 => ?_)
      · skip
        refine lv_aload_n hx hb dMa_answerCall_40 rfl (lv_at hl 2 rfl) ?_
        refine va_get (D := G) (ci := 2) (v := .ref h5) (C := RMa) (T := TMa) (N := 2) hx hb hT inMa hown hK hP 0 rfl rfl 0 (by decide) (hT _ mw_77) (fun _ h9 => h9) rfl dMa_answerCall_41 ?_
        refine lv_iconst (v := (0 : Int32)) hx hb dMa_answerCall_44 (by decide) ?_
        refine lv_lload_n hx hb dMa_answerCall_45 rfl (lv_at hl 1 rfl) ?_
        refine va_last hx hb hK hP hD hS 1 1 rfl rfl (by unfold vp_in; decide) dMa_answerCall_46 (fun H locs hP hD hS => ?_)
        have hP : va_P G vwCl [(h4, .inr (2, [.ref h5, .ref h2])), (h5, .inl (cL, 16, .inr (.inl (vp_updL g (0 : Int32).toNatClampNeg v))))] H := hP
        have hD : va_D A [(h4, .inr (2, [.ref h5, .ref h2])), (h5, .inl (cL, 16, .inr (.inl (vp_updL g (0 : Int32).toNatClampNeg v))))] := hD
        have hP9 := hP.sub (ws' := [(h4, .inr (2, [.ref h5, .ref h2])), (h5, .inl (cL, 16, .inr (.inl (vp_updL g (0 : Int32).toNatClampNeg v))))]) [0, 1] rfl
        have hD9 := hD.sub (ws' := [(h4, .inr (2, [.ref h5, .ref h2])), (h5, .inl (cL, 16, .inr (.inl (vp_updL g (0 : Int32).toNatClampNeg v))))]) [0, 1] (by decide) rfl
        exact W.vret hx hb hr (fun t ht hW => ⟨⟨((vp_updL g (0 : Int32).toNatClampNeg v)), rfl, (by rw [hE, l_Ma_answerCall_6, if_pos c1]; try rfl), by rw [ht]; exact hP9, hD9⟩, hS.F ht⟩) hS.2.2 dMa_answerCall_47
      · skip
        refine lv_ldc2 (v := (31 : Int64)) hx hb hown (hT _ mw_506) dMa_answerCall_12 ?_
        refine lv_lload_n hx hb dMa_answerCall_15 rfl (lv_at hl 1 rfl) ?_
        refine lv_lmul hx hb dMa_answerCall_16 ?_
        refine lv_aload_n hx hb dMa_answerCall_17 rfl (lv_at hl 2 rfl) ?_
        refine va_get (D := G) (ci := 2) (v := .ref h5) (C := RMa) (T := TMa) (N := 2) hx hb hT inMa hown hK hP 0 rfl rfl 0 (by decide) (hT _ mw_77) (fun _ h9 => h9) rfl dMa_answerCall_18 ?_
        refine lv_iload hx hb dMa_answerCall_21 (lv_at hl 0 rfl) ?_
        refine va_lald hx hb hK hP 1 1 rfl rfl (an_in hr1 c1) dMa_answerCall_23 ?_
        refine lv_ladd hx hb dMa_answerCall_24 ?_
        refine lv_lstore_n (lv' := [(2, .long (((31 : Int64) * v) + (g r9.toNatClampNeg))), (4, .int r9), (0, .ref h4), (1, .int a0)]) hx hb dMa_answerCall_25 rfl hl (by decide) rfl (fun ls hl => ?_)
        refine lv_aload_n hx hb dMa_answerCall_26 rfl (lv_at hl 2 rfl) ?_
        refine va_get (D := G) (ci := 2) (v := .ref h5) (C := RMa) (T := TMa) (N := 2) hx hb hT inMa hown hK hP 0 rfl rfl 0 (by decide) (hT _ mw_77) (fun _ h9 => h9) rfl dMa_answerCall_27 ?_
        refine lv_iload hx hb dMa_answerCall_30 (lv_at hl 1 rfl) ?_
        refine lv_lconst (v := (0 : Int64)) hx hb dMa_answerCall_32 (by decide) ?_
        refine va_last hx hb hK hP hD hS 1 1 rfl rfl (an_in hr1 c1) dMa_answerCall_33 (fun H locs hP hD hS => ?_)
        have hP : va_P G vwCl [(h4, .inr (2, [.ref h5, .ref h2])), (h5, .inl (cL, 16, .inr (.inl (vp_updL g r9.toNatClampNeg (0 : Int64)))))] H := hP
        have hD : va_D A [(h4, .inr (2, [.ref h5, .ref h2])), (h5, .inl (cL, 16, .inr (.inl (vp_updL g r9.toNatClampNeg (0 : Int64)))))] := hD
        refine lv_iinc (v := (r9 + (1 : Int32))) (lv' := [(4, .int (r9 + (1 : Int32))), (2, .long (((31 : Int64) * v) + (g r9.toNatClampNeg))), (0, .ref h4), (1, .int a0)]) hx hb dMa_answerCall_34 hl (k := 1) rfl (by first | rfl | decide) (by decide) rfl (fun ls hl => ?_)
        refine lv_goto (tgt := 6) hx hb dMa_answerCall_37 (by decide) ?_
        exact ih (r9 + (1 : Int32)) (((31 : Int64) * v) + (g r9.toNatClampNeg)) (vp_updL g r9.toNatClampNeg (0 : Int64)) (an_b1 hr1 c1) (an_b2 hr1 c1 hM) (by rw [hE, l_Ma_answerCall_6, if_neg c1]) _ hP hD _ hS ls (lv_sub hl [0, 1, 2, 3] rfl)
  exact loop 6 (1 : Int32) ((a0).toInt64) rf (by decide) (by decide) rfl _ hP hD _ hS ls (lv_sub hl [0, 1, 2, 3] rfl)

def f_Ma_read (rf : Nat → Int64) (mf : Nat → Int32) (a0 : Int64) : Bool × (Nat → Int64) :=
  if (f_Me_holds ((f_Ma_y rf a0) + ((f_Fi_offset a0).toInt64)) (f_Fi_size a0)) = true then
    if (f_Fi_mode a0) = (4 : Int32) then
      (true, (vp_updL rf (f_Fi_target a0).toNatClampNeg (f_Ar_signed (f_Me_read mf ((f_Ma_y rf a0) + ((f_Fi_offset a0).toInt64)) (f_Fi_size a0)) ((8 : Int32) * (f_Fi_size a0)))))
    else
      (true, (vp_updL rf (f_Fi_target a0).toNatClampNeg (f_Me_read mf ((f_Ma_y rf a0) + ((f_Fi_offset a0).toInt64)) (f_Fi_size a0))))
  else
    (false, rf)
set_option maxHeartbeats 4000000 in
set_option maxRecDepth 100000 in
theorem c_Ma_read (l : Launch) (G : va_G) (cB cL cI : ClassId) (Hp : Heap) (h4 : Nat) (h5 : Nat) (rf : Nat → Int64) (h2 : Nat) (h3 : Nat) (mf : Nat → Int32) (a0 : Int64) (hP : va_P G vwCl [(h4, .inr (2, [.ref h5, .ref h2])), (h5, .inl (cL, 16, .inr (.inl rf))), (h2, .inr (1, [.ref h3])), (h3, .inl (cB, 4096, .inl mf))] Hp) (hD : va_D (fun _ => True) [(h4, .inr (2, [.ref h5, .ref h2])), (h5, .inl (cL, 16, .inr (.inl rf))), (h2, .inr (1, [.ref h3])), (h3, .inl (cB, 4096, .inl mf))]) : Met l yMa_read wsMa_read ({ frames := 2, cells := 0, slots := 0, locals := 52 }) (va_Pc [.ref h4, .long a0] (fun U => U.heap = Hp ∧ va_K G vwCl [(cB, .byte), (cL, .long), (cI, .int)] U)) (va_Qi (fun (r : Int32) (u : (Nat → Int64)) => r = bI ((f_Ma_read rf mf a0)).1 ∧ u = ((f_Ma_read rf mf a0)).2) (fun (u : (Nat → Int64)) t => va_P G vwCl [(h4, .inr (2, [.ref h5, .ref h2])), (h5, .inl (cL, 16, .inr (.inl (u)))), (h2, .inr (1, [.ref h3])), (h3, .inl (cB, 4096, .inl mf))] t.heap ∧ va_D (va_A [(h4, .inr (2, [.ref h5, .ref h2])), (h5, .inl (cL, 16, .inr (.inl rf))), (h2, .inr (1, [.ref h3])), (h3, .inl (cB, 4096, .inl mf))] Hp.size) [(h4, .inr (2, [.ref h5, .ref h2])), (h5, .inl (cL, 16, .inr (.inl (u)))), (h2, .inr (1, [.ref h3])), (h3, .inl (cB, 4096, .inl mf))]) (va_A [(h4, .inr (2, [.ref h5, .ref h2])), (h5, .inl (cL, 16, .inr (.inl rf))), (h2, .inr (1, [.ref h3])), (h3, .inl (cB, 4096, .inl mf))] Hp.size)) 0 0 (va_A [(h4, .inr (2, [.ref h5, .ref h2])), (h5, .inl (cL, 16, .inr (.inl rf))), (h2, .inr (1, [.ref h3])), (h3, .inl (cB, 4096, .inl mf))] Hp.size) := by
  refine Met.ofW (cc := cMa_read) (maxL := 8) (ret := (some .boolean)) (by decide) rfl ?_
  intro p e s m args below meth c s₁ B hml hv
  obtain ⟨rfl, rfl, hK⟩ := hv
  have hx := B.exec
  have hb := B.bytes
  have hr := B.returns
  have hT : ∀ w ∈ tB, w.before _ s = true := fun w h => atoms_spec (ws := wsMa_read) B.pre w (List.mem_cons_of_mem _ h)
  have hown : s.vm.findClass "CompiledProgram$Machine" = some m.cls := findClass_of_methodNamed B.named
  have hlocks := B.notSynchronized
  have hD := hD.self (sz := s.heap.size)
  generalize hAe : va_A [(h4, .inr (2, [.ref h5, .ref h2])), (h5, .inl (cL, 16, .inr (.inl rf))), (h2, .inr (1, [.ref h3])), (h3, .inl (cB, 4096, .inl mf))] s.heap.size = A at hD ⊢
  have hA : ∀ q : Nat, s.heap.size ≤ q → A q := fun q h => by rw [← hAe]; exact Or.inr h
  have hS : va_S A s.heap s.heap [] := va_S.rf
  have hl := lv_entry ([.ref h4, .long a0]) (n := 8) (Nat.le_of_ble_eq_true rfl)
  rw [lg_entry_eq]
  generalize (lg_sl ([.ref h4, .long a0]) ++ List.replicate (8 - (lg_sl ([.ref h4, .long a0])).length) Slot.unset).toArray = ls at hl ⊢
  have hl : lv_has ls 8 [(0, .ref h4), (1, .long a0)] := hl
  refine lv_lload_n hx hb dMa_read_0 rfl (lv_at hl 1 rfl) ?_
  refine va_calli (va_runS (As := [.long a0]) (rest := []) ⟨hx, hb, hml, hown, hT⟩ (c_Fi_size l s.heap a0) (va_cwS 1 hT (gB_SV mw_464 mw_162 mw_16 mw_163) rfl rfl rfl (by decide +kernel) ⟨Nat.le_of_ble_eq_true rfl, Nat.le_of_ble_eq_true rfl⟩) ⟨fun _ _ _ _ q => q, fun U hU hW => ⟨rfl, hU⟩⟩ rfl rfl hl.1 rfl (lv_room (Nat.le_of_ble_eq_true rfl)) dMa_read_1 ⟨Nat.zero_le _, Nat.zero_le _⟩) hS (fun _ _ h => h.elim) (fun _ h => h.elim) (fun r u t H1 locs ht hvm hw hB hz8 hk8 hS => ?_)
  obtain rfl : s.heap = H1 := hB.symm.trans ht
  subst hw
  refine lv_istore_n (lv' := [(3, .int (f_Fi_size a0)), (0, .ref h4), (1, .long a0)]) hx hb dMa_read_4 rfl hl (by decide) rfl (fun ls hl => ?_)
  refine lv_aload_n hx hb dMa_read_5 rfl (lv_at hl 1 rfl) ?_
  refine lv_lload_n hx hb dMa_read_6 rfl (lv_at hl 2 rfl) ?_
  have hPc := hP.sub (ws' := [(h4, .inr (2, [.ref h5, .ref h2])), (h5, .inl (cL, 16, .inr (.inl rf)))]) [0, 1] rfl
  refine va_calll (va_runV (As := [.long a0]) (rest := []) ⟨hx, hb, hml, hown, hT⟩ (c_Ma_y l G cB cL cI s.heap h4 h5 h2 rf a0 hPc ) (cwV 1 hT (gB_V mw_465 mw_466 mw_467 mw_4 mw_468) rfl rfl rfl (by decide +kernel) ⟨Nat.le_of_ble_eq_true rfl, Nat.le_of_ble_eq_true rfl⟩) ⟨fun a U g mk q => ⟨q.1, q.2.1, va_K.moved (u := U) (U := U.calling g mk a) (Vm.Alike.refl U.vm) q.2.2⟩, va_recv hK hPc (ci := 2) (q0 := 0) rfl rfl, fun U hU hW => ⟨rfl, hU, va_K.moved hW.alike hK⟩⟩ rfl rfl hl.1 rfl (lv_room (Nat.le_of_ble_eq_true rfl)) dMa_read_7 ⟨Nat.zero_le _, Nat.zero_le _⟩) hS (fun _ _ h => h.elim) (fun _ h => h.elim) (fun r u t H1 locs ht hvm hw hB hz8 hk8 hS => ?_)
  obtain rfl : s.heap = H1 := hB.symm.trans ht
  subst hw
  refine lv_lload_n hx hb dMa_read_10 rfl (lv_at hl 2 rfl) ?_
  refine va_calli (va_runS (As := [.long a0]) (rest := [.long (f_Ma_y rf a0)]) ⟨hx, hb, hml, hown, hT⟩ (c_Fi_offset l s.heap a0) (va_cwS 1 hT (gB_SV mw_470 mw_150 mw_16 mw_151) rfl rfl rfl (by decide +kernel) ⟨Nat.le_of_ble_eq_true rfl, Nat.le_of_ble_eq_true rfl⟩) ⟨fun _ _ _ _ q => q, fun U hU hW => ⟨rfl, hU⟩⟩ rfl rfl hl.1 rfl (lv_room (Nat.le_of_ble_eq_true rfl)) dMa_read_11 ⟨Nat.zero_le _, Nat.zero_le _⟩) hS (fun _ _ h => h.elim) (fun _ h => h.elim) (fun r u t H1 locs ht hvm hw hB hz8 hk8 hS => ?_)
  obtain rfl : s.heap = H1 := hB.symm.trans ht
  subst hw
  refine lv_i2l hx hb dMa_read_14 rfl ?_
  refine lv_ladd hx hb dMa_read_15 ?_
  refine lv_lstore (lv' := [(4, .long ((f_Ma_y rf a0) + ((f_Fi_offset a0).toInt64))), (3, .int (f_Fi_size a0)), (0, .ref h4), (1, .long a0)]) hx hb dMa_read_16 hl (by decide) rfl (fun ls hl => ?_)
  refine lv_aload_n hx hb dMa_read_18 rfl (lv_at hl 2 rfl) ?_
  refine va_get (D := G) (ci := 2) (v := .ref h2) (C := RMa) (T := TMa) (N := 2) hx hb hT inMa hown hK hP 0 rfl rfl 1 (by decide) (hT _ mw_79) (fun _ h9 => h9) rfl dMa_read_19 ?_
  refine lv_lload hx hb dMa_read_22 (lv_at hl 0 rfl) ?_
  refine lv_iload_n hx hb dMa_read_24 rfl (lv_at hl 1 rfl) ?_
  have hPc := hP.sub (ws' := [(h2, .inr (1, [.ref h3])), (h3, .inl (cB, 4096, .inl mf))]) [2, 3] rfl
  refine va_calli (va_runV (As := [.long ((f_Ma_y rf a0) + ((f_Fi_offset a0).toInt64)), .int (f_Fi_size a0)]) (rest := []) ⟨hx, hb, hml, hown, hT⟩ (c_Me_holds l G cB cL cI s.heap h2 h3 mf ((f_Ma_y rf a0) + ((f_Fi_offset a0).toInt64)) (f_Fi_size a0) hPc ) (cwV 2 hT (gB_V mw_471 mw_414 mw_415 mw_5 mw_416) rfl rfl rfl (by decide +kernel) ⟨Nat.le_of_ble_eq_true rfl, Nat.le_of_ble_eq_true rfl⟩) ⟨fun a U g mk q => ⟨q.1, q.2.1, va_K.moved (u := U) (U := U.calling g mk a) (Vm.Alike.refl U.vm) q.2.2⟩, va_recv hK hPc (ci := 1) (q0 := 0) rfl rfl, fun U hU hW => ⟨rfl, hU, va_K.moved hW.alike hK⟩⟩ rfl rfl hl.1 rfl (lv_room (Nat.le_of_ble_eq_true rfl)) dMa_read_25 ⟨Nat.zero_le _, Nat.zero_le _⟩) hS (fun _ _ h => h.elim) (fun _ h => h.elim) (fun r u t H1 locs ht hvm hw hB hz8 hk8 hS => ?_)
  obtain rfl : s.heap = H1 := hB.symm.trans ht
  subst hw
  refine lv_if_ne (tgt := 33) hx hb dMa_read_28 (by decide) (fun c1 => ?_) (fun c1 => ?_)
  · have c1 := bI_n c1
    refine lv_aload_n hx hb dMa_read_33 rfl (lv_at hl 2 rfl) ?_
    refine va_get (D := G) (ci := 2) (v := .ref h2) (C := RMa) (T := TMa) (N := 2) hx hb hT inMa hown hK hP 0 rfl rfl 1 (by decide) (hT _ mw_79) (fun _ h9 => h9) rfl dMa_read_34 ?_
    refine lv_lload hx hb dMa_read_37 (lv_at hl 0 rfl) ?_
    refine lv_iload_n hx hb dMa_read_39 rfl (lv_at hl 1 rfl) ?_
    have hPc := hP.sub (ws' := [(h2, .inr (1, [.ref h3])), (h3, .inl (cB, 4096, .inl mf))]) [2, 3] rfl
    refine va_calll (va_runV (As := [.long ((f_Ma_y rf a0) + ((f_Fi_offset a0).toInt64)), .int (f_Fi_size a0)]) (rest := []) ⟨hx, hb, hml, hown, hT⟩ (c_Me_read l G cB cL cI s.heap h2 h3 mf ((f_Ma_y rf a0) + ((f_Fi_offset a0).toInt64)) (f_Fi_size a0) hPc (size_ok a0)) (cwV 2 hT (gB_V mw_472 mw_432 mw_433 mw_5 mw_434) rfl rfl rfl (by decide +kernel) ⟨Nat.le_of_ble_eq_true rfl, Nat.le_of_ble_eq_true rfl⟩) ⟨fun a U g mk q => ⟨q.1, q.2.1, va_K.moved (u := U) (U := U.calling g mk a) (Vm.Alike.refl U.vm) q.2.2⟩, va_recv hK hPc (ci := 1) (q0 := 0) rfl rfl, fun U hU hW => ⟨rfl, hU, va_K.moved hW.alike hK⟩⟩ rfl rfl hl.1 rfl (lv_room (Nat.le_of_ble_eq_true rfl)) dMa_read_40 ⟨Nat.zero_le _, Nat.zero_le _⟩) hS (fun _ _ h => h.elim) (fun _ h => h.elim) (fun r u t H1 locs ht hvm hw hB hz8 hk8 hS => ?_)
    obtain rfl : s.heap = H1 := hB.symm.trans ht
    subst hw
    refine lv_lstore (lv' := [(6, .long (f_Me_read mf ((f_Ma_y rf a0) + ((f_Fi_offset a0).toInt64)) (f_Fi_size a0))), (4, .long ((f_Ma_y rf a0) + ((f_Fi_offset a0).toInt64))), (3, .int (f_Fi_size a0)), (0, .ref h4), (1, .long a0)]) hx hb dMa_read_43 hl (by decide) rfl (fun ls hl => ?_)
    refine lv_aload_n hx hb dMa_read_45 rfl (lv_at hl 3 rfl) ?_
    refine va_get (D := G) (ci := 2) (v := .ref h5) (C := RMa) (T := TMa) (N := 2) hx hb hT inMa hown hK hP 0 rfl rfl 0 (by decide) (hT _ mw_77) (fun _ h9 => h9) rfl dMa_read_46 ?_
    refine lv_lload_n hx hb dMa_read_49 rfl (lv_at hl 4 rfl) ?_
    refine va_calli (va_runS (As := [.long a0]) (rest := [.ref h5]) ⟨hx, hb, hml, hown, hT⟩ (c_Fi_target l s.heap a0) (va_cwS 1 hT (gB_SV mw_456 mw_147 mw_16 mw_148) rfl rfl rfl (by decide +kernel) ⟨Nat.le_of_ble_eq_true rfl, Nat.le_of_ble_eq_true rfl⟩) ⟨fun _ _ _ _ q => q, fun U hU hW => ⟨rfl, hU⟩⟩ rfl rfl hl.1 rfl (lv_room (Nat.le_of_ble_eq_true rfl)) dMa_read_50 ⟨Nat.zero_le _, Nat.zero_le _⟩) hS (fun _ _ h => h.elim) (fun _ h => h.elim) (fun r u t H1 locs ht hvm hw hB hz8 hk8 hS => ?_)
    obtain rfl : s.heap = H1 := hB.symm.trans ht
    subst hw
    refine lv_lload_n hx hb dMa_read_53 rfl (lv_at hl 4 rfl) ?_
    refine va_calli (va_runS (As := [.long a0]) (rest := [.int (f_Fi_target a0), .ref h5]) ⟨hx, hb, hml, hown, hT⟩ (c_Fi_mode l s.heap a0) (va_cwS 1 hT (gB_SV mw_473 mw_159 mw_16 mw_160) rfl rfl rfl (by decide +kernel) ⟨Nat.le_of_ble_eq_true rfl, Nat.le_of_ble_eq_true rfl⟩) ⟨fun _ _ _ _ q => q, fun U hU hW => ⟨rfl, hU⟩⟩ rfl rfl hl.1 rfl (lv_room (Nat.le_of_ble_eq_true rfl)) dMa_read_54 ⟨Nat.zero_le _, Nat.zero_le _⟩) hS (fun _ _ h => h.elim) (fun _ h => h.elim) (fun r u t H1 locs ht hvm hw hB hz8 hk8 hS => ?_)
    obtain rfl : s.heap = H1 := hB.symm.trans ht
    subst hw
    refine lv_iconst (v := (4 : Int32)) hx hb dMa_read_57 (by decide) ?_
    refine lv_icmp_ne (tgt := 73) hx hb dMa_read_58 (by decide) (fun c2 => ?_) (fun c2 => ?_)
    · skip
      refine lv_lload hx hb dMa_read_73 (lv_at hl 0 rfl) ?_
      refine va_last hx hb hK hP hD hS 1 1 rfl rfl (in_Fi_target a0) dMa_read_75 (fun H locs hP hD hS => ?_)
      have hP : va_P G vwCl [(h4, .inr (2, [.ref h5, .ref h2])), (h5, .inl (cL, 16, .inr (.inl (vp_updL rf (f_Fi_target a0).toNatClampNeg (f_Me_read mf ((f_Ma_y rf a0) + ((f_Fi_offset a0).toInt64)) (f_Fi_size a0)))))), (h2, .inr (1, [.ref h3])), (h3, .inl (cB, 4096, .inl mf))] H := hP
      have hD : va_D A [(h4, .inr (2, [.ref h5, .ref h2])), (h5, .inl (cL, 16, .inr (.inl (vp_updL rf (f_Fi_target a0).toNatClampNeg (f_Me_read mf ((f_Ma_y rf a0) + ((f_Fi_offset a0).toInt64)) (f_Fi_size a0)))))), (h2, .inr (1, [.ref h3])), (h3, .inl (cB, 4096, .inl mf))] := hD
      refine lv_iconst (v := (1 : Int32)) hx hb dMa_read_76 (by decide) ?_
      have hP9 := hP.sub (ws' := [(h4, .inr (2, [.ref h5, .ref h2])), (h5, .inl (cL, 16, .inr (.inl (vp_updL rf (f_Fi_target a0).toNatClampNeg (f_Me_read mf ((f_Ma_y rf a0) + ((f_Fi_offset a0).toInt64)) (f_Fi_size a0)))))), (h2, .inr (1, [.ref h3])), (h3, .inl (cB, 4096, .inl mf))]) [0, 1, 2, 3] rfl
      have hD9 := hD.sub (ws' := [(h4, .inr (2, [.ref h5, .ref h2])), (h5, .inl (cL, 16, .inr (.inl (vp_updL rf (f_Fi_target a0).toNatClampNeg (f_Me_read mf ((f_Ma_y rf a0) + ((f_Fi_offset a0).toInt64)) (f_Fi_size a0)))))), (h2, .inr (1, [.ref h3])), (h3, .inl (cB, 4096, .inl mf))]) [0, 1, 2, 3] (by decide) rfl
      exact W.zret (v := (1 : Int32)) hx hb hr rfl (fun t ht hW => ⟨⟨(1 : Int32), ((vp_updL rf (f_Fi_target a0).toNatClampNeg (f_Me_read mf ((f_Ma_y rf a0) + ((f_Fi_offset a0).toInt64)) (f_Fi_size a0)))), rfl, ⟨(by unfold f_Ma_read; rw [if_pos c1, if_neg c2]; try rfl), (by unfold f_Ma_read; rw [if_pos c1, if_neg c2]; try rfl)⟩, by rw [ht]; exact hP9, hD9⟩, hS.F ht⟩) hS.2.2 dMa_read_77
    · skip
      refine lv_lload hx hb dMa_read_61 (lv_at hl 0 rfl) ?_
      refine lv_bipush (v := (8 : Int32)) hx hb dMa_read_63 (by decide) ?_
      refine lv_iload_n hx hb dMa_read_65 rfl (lv_at hl 2 rfl) ?_
      refine lv_imul hx hb dMa_read_66 ?_
      refine va_calll (va_runS (As := [.long (f_Me_read mf ((f_Ma_y rf a0) + ((f_Fi_offset a0).toInt64)) (f_Fi_size a0)), .int ((8 : Int32) * (f_Fi_size a0))]) (rest := [.int (f_Fi_target a0), .ref h5]) ⟨hx, hb, hml, hown, hT⟩ (c_Ar_signed l s.heap (f_Me_read mf ((f_Ma_y rf a0) + ((f_Fi_offset a0).toInt64)) (f_Fi_size a0)) ((8 : Int32) * (f_Fi_size a0))) (va_cwS 2 hT (gB_SV mw_474 mw_475 mw_19 mw_476) rfl rfl rfl (by decide +kernel) ⟨Nat.le_of_ble_eq_true rfl, Nat.le_of_ble_eq_true rfl⟩) ⟨fun _ _ _ _ q => q, fun U hU hW => ⟨rfl, hU⟩⟩ rfl rfl hl.1 rfl (lv_room (Nat.le_of_ble_eq_true rfl)) dMa_read_67 ⟨Nat.zero_le _, Nat.zero_le _⟩) hS (fun _ _ h => h.elim) (fun _ h => h.elim) (fun r u t H1 locs ht hvm hw hB hz8 hk8 hS => ?_)
      obtain rfl : s.heap = H1 := hB.symm.trans ht
      subst hw
      refine lv_goto (tgt := 75) hx hb dMa_read_70 (by decide) ?_
      refine va_last hx hb hK hP hD hS 1 1 rfl rfl (in_Fi_target a0) dMa_read_75 (fun H locs hP hD hS => ?_)
      have hP : va_P G vwCl [(h4, .inr (2, [.ref h5, .ref h2])), (h5, .inl (cL, 16, .inr (.inl (vp_updL rf (f_Fi_target a0).toNatClampNeg (f_Ar_signed (f_Me_read mf ((f_Ma_y rf a0) + ((f_Fi_offset a0).toInt64)) (f_Fi_size a0)) ((8 : Int32) * (f_Fi_size a0))))))), (h2, .inr (1, [.ref h3])), (h3, .inl (cB, 4096, .inl mf))] H := hP
      have hD : va_D A [(h4, .inr (2, [.ref h5, .ref h2])), (h5, .inl (cL, 16, .inr (.inl (vp_updL rf (f_Fi_target a0).toNatClampNeg (f_Ar_signed (f_Me_read mf ((f_Ma_y rf a0) + ((f_Fi_offset a0).toInt64)) (f_Fi_size a0)) ((8 : Int32) * (f_Fi_size a0))))))), (h2, .inr (1, [.ref h3])), (h3, .inl (cB, 4096, .inl mf))] := hD
      refine lv_iconst (v := (1 : Int32)) hx hb dMa_read_76 (by decide) ?_
      have hP9 := hP.sub (ws' := [(h4, .inr (2, [.ref h5, .ref h2])), (h5, .inl (cL, 16, .inr (.inl (vp_updL rf (f_Fi_target a0).toNatClampNeg (f_Ar_signed (f_Me_read mf ((f_Ma_y rf a0) + ((f_Fi_offset a0).toInt64)) (f_Fi_size a0)) ((8 : Int32) * (f_Fi_size a0))))))), (h2, .inr (1, [.ref h3])), (h3, .inl (cB, 4096, .inl mf))]) [0, 1, 2, 3] rfl
      have hD9 := hD.sub (ws' := [(h4, .inr (2, [.ref h5, .ref h2])), (h5, .inl (cL, 16, .inr (.inl (vp_updL rf (f_Fi_target a0).toNatClampNeg (f_Ar_signed (f_Me_read mf ((f_Ma_y rf a0) + ((f_Fi_offset a0).toInt64)) (f_Fi_size a0)) ((8 : Int32) * (f_Fi_size a0))))))), (h2, .inr (1, [.ref h3])), (h3, .inl (cB, 4096, .inl mf))]) [0, 1, 2, 3] (by decide) rfl
      exact W.zret (v := (1 : Int32)) hx hb hr rfl (fun t ht hW => ⟨⟨(1 : Int32), ((vp_updL rf (f_Fi_target a0).toNatClampNeg (f_Ar_signed (f_Me_read mf ((f_Ma_y rf a0) + ((f_Fi_offset a0).toInt64)) (f_Fi_size a0)) ((8 : Int32) * (f_Fi_size a0))))), rfl, ⟨(by unfold f_Ma_read; rw [if_pos c1, if_pos c2]; try rfl), (by unfold f_Ma_read; rw [if_pos c1, if_pos c2]; try rfl)⟩, by rw [ht]; exact hP9, hD9⟩, hS.F ht⟩) hS.2.2 dMa_read_77
  · have c1 := bI_z c1
    refine lv_iconst (v := (0 : Int32)) hx hb dMa_read_31 (by decide) ?_
    have hP9 := hP.sub (ws' := [(h4, .inr (2, [.ref h5, .ref h2])), (h5, .inl (cL, 16, .inr (.inl rf))), (h2, .inr (1, [.ref h3])), (h3, .inl (cB, 4096, .inl mf))]) [0, 1, 2, 3] rfl
    have hD9 := hD.sub (ws' := [(h4, .inr (2, [.ref h5, .ref h2])), (h5, .inl (cL, 16, .inr (.inl rf))), (h2, .inr (1, [.ref h3])), (h3, .inl (cB, 4096, .inl mf))]) [0, 1, 2, 3] (by decide) rfl
    exact W.zret (v := (0 : Int32)) hx hb hr rfl (fun t ht hW => ⟨⟨(0 : Int32), (rf), rfl, ⟨(by unfold f_Ma_read; rw [if_neg c1]; try rfl), (by unfold f_Ma_read; rw [if_neg c1]; try rfl)⟩, by rw [ht]; exact hP9, hD9⟩, hS.F ht⟩) hS.2.2 dMa_read_32

def f_Ma_write (rf : Nat → Int64) (mf : Nat → Int32) (a0 : Int64) (a1 : Int64) : Bool × (Nat → Int32) :=
  if (f_Me_holds ((f_Ma_x rf a0) + ((f_Fi_offset a0).toInt64)) (f_Fi_size a0)) = true then
    (true, ((f_Me_write mf ((f_Ma_x rf a0) + ((f_Fi_offset a0).toInt64)) (f_Fi_size a0) a1)))
  else
    (false, mf)
set_option maxHeartbeats 4000000 in
set_option maxRecDepth 100000 in
theorem c_Ma_write (l : Launch) (G : va_G) (cB cL cI : ClassId) (Hp : Heap) (h4 : Nat) (h5 : Nat) (rf : Nat → Int64) (h2 : Nat) (h3 : Nat) (mf : Nat → Int32) (a0 : Int64) (a1 : Int64) (hP : va_P G vwCl [(h4, .inr (2, [.ref h5, .ref h2])), (h5, .inl (cL, 16, .inr (.inl rf))), (h2, .inr (1, [.ref h3])), (h3, .inl (cB, 4096, .inl mf))] Hp) (hD : va_D (fun _ => True) [(h4, .inr (2, [.ref h5, .ref h2])), (h5, .inl (cL, 16, .inr (.inl rf))), (h2, .inr (1, [.ref h3])), (h3, .inl (cB, 4096, .inl mf))]) : Met l yMa_write wsMa_write ({ frames := 2, cells := 0, slots := 0, locals := 52 }) (va_Pc [.ref h4, .long a0, .long a1] (fun U => U.heap = Hp ∧ va_K G vwCl [(cB, .byte), (cL, .long), (cI, .int)] U)) (va_Qi (fun (r : Int32) (u : (Nat → Int32)) => r = bI ((f_Ma_write rf mf a0 a1)).1 ∧ u = ((f_Ma_write rf mf a0 a1)).2) (fun (u : (Nat → Int32)) t => va_P G vwCl [(h4, .inr (2, [.ref h5, .ref h2])), (h5, .inl (cL, 16, .inr (.inl rf))), (h2, .inr (1, [.ref h3])), (h3, .inl (cB, 4096, .inl (u)))] t.heap ∧ va_D (va_A [(h4, .inr (2, [.ref h5, .ref h2])), (h5, .inl (cL, 16, .inr (.inl rf))), (h2, .inr (1, [.ref h3])), (h3, .inl (cB, 4096, .inl mf))] Hp.size) [(h4, .inr (2, [.ref h5, .ref h2])), (h5, .inl (cL, 16, .inr (.inl rf))), (h2, .inr (1, [.ref h3])), (h3, .inl (cB, 4096, .inl (u)))]) (va_A [(h4, .inr (2, [.ref h5, .ref h2])), (h5, .inl (cL, 16, .inr (.inl rf))), (h2, .inr (1, [.ref h3])), (h3, .inl (cB, 4096, .inl mf))] Hp.size)) 0 0 (va_A [(h4, .inr (2, [.ref h5, .ref h2])), (h5, .inl (cL, 16, .inr (.inl rf))), (h2, .inr (1, [.ref h3])), (h3, .inl (cB, 4096, .inl mf))] Hp.size) := by
  refine Met.ofW (cc := cMa_write) (maxL := 8) (ret := (some .boolean)) (by decide) rfl ?_
  intro p e s m args below meth c s₁ B hml hv
  obtain ⟨rfl, rfl, hK⟩ := hv
  have hx := B.exec
  have hb := B.bytes
  have hr := B.returns
  have hT : ∀ w ∈ tB, w.before _ s = true := fun w h => atoms_spec (ws := wsMa_write) B.pre w (List.mem_cons_of_mem _ h)
  have hown : s.vm.findClass "CompiledProgram$Machine" = some m.cls := findClass_of_methodNamed B.named
  have hlocks := B.notSynchronized
  have hD := hD.self (sz := s.heap.size)
  generalize hAe : va_A [(h4, .inr (2, [.ref h5, .ref h2])), (h5, .inl (cL, 16, .inr (.inl rf))), (h2, .inr (1, [.ref h3])), (h3, .inl (cB, 4096, .inl mf))] s.heap.size = A at hD ⊢
  have hA : ∀ q : Nat, s.heap.size ≤ q → A q := fun q h => by rw [← hAe]; exact Or.inr h
  have hS : va_S A s.heap s.heap [] := va_S.rf
  have hl := lv_entry ([.ref h4, .long a0, .long a1]) (n := 8) (Nat.le_of_ble_eq_true rfl)
  rw [lg_entry_eq]
  generalize (lg_sl ([.ref h4, .long a0, .long a1]) ++ List.replicate (8 - (lg_sl ([.ref h4, .long a0, .long a1])).length) Slot.unset).toArray = ls at hl ⊢
  have hl : lv_has ls 8 [(0, .ref h4), (1, .long a0), (3, .long a1)] := hl
  refine lv_lload_n hx hb dMa_write_0 rfl (lv_at hl 1 rfl) ?_
  refine va_calli (va_runS (As := [.long a0]) (rest := []) ⟨hx, hb, hml, hown, hT⟩ (c_Fi_size l s.heap a0) (va_cwS 1 hT (gB_SV mw_464 mw_162 mw_16 mw_163) rfl rfl rfl (by decide +kernel) ⟨Nat.le_of_ble_eq_true rfl, Nat.le_of_ble_eq_true rfl⟩) ⟨fun _ _ _ _ q => q, fun U hU hW => ⟨rfl, hU⟩⟩ rfl rfl hl.1 rfl (lv_room (Nat.le_of_ble_eq_true rfl)) dMa_write_1 ⟨Nat.zero_le _, Nat.zero_le _⟩) hS (fun _ _ h => h.elim) (fun _ h => h.elim) (fun r u t H1 locs ht hvm hw hB hz8 hk8 hS => ?_)
  obtain rfl : s.heap = H1 := hB.symm.trans ht
  subst hw
  refine lv_istore (lv' := [(5, .int (f_Fi_size a0)), (0, .ref h4), (1, .long a0), (3, .long a1)]) hx hb dMa_write_4 hl (by decide) rfl (fun ls hl => ?_)
  refine lv_aload_n hx hb dMa_write_6 rfl (lv_at hl 1 rfl) ?_
  refine lv_lload_n hx hb dMa_write_7 rfl (lv_at hl 2 rfl) ?_
  have hPc := hP.sub (ws' := [(h4, .inr (2, [.ref h5, .ref h2])), (h5, .inl (cL, 16, .inr (.inl rf)))]) [0, 1] rfl
  refine va_calll (va_runV (As := [.long a0]) (rest := []) ⟨hx, hb, hml, hown, hT⟩ (c_Ma_x l G cB cL cI s.heap h4 h5 h2 rf a0 hPc ) (cwV 1 hT (gB_V mw_481 mw_482 mw_483 mw_4 mw_484) rfl rfl rfl (by decide +kernel) ⟨Nat.le_of_ble_eq_true rfl, Nat.le_of_ble_eq_true rfl⟩) ⟨fun a U g mk q => ⟨q.1, q.2.1, va_K.moved (u := U) (U := U.calling g mk a) (Vm.Alike.refl U.vm) q.2.2⟩, va_recv hK hPc (ci := 2) (q0 := 0) rfl rfl, fun U hU hW => ⟨rfl, hU, va_K.moved hW.alike hK⟩⟩ rfl rfl hl.1 rfl (lv_room (Nat.le_of_ble_eq_true rfl)) dMa_write_8 ⟨Nat.zero_le _, Nat.zero_le _⟩) hS (fun _ _ h => h.elim) (fun _ h => h.elim) (fun r u t H1 locs ht hvm hw hB hz8 hk8 hS => ?_)
  obtain rfl : s.heap = H1 := hB.symm.trans ht
  subst hw
  refine lv_lload_n hx hb dMa_write_11 rfl (lv_at hl 2 rfl) ?_
  refine va_calli (va_runS (As := [.long a0]) (rest := [.long (f_Ma_x rf a0)]) ⟨hx, hb, hml, hown, hT⟩ (c_Fi_offset l s.heap a0) (va_cwS 1 hT (gB_SV mw_470 mw_150 mw_16 mw_151) rfl rfl rfl (by decide +kernel) ⟨Nat.le_of_ble_eq_true rfl, Nat.le_of_ble_eq_true rfl⟩) ⟨fun _ _ _ _ q => q, fun U hU hW => ⟨rfl, hU⟩⟩ rfl rfl hl.1 rfl (lv_room (Nat.le_of_ble_eq_true rfl)) dMa_write_12 ⟨Nat.zero_le _, Nat.zero_le _⟩) hS (fun _ _ h => h.elim) (fun _ h => h.elim) (fun r u t H1 locs ht hvm hw hB hz8 hk8 hS => ?_)
  obtain rfl : s.heap = H1 := hB.symm.trans ht
  subst hw
  refine lv_i2l hx hb dMa_write_15 rfl ?_
  refine lv_ladd hx hb dMa_write_16 ?_
  refine lv_lstore (lv' := [(6, .long ((f_Ma_x rf a0) + ((f_Fi_offset a0).toInt64))), (5, .int (f_Fi_size a0)), (0, .ref h4), (1, .long a0), (3, .long a1)]) hx hb dMa_write_17 hl (by decide) rfl (fun ls hl => ?_)
  refine lv_aload_n hx hb dMa_write_19 rfl (lv_at hl 2 rfl) ?_
  refine va_get (D := G) (ci := 2) (v := .ref h2) (C := RMa) (T := TMa) (N := 2) hx hb hT inMa hown hK hP 0 rfl rfl 1 (by decide) (hT _ mw_79) (fun _ h9 => h9) rfl dMa_write_20 ?_
  refine lv_lload hx hb dMa_write_23 (lv_at hl 0 rfl) ?_
  refine lv_iload hx hb dMa_write_25 (lv_at hl 1 rfl) ?_
  have hPc := hP.sub (ws' := [(h2, .inr (1, [.ref h3])), (h3, .inl (cB, 4096, .inl mf))]) [2, 3] rfl
  refine va_calli (va_runV (As := [.long ((f_Ma_x rf a0) + ((f_Fi_offset a0).toInt64)), .int (f_Fi_size a0)]) (rest := []) ⟨hx, hb, hml, hown, hT⟩ (c_Me_holds l G cB cL cI s.heap h2 h3 mf ((f_Ma_x rf a0) + ((f_Fi_offset a0).toInt64)) (f_Fi_size a0) hPc ) (cwV 2 hT (gB_V mw_471 mw_414 mw_415 mw_5 mw_416) rfl rfl rfl (by decide +kernel) ⟨Nat.le_of_ble_eq_true rfl, Nat.le_of_ble_eq_true rfl⟩) ⟨fun a U g mk q => ⟨q.1, q.2.1, va_K.moved (u := U) (U := U.calling g mk a) (Vm.Alike.refl U.vm) q.2.2⟩, va_recv hK hPc (ci := 1) (q0 := 0) rfl rfl, fun U hU hW => ⟨rfl, hU, va_K.moved hW.alike hK⟩⟩ rfl rfl hl.1 rfl (lv_room (Nat.le_of_ble_eq_true rfl)) dMa_write_27 ⟨Nat.zero_le _, Nat.zero_le _⟩) hS (fun _ _ h => h.elim) (fun _ h => h.elim) (fun r u t H1 locs ht hvm hw hB hz8 hk8 hS => ?_)
  obtain rfl : s.heap = H1 := hB.symm.trans ht
  subst hw
  refine lv_if_ne (tgt := 35) hx hb dMa_write_30 (by decide) (fun c1 => ?_) (fun c1 => ?_)
  · have c1 := bI_n c1
    refine lv_aload_n hx hb dMa_write_35 rfl (lv_at hl 2 rfl) ?_
    refine va_get (D := G) (ci := 2) (v := .ref h2) (C := RMa) (T := TMa) (N := 2) hx hb hT inMa hown hK hP 0 rfl rfl 1 (by decide) (hT _ mw_79) (fun _ h9 => h9) rfl dMa_write_36 ?_
    refine lv_lload hx hb dMa_write_39 (lv_at hl 0 rfl) ?_
    refine lv_iload hx hb dMa_write_41 (lv_at hl 1 rfl) ?_
    refine lv_lload_n hx hb dMa_write_43 rfl (lv_at hl 4 rfl) ?_
    have hPc := hP.sub (ws' := [(h2, .inr (1, [.ref h3])), (h3, .inl (cB, 4096, .inl mf))]) [2, 3] rfl
    have hDc := hD.sub (ws' := [(h2, .inr (1, [.ref h3])), (h3, .inl (cB, 4096, .inl mf))]) [2, 3] (by decide) rfl
    have hFc := va_free (wc := [(h2, .inr (1, [.ref h3])), (h3, .inl (cB, 4096, .inl mf))]) hD hS hA [2, 3] rfl
    refine va_callv (va_runV (As := [.long ((f_Ma_x rf a0) + ((f_Fi_offset a0).toInt64)), .int (f_Fi_size a0), .long a1]) (rest := []) ⟨hx, hb, hml, hown, hT⟩ (c_Me_write l G cB cL cI s.heap h2 h3 mf ((f_Ma_x rf a0) + ((f_Fi_offset a0).toInt64)) (f_Fi_size a0) a1 hPc (hDc.weaken (fun _ _ _ _ => trivial)) (size_ok a0)) (cwV 3 hT (gB_V mw_485 mw_420 mw_421 mw_5 mw_422) rfl rfl rfl (by decide +kernel) ⟨Nat.le_of_ble_eq_true rfl, Nat.le_of_ble_eq_true rfl⟩) ⟨fun a U g mk q => ⟨q.1, q.2.1, va_K.moved (u := U) (U := U.calling g mk a) (Vm.Alike.refl U.vm) q.2.2⟩, va_recv hK hPc (ci := 1) (q0 := 0) rfl rfl, fun U hU hW => ⟨rfl, hU, va_K.moved hW.alike hK⟩⟩ rfl rfl hl.1 rfl (lv_room (Nat.le_of_ble_eq_true rfl)) dMa_write_44 ⟨Nat.zero_le _, Nat.zero_le _⟩) hS (fun q _ h => hFc q h) hFc (fun u t H locs ht hvm hw hB hz8 hk8 hS => ?_)
    subst hw
    obtain ⟨hP1, hD1⟩ := hB
    rw [ht] at hP1
    obtain ⟨hP, hD⟩ := va_join (wr := [(h4, .inr (2, [.ref h5, .ref h2])), (h5, .inl (cL, 16, .inr (.inl rf)))]) (w1 := [(h2, .inr (1, [.ref h3])), (h3, .inl (cB, 4096, .inl ((f_Me_write mf ((f_Ma_x rf a0) + ((f_Fi_offset a0).toInt64)) (f_Fi_size a0) a1))))]) hP hD [2, 3] [0, 1] rfl rfl (by decide) (by decide) hk8 hFc hP1 hD1
    have hP : va_P G vwCl [(h4, .inr (2, [.ref h5, .ref h2])), (h5, .inl (cL, 16, .inr (.inl rf))), (h2, .inr (1, [.ref h3])), (h3, .inl (cB, 4096, .inl ((f_Me_write mf ((f_Ma_x rf a0) + ((f_Fi_offset a0).toInt64)) (f_Fi_size a0) a1))))] H := hP
    have hD : va_D A [(h4, .inr (2, [.ref h5, .ref h2])), (h5, .inl (cL, 16, .inr (.inl rf))), (h2, .inr (1, [.ref h3])), (h3, .inl (cB, 4096, .inl ((f_Me_write mf ((f_Ma_x rf a0) + ((f_Fi_offset a0).toInt64)) (f_Fi_size a0) a1))))] := hD
    refine lv_iconst (v := (1 : Int32)) hx hb dMa_write_47 (by decide) ?_
    have hP9 := hP.sub (ws' := [(h4, .inr (2, [.ref h5, .ref h2])), (h5, .inl (cL, 16, .inr (.inl rf))), (h2, .inr (1, [.ref h3])), (h3, .inl (cB, 4096, .inl ((f_Me_write mf ((f_Ma_x rf a0) + ((f_Fi_offset a0).toInt64)) (f_Fi_size a0) a1))))]) [0, 1, 2, 3] rfl
    have hD9 := hD.sub (ws' := [(h4, .inr (2, [.ref h5, .ref h2])), (h5, .inl (cL, 16, .inr (.inl rf))), (h2, .inr (1, [.ref h3])), (h3, .inl (cB, 4096, .inl ((f_Me_write mf ((f_Ma_x rf a0) + ((f_Fi_offset a0).toInt64)) (f_Fi_size a0) a1))))]) [0, 1, 2, 3] (by decide) rfl
    exact W.zret (v := (1 : Int32)) hx hb hr rfl (fun t ht hW => ⟨⟨(1 : Int32), (((f_Me_write mf ((f_Ma_x rf a0) + ((f_Fi_offset a0).toInt64)) (f_Fi_size a0) a1))), rfl, ⟨(by unfold f_Ma_write; rw [if_pos c1]; try rfl), (by unfold f_Ma_write; rw [if_pos c1]; try rfl)⟩, by rw [ht]; exact hP9, hD9⟩, hS.F ht⟩) hS.2.2 dMa_write_48
  · have c1 := bI_z c1
    refine lv_iconst (v := (0 : Int32)) hx hb dMa_write_33 (by decide) ?_
    have hP9 := hP.sub (ws' := [(h4, .inr (2, [.ref h5, .ref h2])), (h5, .inl (cL, 16, .inr (.inl rf))), (h2, .inr (1, [.ref h3])), (h3, .inl (cB, 4096, .inl mf))]) [0, 1, 2, 3] rfl
    have hD9 := hD.sub (ws' := [(h4, .inr (2, [.ref h5, .ref h2])), (h5, .inl (cL, 16, .inr (.inl rf))), (h2, .inr (1, [.ref h3])), (h3, .inl (cB, 4096, .inl mf))]) [0, 1, 2, 3] (by decide) rfl
    exact W.zret (v := (0 : Int32)) hx hb hr rfl (fun t ht hW => ⟨⟨(0 : Int32), (mf), rfl, ⟨(by unfold f_Ma_write; rw [if_neg c1]; try rfl), (by unfold f_Ma_write; rw [if_neg c1]; try rfl)⟩, by rw [ht]; exact hP9, hD9⟩, hS.F ht⟩) hS.2.2 dMa_write_34
