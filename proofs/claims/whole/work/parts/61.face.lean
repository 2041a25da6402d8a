def f_Cp_places (cnt : Int32) : Int32 :=
  cnt
set_option maxHeartbeats 4000000 in
set_option maxRecDepth 100000 in
theorem c_Cp_places (l : Launch) (G : va_G) (cB cL cI : ClassId) (Hp : Heap) (h8 : Nat) (xp : Int32) (xs : Int32) (h6 : Nat) (h4 : Nat) (h0 : Nat) (h1 : Nat) (cnt : Int32) (hP : va_P G vwCl [(h8, .inr (4, [.ref h6, .ref h0, .ref h4, .int xp, .int xs])), (h0, .inr (0, [.ref h1, .int cnt]))] Hp) : Met l yCp_places wsCp_places ({ frames := 0, cells := 0, slots := 0, locals := 0 }) (va_Pc [.ref h8] (fun U => U.heap = Hp ∧ va_K G vwCl [(cB, .byte), (cL, .long), (cI, .int)] U)) (va_Qi (fun (r : Int32) (_ : Unit) => r = (f_Cp_places cnt)) (fun _ t => t.heap = Hp) (fun _ => False)) 0 0 (fun _ => False) := by
  refine Met.ofW (cc := cCp_places) (maxL := 1) (ret := (some .int)) (by decide) rfl ?_
  intro p e s m args below meth c s₁ B hml hv
  obtain ⟨rfl, rfl, hK⟩ := hv
  have hx := B.exec
  have hb := B.bytes
  have hr := B.returns
  have hT : ∀ w ∈ tB, w.before _ s = true := fun w h => atoms_spec (ws := wsCp_places) B.pre w (List.mem_cons_of_mem _ h)
  have hown : s.vm.findClass "CompiledProgram" = some m.cls := findClass_of_methodNamed B.named
  have hlocks := B.notSynchronized
  have hA : ∀ q : Nat, (fun _ : Nat => False) q → False := fun _ h => h
  have hS : va_S (fun _ => False) s.heap s.heap [] := va_S.rf
  have hl := lv_entry ([.ref h8]) (n := 1) (Nat.le_of_ble_eq_true rfl)
  rw [lg_entry_eq]
  generalize (lg_sl ([.ref h8]) ++ List.replicate (1 - (lg_sl ([.ref h8])).length) Slot.unset).toArray = ls at hl ⊢
  have hl : lv_has ls 1 [(0, .ref h8)] := hl
  refine lv_aload_n hx hb dCp_places_0 rfl (lv_at hl 0 rfl) ?_
  refine va_get (D := G) (ci := 4) (v := .ref h0) (C := RCp) (T := TCp) (N := 5) hx hb hT inCp hown hK hP 0 rfl rfl 1 (by decide) (hT _ mw_87) (fun _ h9 => h9) rfl dCp_places_1 ?_
  refine va_get (D := G) (ci := 0) (v := .int cnt) (C := RPr) (T := TPr) (N := 2) hx hb hT inPr hown hK hP 1 rfl rfl 1 (by decide) (hT _ mw_54) (fun _ h9 => h9) rfl dCp_places_4 ?_
  exact W.iret (v := cnt) hx hb hr (fun t ht hW => ⟨⟨cnt, (), rfl, rfl, ht⟩, hS.F ht⟩) hS.2.2 dCp_places_7

def f_Cp_place (xp : Int32) : Int32 :=
  xp
set_option maxHeartbeats 4000000 in
set_option maxRecDepth 100000 in
theorem c_Cp_place (l : Launch) (G : va_G) (cB cL cI : ClassId) (Hp : Heap) (h8 : Nat) (xp : Int32) (xs : Int32) (h6 : Nat) (h0 : Nat) (h4 : Nat) (hP : va_P G vwCl [(h8, .inr (4, [.ref h6, .ref h0, .ref h4, .int xp, .int xs]))] Hp) : Met l yCp_place wsCp_place ({ frames := 0, cells := 0, slots := 0, locals := 0 }) (va_Pc [.ref h8] (fun U => U.heap = Hp ∧ va_K G vwCl [(cB, .byte), (cL, .long), (cI, .int)] U)) (va_Qi (fun (r : Int32) (_ : Unit) => r = (f_Cp_place xp)) (fun _ t => t.heap = Hp) (fun _ => False)) 0 0 (fun _ => False) := by
  refine Met.ofW (cc := cCp_place) (maxL := 1) (ret := (some .int)) (by decide) rfl ?_
  intro p e s m args below meth c s₁ B hml hv
  obtain ⟨rfl, rfl, hK⟩ := hv
  have hx := B.exec
  have hb := B.bytes
  have hr := B.returns
  have hT : ∀ w ∈ tB, w.before _ s = true := fun w h => atoms_spec (ws := wsCp_place) B.pre w (List.mem_cons_of_mem _ h)
  have hown : s.vm.findClass "CompiledProgram" = some m.cls := findClass_of_methodNamed B.named
  have hlocks := B.notSynchronized
  have hA : ∀ q : Nat, (fun _ : Nat => False) q → False := fun _ h => h
  have hS : va_S (fun _ => False) s.heap s.heap [] := va_S.rf
  have hl := lv_entry ([.ref h8]) (n := 1) (Nat.le_of_ble_eq_true rfl)
  rw [lg_entry_eq]
  generalize (lg_sl ([.ref h8]) ++ List.replicate (1 - (lg_sl ([.ref h8])).length) Slot.unset).toArray = ls at hl ⊢
  have hl : lv_has ls 1 [(0, .ref h8)] := hl
  refine lv_aload_n hx hb dCp_place_0 rfl (lv_at hl 0 rfl) ?_
  refine va_get (D := G) (ci := 4) (v := .int xp) (C := RCp) (T := TCp) (N := 5) hx hb hT inCp hown hK hP 0 rfl rfl 3 (by decide) (hT _ mw_89) (fun _ h9 => h9) rfl dCp_place_1 ?_
  exact W.iret (v := xp) hx hb hr (fun t ht hW => ⟨⟨xp, (), rfl, rfl, ht⟩, hS.F ht⟩) hS.2.2 dCp_place_4

def f_Cp_steps (xs : Int32) : Int32 :=
  xs
set_option maxHeartbeats 4000000 in
set_option maxRecDepth 100000 in
theorem c_Cp_steps (l : Launch) (G : va_G) (cB cL cI : ClassId) (Hp : Heap) (h8 : Nat) (xp : Int32) (xs : Int32) (h6 : Nat) (h0 : Nat) (h4 : Nat) (hP : va_P G vwCl [(h8, .inr (4, [.ref h6, .ref h0, .ref h4, .int xp, .int xs]))] Hp) : Met l yCp_steps wsCp_steps ({ frames := 0, cells := 0, slots := 0, locals := 0 }) (va_Pc [.ref h8] (fun U => U.heap = Hp ∧ va_K G vwCl [(cB, .byte), (cL, .long), (cI, .int)] U)) (va_Qi (fun (r : Int32) (_ : Unit) => r = (f_Cp_steps xs)) (fun _ t => t.heap = Hp) (fun _ => False)) 0 0 (fun _ => False) := by
  refine Met.ofW (cc := cCp_steps) (maxL := 1) (ret := (some .int)) (by decide) rfl ?_
  intro p e s m args below meth c s₁ B hml hv
  obtain ⟨rfl, rfl, hK⟩ := hv
  have hx := B.exec
  have hb := B.bytes
  have hr := B.returns
  have hT : ∀ w ∈ tB, w.before _ s = true := fun w h => atoms_spec (ws := wsCp_steps) B.pre w (List.mem_cons_of_mem _ h)
  have hown : s.vm.findClass "CompiledProgram" = some m.cls := findClass_of_methodNamed B.named
  have hlocks := B.notSynchronized
  have hA : ∀ q : Nat, (fun _ : Nat => False) q → False := fun _ h => h
  have hS : va_S (fun _ => False) s.heap s.heap [] := va_S.rf
  have hl := lv_entry ([.ref h8]) (n := 1) (Nat.le_of_ble_eq_true rfl)
  rw [lg_entry_eq]
  generalize (lg_sl ([.ref h8]) ++ List.replicate (1 - (lg_sl ([.ref h8])).length) Slot.unset).toArray = ls at hl ⊢
  have hl : lv_has ls 1 [(0, .ref h8)] := hl
  refine lv_aload_n hx hb dCp_steps_0 rfl (lv_at hl 0 rfl) ?_
  refine va_get (D := G) (ci := 4) (v := .int xs) (C := RCp) (T := TCp) (N := 5) hx hb hT inCp hown hK hP 0 rfl rfl 4 (by decide) (hT _ mw_90) (fun _ h9 => h9) rfl dCp_steps_1 ?_
  exact W.iret (v := xs) hx hb hr (fun t ht hW => ⟨⟨xs, (), rfl, rfl, ht⟩, hS.F ht⟩) hS.2.2 dCp_steps_4

def f_Cp_load (pn : Nat) (pf : Nat → Int64) (tf : Nat → Int32) (tl : Int32) : Int32 × (Int32) × (Nat) × (Nat → Int64) × (Int32) :=
  if (f_Fo_firstWrongForItself ((f_Pr_takeFrom pn pf tf tl).2.1) ((f_Pr_takeFrom pn pf tf tl).2.2) (if (tl - (tl / (8 : Int32)) * (8 : Int32)) = 0 then false else true)) = (-1 : Int32) then
    if (f_Fo_firstGoingWrong ((f_Pr_takeFrom pn pf tf tl).2.1) ((f_Pr_takeFrom pn pf tf tl).2.2)) = (-1 : Int32) then
      ((f_Fo_firstGoingWrong ((f_Pr_takeFrom pn pf tf tl).2.1) ((f_Pr_takeFrom pn pf tf tl).2.2)), (0 : Int32), ((f_Pr_takeFrom pn pf tf tl).1), ((f_Pr_takeFrom pn pf tf tl).2.1), ((f_Pr_takeFrom pn pf tf tl).2.2))
    else
      ((f_Fo_firstGoingWrong ((f_Pr_takeFrom pn pf tf tl).2.1) ((f_Pr_takeFrom pn pf tf tl).2.2)), (0 : Int32), ((f_Pr_takeFrom pn pf tf tl).1), ((f_Pr_takeFrom pn pf tf tl).2.1), (0 : Int32))
  else
    ((f_Fo_firstWrongForItself ((f_Pr_takeFrom pn pf tf tl).2.1) ((f_Pr_takeFrom pn pf tf tl).2.2) (if (tl - (tl / (8 : Int32)) * (8 : Int32)) = 0 then false else true)), (0 : Int32), ((f_Pr_takeFrom pn pf tf tl).1), ((f_Pr_takeFrom pn pf tf tl).2.1), (0 : Int32))
set_option maxHeartbeats 4000000 in
set_option maxRecDepth 100000 in
theorem c_Cp_load (l : Launch) (G : va_G) (cB cL cI : ClassId) (Hp : Heap) (h8 : Nat) (xp : Int32) (xs : Int32) (h4 : Nat) (h6 : Nat) (h7 : Nat) (tn : Nat) (tf : Nat → Int32) (tl : Int32) (h0 : Nat) (h1 : Nat) (pn : Nat) (pf : Nat → Int64) (cnt : Int32) (M9 : Nat) (hP : va_P G vwCl [(h8, .inr (4, [.ref h6, .ref h0, .ref h4, .int xp, .int xs])), (h6, .inr (3, [.ref h7, .int tl])), (h7, .inl (cB, tn, .inl tf)), (h0, .inr (0, [.ref h1, .int cnt])), (h1, .inl (cL, pn, .inr (.inl pf)))] Hp) (hD : va_D (fun _ => True) [(h8, .inr (4, [.ref h6, .ref h0, .ref h4, .int xp, .int xs])), (h6, .inr (3, [.ref h7, .int tl])), (h7, .inl (cB, tn, .inl tf)), (h0, .inr (0, [.ref h1, .int cnt])), (h1, .inl (cL, pn, .inr (.inl pf)))]) (ht0 : 0 ≤ tl.toInt) (ht1 : tl.toInt ≤ 32768) (htl : tl.toInt ≤ tn) (htn : tn < 1073741824) (hpn : pn ≤ 32768) (hM9 : ¬ (tl / (8 : Int32)) ≤ (nI pn) → (f_Jm_max (tl / (8 : Int32)) ((2 : Int32) * (nI pn))).toNatClampNeg ≤ M9) : Met l yCp_load wsCp_load ({ frames := 5, cells := 1, slots := M9, locals := 111 }) (va_Pc [.ref h8] (fun U => U.heap = Hp ∧ va_K G vwCl [(cB, .byte), (cL, .long), (cI, .int)] U)) (va_Qi (fun (r : Int32) (u : (Int32) × (Nat) × (Nat → Int64) × (Int32)) => (r, u) = (f_Cp_load pn pf tf tl)) (fun (u : (Int32) × (Nat) × (Nat → Int64) × (Int32)) t => ∃ (h1x : Nat), va_P G vwCl [(h8, .inr (4, [.ref h6, .ref h0, .ref h4, .int xp, .int xs])), (h6, .inr (3, [.ref h7, .int (u.1)])), (h7, .inl (cB, tn, .inl tf)), (h0, .inr (0, [.ref h1x, .int (u.2.2.2)])), (h1x, .inl (cL, (u.2.1), .inr (.inl (u.2.2.1))))] t.heap ∧ va_D (va_A [(h8, .inr (4, [.ref h6, .ref h0, .ref h4, .int xp, .int xs])), (h6, .inr (3, [.ref h7, .int tl])), (h7, .inl (cB, tn, .inl tf)), (h0, .inr (0, [.ref h1, .int cnt])), (h1, .inl (cL, pn, .inr (.inl pf)))] Hp.size) [(h8, .inr (4, [.ref h6, .ref h0, .ref h4, .int xp, .int xs])), (h6, .inr (3, [.ref h7, .int (u.1)])), (h7, .inl (cB, tn, .inl tf)), (h0, .inr (0, [.ref h1x, .int (u.2.2.2)])), (h1x, .inl (cL, (u.2.1), .inr (.inl (u.2.2.1))))]) (va_A [(h8, .inr (4, [.ref h6, .ref h0, .ref h4, .int xp, .int xs])), (h6, .inr (3, [.ref h7, .int tl])), (h7, .inl (cB, tn, .inl tf)), (h0, .inr (0, [.ref h1, .int cnt])), (h1, .inl (cL, pn, .inr (.inl pf)))] Hp.size)) 1 M9 (va_A [(h8, .inr (4, [.ref h6, .ref h0, .ref h4, .int xp, .int xs])), (h6, .inr (3, [.ref h7, .int tl])), (h7, .inl (cB, tn, .inl tf)), (h0, .inr (0, [.ref h1, .int cnt])), (h1, .inl (cL, pn, .inr (.inl pf)))] Hp.size) := by
  refine Met.ofW (cc := cCp_load) (maxL := 3) (ret := (some .int)) (by decide) rfl ?_
  intro p e s m args below meth c s₁ B hml hv
  obtain ⟨rfl, rfl, hK⟩ := hv
  have hx := B.exec
  have hb := B.bytes
  have hr := B.returns
  have hT : ∀ w ∈ tB, w.before _ s = true := fun w h => atoms_spec (ws := wsCp_load) B.pre w (List.mem_cons_of_mem _ h)
  have hown : s.vm.findClass "CompiledProgram" = some m.cls := findClass_of_methodNamed B.named
  have hlocks := B.notSynchronized
  have hD := hD.self (sz := s.heap.size)
  generalize hAe : va_A [(h8, .inr (4, [.ref h6, .ref h0, .ref h4, .int xp, .int xs])), (h6, .inr (3, [.ref h7, .int tl])), (h7, .inl (cB, tn, .inl tf)), (h0, .inr (0, [.ref h1, .int cnt])), (h1, .inl (cL, pn, .inr (.inl pf)))] s.heap.size = A at hD ⊢
  have hA : ∀ q : Nat, s.heap.size ≤ q → A q := fun q h => by rw [← hAe]; exact Or.inr h
  have hS : va_S A s.heap s.heap [] := va_S.rf
  have hl := lv_entry ([.ref h8]) (n := 3) (Nat.le_of_ble_eq_true rfl)
  rw [lg_entry_eq]
  generalize (lg_sl ([.ref h8]) ++ List.replicate (3 - (lg_sl ([.ref h8])).length) Slot.unset).toArray = ls at hl ⊢
  have hl : lv_has ls 3 [(0, .ref h8)] := hl
  refine lv_aload_n hx hb dCp_load_0 rfl (lv_at hl 0 rfl) ?_
  refine va_get (D := G) (ci := 4) (v := .ref h6) (C := RCp) (T := TCp) (N := 5) hx hb hT inCp hown hK hP 0 rfl rfl 0 (by decide) (hT _ mw_86) (fun _ h9 => h9) rfl dCp_load_1 ?_
  refine va_get (D := G) (ci := 3) (v := .int tl) (C := RTa) (T := TTa) (N := 2) hx hb hT inTa hown hK hP 1 rfl rfl 1 (by decide) (hT _ mw_38) (fun _ h9 => h9) rfl dCp_load_4 ?_
  refine lv_bipush (v := (8 : Int32)) hx hb dCp_load_7 (by decide) ?_
  refine lv_irem hx hb dCp_load_9 (by decide) ?_
  have jn1 : ∀ (x1 : Bool), x1 = (if (tl - (tl / (8 : Int32)) * (8 : Int32)) = 0 then false else true) → ∀ (locs : List Loc), va_S A s.heap s.heap locs → W p l e (headSpec wsCp_load ({ frames := 5, cells := 1, slots := M9, locals := 111 })).room s m ([.ref h8] : List Value).toArray below meth c s.heap locs 0 0 (MQ below (va_Qi (fun (r : Int32) (u : (Int32) × (Nat) × (Nat → Int64) × (Int32)) => (r, u) = (f_Cp_load pn pf tf tl)) (fun (u : (Int32) × (Nat) × (Nat → Int64) × (Int32)) t => ∃ (h1x : Nat), va_P G vwCl [(h8, .inr (4, [.ref h6, .ref h0, .ref h4, .int xp, .int xs])), (h6, .inr (3, [.ref h7, .int (u.1)])), (h7, .inl (cB, tn, .inl tf)), (h0, .inr (0, [.ref h1x, .int (u.2.2.2)])), (h1x, .inl (cL, (u.2.1), .inr (.inl (u.2.2.1))))] t.heap ∧ va_D (A) [(h8, .inr (4, [.ref h6, .ref h0, .ref h4, .int xp, .int xs])), (h6, .inr (3, [.ref h7, .int (u.1)])), (h7, .inl (cB, tn, .inl tf)), (h0, .inr (0, [.ref h1x, .int (u.2.2.2)])), (h1x, .inl (cL, (u.2.1), .inr (.inl (u.2.2.1))))]) (A)) ([.ref h8] : List Value).toArray s 1 M9 A) (F0 m 18 ls [.int (bI x1)]) := by
    intro x1 hx1 locs hS
    subst hx1
    refine lv_istore_n (lv' := [(1, .int (bI (if (tl - (tl / (8 : Int32)) * (8 : Int32)) = 0 then false else true))), (0, .ref h8)]) hx hb dCp_load_18 rfl hl (by decide) rfl (fun ls hl => ?_)
    refine lv_aload_n hx hb dCp_load_19 rfl (lv_at hl 1 rfl) ?_
    refine va_get (D := G) (ci := 4) (v := .ref h0) (C := RCp) (T := TCp) (N := 5) hx hb hT inCp hown hK hP 0 rfl rfl 1 (by decide) (hT _ mw_87) (fun _ h9 => h9) rfl dCp_load_20 ?_
    refine lv_aload_n hx hb dCp_load_23 rfl (lv_at hl 1 rfl) ?_
    refine va_get (D := G) (ci := 4) (v := .ref h6) (C := RCp) (T := TCp) (N := 5) hx hb hT inCp hown hK hP 0 rfl rfl 0 (by decide) (hT _ mw_86) (fun _ h9 => h9) rfl dCp_load_24 ?_
    have hPc := hP.sub (ws' := [(h0, .inr (0, [.ref h1, .int cnt])), (h1, .inl (cL, pn, .inr (.inl pf))), (h6, .inr (3, [.ref h7, .int tl])), (h7, .inl (cB, tn, .inl tf))]) [3, 4, 1, 2] rfl
    have hDc := hD.sub (ws' := [(h0, .inr (0, [.ref h1, .int cnt])), (h1, .inl (cL, pn, .inr (.inl pf))), (h6, .inr (3, [.ref h7, .int tl])), (h7, .inl (cB, tn, .inl tf))]) [3, 4, 1, 2] (by decide) rfl
    have hFc := va_free (wc := [(h0, .inr (0, [.ref h1, .int cnt])), (h1, .inl (cL, pn, .inr (.inl pf))), (h6, .inr (3, [.ref h7, .int tl])), (h7, .inl (cB, tn, .inl tf))]) hD hS hA [3, 4, 1, 2] rfl
    refine va_callv (va_runV (As := [.ref h6]) (rest := []) ⟨hx, hb, hml, hown, hT⟩ (c_Pr_takeFrom l G cB cL cI s.heap h0 h1 pn pf cnt h6 h7 tn tf tl M9 hPc (hDc.weaken (fun _ _ _ _ => trivial)) ht0 ht1 htl htn hpn hM9) (cwV 1 hT (gB_V mw_106 mw_107 mw_108 mw_3 mw_109) rfl rfl rfl (by decide +kernel) ⟨Nat.le_of_ble_eq_true rfl, Nat.le_of_ble_eq_true rfl⟩) ⟨fun a U g mk q => ⟨q.1, q.2.1, va_K.moved (u := U) (U := U.calling g mk a) (Vm.Alike.refl U.vm) q.2.2⟩, va_recv hK hPc (ci := 0) (q0 := 0) rfl rfl, fun U hU hW => ⟨rfl, hU, va_K.moved hW.alike hK⟩⟩ rfl rfl hl.1 rfl (lv_room (Nat.le_of_ble_eq_true rfl)) dCp_load_27 ⟨Nat.le_of_ble_eq_true rfl, (by change _ ≤ M9; omega)⟩) hS (fun q _ h => hFc q h) hFc (fun u t H locs ht hvm hw hB hz8 hk8 hS => ?_)
    subst hw
    obtain ⟨q2, hP1, hD1⟩ := hB
    rw [ht] at hP1
    obtain ⟨hP, hD⟩ := va_join (wr := [(h8, .inr (4, [.ref h6, .ref h0, .ref h4, .int xp, .int xs]))]) (w1 := [(h0, .inr (0, [.ref q2, .int ((f_Pr_takeFrom pn pf tf tl).2.2)])), (q2, .inl (cL, ((f_Pr_takeFrom pn pf tf tl).1), .inr (.inl ((f_Pr_takeFrom pn pf tf tl).2.1)))), (h6, .inr (3, [.ref h7, .int tl])), (h7, .inl (cB, tn, .inl tf))]) hP hD [3, 4, 1, 2] [0] rfl rfl (by decide) (by decide) hk8 hFc hP1 hD1
    have hP : va_P G vwCl [(h8, .inr (4, [.ref h6, .ref h0, .ref h4, .int xp, .int xs])), (h0, .inr (0, [.ref q2, .int ((f_Pr_takeFrom pn pf tf tl).2.2)])), (q2, .inl (cL, ((f_Pr_takeFrom pn pf tf tl).1), .inr (.inl ((f_Pr_takeFrom pn pf tf tl).2.1)))), (h6, .inr (3, [.ref h7, .int tl])), (h7, .inl (cB, tn, .inl tf))] H := hP
    have hD : va_D A [(h8, .inr (4, [.ref h6, .ref h0, .ref h4, .int xp, .int xs])), (h0, .inr (0, [.ref q2, .int ((f_Pr_takeFrom pn pf tf tl).2.2)])), (q2, .inl (cL, ((f_Pr_takeFrom pn pf tf tl).1), .inr (.inl ((f_Pr_takeFrom pn pf tf tl).2.1)))), (h6, .inr (3, [.ref h7, .int tl])), (h7, .inl (cB, tn, .inl tf))] := hD
    refine lv_aload_n hx hb dCp_load_30 rfl (lv_at hl 1 rfl) ?_
    refine va_get (D := G) (ci := 4) (v := .ref h6) (C := RCp) (T := TCp) (N := 5) hx hb hT inCp hown hK hP 0 rfl rfl 0 (by decide) (hT _ mw_86) (fun _ h9 => h9) rfl dCp_load_31 ?_
    refine lv_iconst (v := (0 : Int32)) hx hb dCp_load_34 (by decide) ?_
    refine va_put (D := G) (ci := 3) (v := .int (0 : Int32)) (ty := .int) (C := RTa) (T := TTa) (N := 2) hx hb hT inTa tyTa tyTa_ok nmTa hown hK hP hD hS 3 rfl rfl 1 (by decide) (hT _ mw_38) (fun _ h9 => h9) rfl (by decide +kernel) rfl rfl (Nat.le_of_ble_eq_true rfl) dCp_load_35 (fun H locs hP hD hS => ?_)
    have hP : va_P G vwCl [(h8, .inr (4, [.ref h6, .ref h0, .ref h4, .int xp, .int xs])), (h0, .inr (0, [.ref q2, .int ((f_Pr_takeFrom pn pf tf tl).2.2)])), (q2, .inl (cL, ((f_Pr_takeFrom pn pf tf tl).1), .inr (.inl ((f_Pr_takeFrom pn pf tf tl).2.1)))), (h6, .inr (3, [.ref h7, .int (0 : Int32)])), (h7, .inl (cB, tn, .inl tf))] H := hP
    have hD : va_D A [(h8, .inr (4, [.ref h6, .ref h0, .ref h4, .int xp, .int xs])), (h0, .inr (0, [.ref q2, .int ((f_Pr_takeFrom pn pf tf tl).2.2)])), (q2, .inl (cL, ((f_Pr_takeFrom pn pf tf tl).1), .inr (.inl ((f_Pr_takeFrom pn pf tf tl).2.1)))), (h6, .inr (3, [.ref h7, .int (0 : Int32)])), (h7, .inl (cB, tn, .inl tf))] := hD
    refine lv_aload_n hx hb dCp_load_38 rfl (lv_at hl 1 rfl) ?_
    refine va_get (D := G) (ci := 4) (v := .ref h0) (C := RCp) (T := TCp) (N := 5) hx hb hT inCp hown hK hP 0 rfl rfl 1 (by decide) (hT _ mw_87) (fun _ h9 => h9) rfl dCp_load_39 ?_
    refine lv_iload_n hx hb dCp_load_42 rfl (lv_at hl 0 rfl) ?_
    have hPc := hP.sub (ws' := [(h0, .inr (0, [.ref q2, .int ((f_Pr_takeFrom pn pf tf tl).2.2)])), (q2, .inl (cL, ((f_Pr_takeFrom pn pf tf tl).1), .inr (.inl ((f_Pr_takeFrom pn pf tf tl).2.1))))]) [1, 2] rfl
    refine va_calli (va_runS (As := [.ref h0, .int (bI (if (tl - (tl / (8 : Int32)) * (8 : Int32)) = 0 then false else true))]) (rest := []) ⟨hx, hb, hml, hown, hT⟩ (c_Fo_firstWrongForItself l G cB cL cI H h0 q2 ((f_Pr_takeFrom pn pf tf tl).1) ((f_Pr_takeFrom pn pf tf tl).2.1) ((f_Pr_takeFrom pn pf tf tl).2.2) (if (tl - (tl / (8 : Int32)) * (8 : Int32)) = 0 then false else true) hPc (tk_hc ht0 ht1 hpn) (tk_hn ht0 ht1 hpn)) (va_cwS 2 hT (gB_SV mw_117 mw_118 mw_15 mw_119) rfl rfl rfl (by decide +kernel) ⟨Nat.le_of_ble_eq_true rfl, Nat.le_of_ble_eq_true rfl⟩) ⟨fun a U g mk q => ⟨q.1, q.2.1, va_K.moved (u := U) (U := U.calling g mk a) (Vm.Alike.refl U.vm) q.2.2⟩, fun U hU hW => ⟨rfl, hU, va_K.moved hW.alike hK⟩⟩ rfl rfl hl.1 rfl (lv_room (Nat.le_of_ble_eq_true rfl)) dCp_load_43 ⟨Nat.le_of_ble_eq_true rfl, (by change _ ≤ M9; omega)⟩) hS (fun _ _ h => h.elim) (fun _ h => h.elim) (fun r u t H1 locs ht hvm hw hB hz8 hk8 hS => ?_)
    obtain rfl : H = H1 := hB.symm.trans ht
    subst hw
    refine lv_istore_n (lv' := [(2, .int (f_Fo_firstWrongForItself ((f_Pr_takeFrom pn pf tf tl).2.1) ((f_Pr_takeFrom pn pf tf tl).2.2) (if (tl - (tl / (8 : Int32)) * (8 : Int32)) = 0 then false else true))), (1, .int (bI (if (tl - (tl / (8 : Int32)) * (8 : Int32)) = 0 then false else true))), (0, .ref h8)]) hx hb dCp_load_46 rfl hl (by decide) rfl (fun ls hl => ?_)
    refine lv_iload_n hx hb dCp_load_47 rfl (lv_at hl 0 rfl) ?_
    refine lv_iconst (v := (-1 : Int32)) hx hb dCp_load_48 (by decide) ?_
    refine lv_icmp_ne (tgt := 60) hx hb dCp_load_49 (by decide) (fun c3 => ?_) (fun c3 => ?_)
    · skip
      refine lv_iload_n hx hb dCp_load_60 rfl (lv_at hl 0 rfl) ?_
      refine lv_iconst (v := (-1 : Int32)) hx hb dCp_load_61 (by decide) ?_
      refine lv_icmp_eq (tgt := 73) hx hb dCp_load_62 (by decide) (fun c4 => ?_) (fun c4 => ?_)
      · skip
        exact absurd c4 c3
      · skip
        refine lv_aload_n hx hb dCp_load_65 rfl (lv_at hl 2 rfl) ?_
        refine va_get (D := G) (ci := 4) (v := .ref h0) (C := RCp) (T := TCp) (N := 5) hx hb hT inCp hown hK hP 0 rfl rfl 1 (by decide) (hT _ mw_87) (fun _ h9 => h9) rfl dCp_load_66 ?_
        refine lv_iconst (v := (0 : Int32)) hx hb dCp_load_69 (by decide) ?_
        refine va_put (D := G) (ci := 0) (v := .int (0 : Int32)) (ty := .int) (C := RPr) (T := TPr) (N := 2) hx hb hT inPr tyPr tyPr_ok nmPr hown hK hP hD hS 1 rfl rfl 1 (by decide) (hT _ mw_54) (fun _ h9 => h9) rfl (by decide +kernel) rfl rfl (Nat.le_of_ble_eq_true rfl) dCp_load_70 (fun H locs hP hD hS => ?_)
        have hP : va_P G vwCl [(h8, .inr (4, [.ref h6, .ref h0, .ref h4, .int xp, .int xs])), (h0, .inr (0, [.ref q2, .int (0 : Int32)])), (q2, .inl (cL, ((f_Pr_takeFrom pn pf tf tl).1), .inr (.inl ((f_Pr_takeFrom pn pf tf tl).2.1)))), (h6, .inr (3, [.ref h7, .int (0 : Int32)])), (h7, .inl (cB, tn, .inl tf))] H := hP
        have hD : va_D A [(h8, .inr (4, [.ref h6, .ref h0, .ref h4, .int xp, .int xs])), (h0, .inr (0, [.ref q2, .int (0 : Int32)])), (q2, .inl (cL, ((f_Pr_takeFrom pn pf tf tl).1), .inr (.inl ((f_Pr_takeFrom pn pf tf tl).2.1)))), (h6, .inr (3, [.ref h7, .int (0 : Int32)])), (h7, .inl (cB, tn, .inl tf))] := hD
        refine lv_iload_n hx hb dCp_load_73 rfl (lv_at hl 0 rfl) ?_
        have hP9 := hP.sub (ws' := [(h8, .inr (4, [.ref h6, .ref h0, .ref h4, .int xp, .int xs])), (h6, .inr (3, [.ref h7, .int (0 : Int32)])), (h7, .inl (cB, tn, .inl tf)), (h0, .inr (0, [.ref q2, .int (0 : Int32)])), (q2, .inl (cL, ((f_Pr_takeFrom pn pf tf tl).1), .inr (.inl ((f_Pr_takeFrom pn pf tf tl).2.1))))]) [0, 3, 4, 1, 2] rfl
        have hD9 := hD.sub (ws' := [(h8, .inr (4, [.ref h6, .ref h0, .ref h4, .int xp, .int xs])), (h6, .inr (3, [.ref h7, .int (0 : Int32)])), (h7, .inl (cB, tn, .inl tf)), (h0, .inr (0, [.ref q2, .int (0 : Int32)])), (q2, .inl (cL, ((f_Pr_takeFrom pn pf tf tl).1), .inr (.inl ((f_Pr_takeFrom pn pf tf tl).2.1))))]) [0, 3, 4, 1, 2] (by decide) rfl
        refine W.widen (k := 1) (n := M9) (Nat.le_of_ble_eq_true rfl) (by omega) ?_
        exact W.iret (v := (f_Fo_firstWrongForItself ((f_Pr_takeFrom pn pf tf tl).2.1) ((f_Pr_takeFrom pn pf tf tl).2.2) (if (tl - (tl / (8 : Int32)) * (8 : Int32)) = 0 then false else true))) hx hb hr (fun t ht hW => ⟨⟨(f_Fo_firstWrongForItself ((f_Pr_takeFrom pn pf tf tl).2.1) ((f_Pr_takeFrom pn pf tf tl).2.2) (if (tl - (tl / (8 : Int32)) * (8 : Int32)) = 0 then false else true)), ((0 : Int32), ((f_Pr_takeFrom pn pf tf tl).1), ((f_Pr_takeFrom pn pf tf tl).2.1), (0 : Int32)), rfl, (by unfold f_Cp_load; rw [if_neg c3]; try rfl), q2, by rw [ht]; exact hP9, hD9⟩, hS.F ht⟩) hS.2.2 dCp_load_74
    · skip
      refine lv_aload_n hx hb dCp_load_52 rfl (lv_at hl 2 rfl) ?_
      refine va_get (D := G) (ci := 4) (v := .ref h0) (C := RCp) (T := TCp) (N := 5) hx hb hT inCp hown hK hP 0 rfl rfl 1 (by decide) (hT _ mw_87) (fun _ h9 => h9) rfl dCp_load_53 ?_
      have hPc := hP.sub (ws' := [(h0, .inr (0, [.ref q2, .int ((f_Pr_takeFrom pn pf tf tl).2.2)])), (q2, .inl (cL, ((f_Pr_takeFrom pn pf tf tl).1), .inr (.inl ((f_Pr_takeFrom pn pf tf tl).2.1))))]) [1, 2] rfl
      refine va_calli (va_runS (As := [.ref h0]) (rest := []) ⟨hx, hb, hml, hown, hT⟩ (c_Fo_firstGoingWrong l G cB cL cI H h0 q2 ((f_Pr_takeFrom pn pf tf tl).1) ((f_Pr_takeFrom pn pf tf tl).2.1) ((f_Pr_takeFrom pn pf tf tl).2.2) hPc (tk_hc ht0 ht1 hpn) (tk_hn ht0 ht1 hpn)) (va_cwS 1 hT (gB_SV mw_214 mw_215 mw_15 mw_216) rfl rfl rfl (by decide +kernel) ⟨Nat.le_of_ble_eq_true rfl, Nat.le_of_ble_eq_true rfl⟩) ⟨fun a U g mk q => ⟨q.1, q.2.1, va_K.moved (u := U) (U := U.calling g mk a) (Vm.Alike.refl U.vm) q.2.2⟩, fun U hU hW => ⟨rfl, hU, va_K.moved hW.alike hK⟩⟩ rfl rfl hl.1 rfl (lv_room (Nat.le_of_ble_eq_true rfl)) dCp_load_56 ⟨Nat.le_of_ble_eq_true rfl, (by change _ ≤ M9; omega)⟩) hS (fun _ _ h => h.elim) (fun _ h => h.elim) (fun r u t H1 locs ht hvm hw hB hz8 hk8 hS => ?_)
      obtain rfl : H = H1 := hB.symm.trans ht
      subst hw
      refine lv_istore_n (lv' := [(2, .int (f_Fo_firstGoingWrong ((f_Pr_takeFrom pn pf tf tl).2.1) ((f_Pr_takeFrom pn pf tf tl).2.2))), (1, .int (bI (if (tl - (tl / (8 : Int32)) * (8 : Int32)) = 0 then false else true))), (0, .ref h8)]) hx hb dCp_load_59 rfl hl (by decide) rfl (fun ls hl => ?_)
      refine lv_iload_n hx hb dCp_load_60 rfl (lv_at hl 0 rfl) ?_
      refine lv_iconst (v := (-1 : Int32)) hx hb dCp_load_61 (by decide) ?_
      refine lv_icmp_eq (tgt := 73) hx hb dCp_load_62 (by decide) (fun c5 => ?_) (fun c5 => ?_)
      · skip
        refine lv_iload_n hx hb dCp_load_73 rfl (lv_at hl 0 rfl) ?_
        have hP9 := hP.sub (ws' := [(h8, .inr (4, [.ref h6, .ref h0, .ref h4, .int xp, .int xs])), (h6, .inr (3, [.ref h7, .int (0 : Int32)])), (h7, .inl (cB, tn, .inl tf)), (h0, .inr (0, [.ref q2, .int ((f_Pr_takeFrom pn pf tf tl).2.2)])), (q2, .inl (cL, ((f_Pr_takeFrom pn pf tf tl).1), .inr (.inl ((f_Pr_takeFrom pn pf tf tl).2.1))))]) [0, 3, 4, 1, 2] rfl
        have hD9 := hD.sub (ws' := [(h8, .inr (4, [.ref h6, .ref h0, .ref h4, .int xp, .int xs])), (h6, .inr (3, [.ref h7, .int (0 : Int32)])), (h7, .inl (cB, tn, .inl tf)), (h0, .inr (0, [.ref q2, .int ((f_Pr_takeFrom pn pf tf tl).2.2)])), (q2, .inl (cL, ((f_Pr_takeFrom pn pf tf tl).1), .inr (.inl ((f_Pr_takeFrom pn pf tf tl).2.1))))]) [0, 3, 4, 1, 2] (by decide) rfl
        refine W.widen (k := 1) (n := M9) (Nat.le_of_ble_eq_true rfl) (by omega) ?_
        exact W.iret (v := (f_Fo_firstGoingWrong ((f_Pr_takeFrom pn pf tf tl).2.1) ((f_Pr_takeFrom pn pf tf tl).2.2))) hx hb hr (fun t ht hW => ⟨⟨(f_Fo_firstGoingWrong ((f_Pr_takeFrom pn pf tf tl).2.1) ((f_Pr_takeFrom pn pf tf tl).2.2)), ((0 : Int32), ((f_Pr_takeFrom pn pf tf tl).1), ((f_Pr_takeFrom pn pf tf tl).2.1), ((f_Pr_takeFrom pn pf tf tl).2.2)), rfl, (by unfold f_Cp_load; rw [if_pos c3, if_pos c5]; try rfl), q2, by rw [ht]; exact hP9, hD9⟩, hS.F ht⟩) hS.2.2 dCp_load_74
      · skip
        refine lv_aload_n hx hb dCp_load_65 rfl (lv_at hl 2 rfl) ?_
        refine va_get (D := G) (ci := 4) (v := .ref h0) (C := RCp) (T := TCp) (N := 5) hx hb hT inCp hown hK hP 0 rfl rfl 1 (by decide) (hT _ mw_87) (fun _ h9 => h9) rfl dCp_load_66 ?_
        refine lv_iconst (v := (0 : Int32)) hx hb dCp_load_69 (by decide) ?_
        refine va_put (D := G) (ci := 0) (v := .int (0 : Int32)) (ty := .int) (C := RPr) (T := TPr) (N := 2) hx hb hT inPr tyPr tyPr_ok nmPr hown hK hP hD hS 1 rfl rfl 1 (by decide) (hT _ mw_54) (fun _ h9 => h9) rfl (by decide +kernel) rfl rfl (Nat.le_of_ble_eq_true rfl) dCp_load_70 (fun H locs hP hD hS => ?_)
        have hP : va_P G vwCl [(h8, .inr (4, [.ref h6, .ref h0, .ref h4, .int xp, .int xs])), (h0, .inr (0, [.ref q2, .int (0 : Int32)])), (q2, .inl (cL, ((f_Pr_takeFrom pn pf tf tl).1), .inr (.inl ((f_Pr_takeFrom pn pf tf tl).2.1)))), (h6, .inr (3, [.ref h7, .int (0 : Int32)])), (h7, .inl (cB, tn, .inl tf))] H := hP
        have hD : va_D A [(h8, .inr (4, [.ref h6, .ref h0, .ref h4, .int xp, .int xs])), (h0, .inr (0, [.ref q2, .int (0 : Int32)])), (q2, .inl (cL, ((f_Pr_takeFrom pn pf tf tl).1), .inr (.inl ((f_Pr_takeFrom pn pf tf tl).2.1)))), (h6, .inr (3, [.ref h7, .int (0 : Int32)])), (h7, .inl (cB, tn, .inl tf))] := hD
        refine lv_iload_n hx hb dCp_load_73 rfl (lv_at hl 0 rfl) ?_
        have hP9 := hP.sub (ws' := [(h8, .inr (4, [.ref h6, .ref h0, .ref h4, .int xp, .int xs])), (h6, .inr (3, [.ref h7, .int (0 : Int32)])), (h7, .inl (cB, tn, .inl tf)), (h0, .inr (0, [.ref q2, .int (0 : Int32)])), (q2, .inl (cL, ((f_Pr_takeFrom pn pf tf tl).1), .inr (.inl ((f_Pr_takeFrom pn pf tf tl).2.1))))]) [0, 3, 4, 1, 2] rfl
        have hD9 := hD.sub (ws' := [(h8, .inr (4, [.ref h6, .ref h0, .ref h4, .int xp, .int xs])), (h6, .inr (3, [.ref h7, .int (0 : Int32)])), (h7, .inl (cB, tn, .inl tf)), (h0, .inr (0, [.ref q2, .int (0 : Int32)])), (q2, .inl (cL, ((f_Pr_takeFrom pn pf tf tl).1), .inr (.inl ((f_Pr_takeFrom pn pf tf tl).2.1))))]) [0, 3, 4, 1, 2] (by decide) rfl
        refine W.widen (k := 1) (n := M9) (Nat.le_of_ble_eq_true rfl) (by omega) ?_
        exact W.iret (v := (f_Fo_firstGoingWrong ((f_Pr_takeFrom pn pf tf tl).2.1) ((f_Pr_takeFrom pn pf tf tl).2.2))) hx hb hr (fun t ht hW => ⟨⟨(f_Fo_firstGoingWrong ((f_Pr_takeFrom pn pf tf tl).2.1) ((f_Pr_takeFrom pn pf tf tl).2.2)), ((0 : Int32), ((f_Pr_takeFrom pn pf tf tl).1), ((f_Pr_takeFrom pn pf tf tl).2.1), (0 : Int32)), rfl, (by unfold f_Cp_load; rw [if_pos c3, if_neg c5]; try rfl), q2, by rw [ht]; exact hP9, hD9⟩, hS.F ht⟩) hS.2.2 dCp_load_74
  refine lv_if_eq (tgt := 17) hx hb dCp_load_10 (by decide) (fun c6 => ?_) (fun c6 => ?_)
  · skip
    refine lv_iconst (v := (0 : Int32)) hx hb dCp_load_17 (by decide) ?_
    exact jn1 false (by rw [if_pos c6]) _ hS
  · skip
    refine lv_iconst (v := (1 : Int32)) hx hb dCp_load_13 (by decide) ?_
    refine lv_goto (tgt := 18) hx hb dCp_load_14 (by decide) ?_
    exact jn1 true (by rw [if_neg c6]) _ hS
