abbrev wxLa_feed : List Cond := .codeWith yLa_feed cLa_feed 8 (some .int) [(0, 16, 19, 13)] :: tB
abbrev wxLa_end : List Cond := .codeWith yLa_end cLa_end 3 (some .int) [(0, 5, 8, 19)] :: tB
abbrev wxLa_set : List Cond := .codeWith yLa_set cLa_set 5 (some .int) [(0, 6, 9, 25)] :: tB
abbrev wxLa_get : List Cond := .codeWith yLa_get cLa_get 4 (some .int) [(0, 8, 11, 25)] :: tB
abbrev wxLa_put : List Cond := .codeWith yLa_put cLa_put 6 (some .int) [(0, 6, 9, 25)] :: tB
abbrev wxLa_word : List Cond := .codeWith yLa_word cLa_word 5 (some .int) [(0, 8, 11, 25)] :: tB
abbrev wxLa_run : List Cond := .codeWith yLa_run cLa_run 4 (some .int) [(0, 9, 12, 19), (0, 9, 15, 13)] :: tB

def f_La_end (tl : Int32) (a1 : Int32) : Int32 × (Int32) :=
  ((0 : Int32), ((f_Cp_end tl a1)))
set_option maxHeartbeats 4000000 in
set_option maxRecDepth 100000 in
theorem c_La_end (l : Launch) (G : va_G) (cB cL cI : ClassId) (Hp : Heap) (h8 : Nat) (xp : Int32) (xs : Int32) (h6 : Nat) (h0 : Nat) (h4 : Nat) (h7 : Nat) (tl : Int32) (a1 : Int32) (hP : va_P G vwCl [(h8, .inr (4, [.ref h6, .ref h0, .ref h4, .int xp, .int xs])), (h6, .inr (3, [.ref h7, .int tl]))] Hp) (hD : va_D (fun _ => True) [(h8, .inr (4, [.ref h6, .ref h0, .ref h4, .int xp, .int xs])), (h6, .inr (3, [.ref h7, .int tl]))]) (he0 : ¬ a1 < 0) (he1 : a1 ≤ tl) : Met l yLa_end wxLa_end ({ frames := 1, cells := 0, slots := 0, locals := 21 }) (va_Pc [.ref h8, .int a1] (fun U => U.heap = Hp ∧ va_K G vwCl [(cB, .byte), (cL, .long), (cI, .int)] U)) (va_Qi (fun (r : Int32) (u : (Int32)) => (r, u) = (f_La_end tl a1)) (fun (u : (Int32)) t => va_P G vwCl [(h8, .inr (4, [.ref h6, .ref h0, .ref h4, .int xp, .int xs])), (h6, .inr (3, [.ref h7, .int (u)]))] t.heap ∧ va_D (va_A [(h8, .inr (4, [.ref h6, .ref h0, .ref h4, .int xp, .int xs])), (h6, .inr (3, [.ref h7, .int tl]))] Hp.size) [(h8, .inr (4, [.ref h6, .ref h0, .ref h4, .int xp, .int xs])), (h6, .inr (3, [.ref h7, .int (u)]))]) (va_A [(h8, .inr (4, [.ref h6, .ref h0, .ref h4, .int xp, .int xs])), (h6, .inr (3, [.ref h7, .int tl]))] Hp.size)) 0 0 (va_A [(h8, .inr (4, [.ref h6, .ref h0, .ref h4, .int xp, .int xs])), (h6, .inr (3, [.ref h7, .int tl]))] Hp.size) := by
  refine va_MetW (hh := [(0, 5, 8, 19)]) (cc := cLa_end) (maxL := 3) (ret := (some .int)) (by decide) rfl ?_
  intro p e s m args below meth c s₁ B hml hv
  obtain ⟨rfl, rfl, hK⟩ := hv
  have hx := B.exec
  have hb := B.bytes
  have hr := B.returns
  have hT : ∀ w ∈ tB, w.before _ s = true := fun w h => atoms_spec (ws := wxLa_end) B.pre w (List.mem_cons_of_mem _ h)
  have hown : s.vm.findClass "CompiledProgramLaw" = some m.cls := findClass_of_methodNamed B.named
  have hlocks := B.notSynchronized
  have hD := hD.self (sz := s.heap.size)
  generalize hAe : va_A [(h8, .inr (4, [.ref h6, .ref h0, .ref h4, .int xp, .int xs])), (h6, .inr (3, [.ref h7, .int tl]))] s.heap.size = A at hD ⊢
  have hA : ∀ q : Nat, s.heap.size ≤ q → A q := fun q h => by rw [← hAe]; exact Or.inr h
  have hS : va_S A s.heap s.heap [] := va_S.rf
  have hl := lv_entry ([.ref h8, .int a1]) (n := 3) (Nat.le_of_ble_eq_true rfl)
  rw [lg_entry_eq]
  generalize (lg_sl ([.ref h8, .int a1]) ++ List.replicate (3 - (lg_sl ([.ref h8, .int a1])).length) Slot.unset).toArray = ls at hl ⊢
  have hl : lv_has ls 3 [(0, .ref h8), (1, .int a1)] := hl
  refine lv_aload_n hx hb dLa_end_0 rfl (lv_at hl 0 rfl) ?_
  refine lv_iload_n hx hb dLa_end_1 rfl (lv_at hl 1 rfl) ?_
  have hPc := hP.sub (ws' := [(h8, .inr (4, [.ref h6, .ref h0, .ref h4, .int xp, .int xs])), (h6, .inr (3, [.ref h7, .int tl]))]) [0, 1] rfl
  have hDc := hD.sub (ws' := [(h8, .inr (4, [.ref h6, .ref h0, .ref h4, .int xp, .int xs])), (h6, .inr (3, [.ref h7, .int tl]))]) [0, 1] (by decide) rfl
  have hFc := va_free (wc := [(h8, .inr (4, [.ref h6, .ref h0, .ref h4, .int xp, .int xs])), (h6, .inr (3, [.ref h7, .int tl]))]) hD hS hA [0, 1] rfl
  refine va_callv (va_runV (As := [.int a1]) (rest := []) ⟨hx, hb, hml, hown, hT⟩ (c_Cp_end l G cB cL cI s.heap h8 xp xs h6 h0 h4 h7 tl a1 hPc (hDc.weaken (fun _ _ _ _ => trivial)) he0 he1) (cwV 1 hT (gB_V mw_355 mw_356 mw_357 mw_1 mw_358) rfl rfl rfl (by decide +kernel) ⟨Nat.le_of_ble_eq_true rfl, Nat.le_of_ble_eq_true rfl⟩) ⟨fun a U g mk q => ⟨q.1, q.2.1, va_K.moved (u := U) (U := U.calling g mk a) (Vm.Alike.refl U.vm) q.2.2⟩, va_recv hK hPc (ci := 4) (q0 := 0) rfl rfl, fun U hU hW => ⟨rfl, hU, va_K.moved hW.alike hK⟩⟩ rfl rfl hl.1 rfl (lv_room (Nat.le_of_ble_eq_true rfl)) dLa_end_2 ⟨Nat.zero_le _, Nat.zero_le _⟩) hS (fun q _ h => hFc q h) hFc (fun u t H locs ht hvm hw hB hz8 hk8 hS => ?_)
  rw [show u = (f_Cp_end tl a1) from hw] at hB
  obtain ⟨hP1, hD1⟩ := hB
  rw [ht] at hP1
  obtain ⟨hP, hD⟩ := va_join (wr := []) (w1 := [(h8, .inr (4, [.ref h6, .ref h0, .ref h4, .int xp, .int xs])), (h6, .inr (3, [.ref h7, .int ((f_Cp_end tl a1))]))]) hP hD [0, 1] [] rfl rfl (by decide) (by decide) hk8 hFc hP1 hD1
  have hP : va_P G vwCl [(h8, .inr (4, [.ref h6, .ref h0, .ref h4, .int xp, .int xs])), (h6, .inr (3, [.ref h7, .int ((f_Cp_end tl a1))]))] H := hP
  have hD : va_D A [(h8, .inr (4, [.ref h6, .ref h0, .ref h4, .int xp, .int xs])), (h6, .inr (3, [.ref h7, .int ((f_Cp_end tl a1))]))] := hD
  refine lv_goto (tgt := 11) hx hb dLa_end_5 (by decide) ?_
  refine lv_iconst (v := (0 : Int32)) hx hb dLa_end_11 (by decide) ?_
  have hP9 := hP.sub (ws' := [(h8, .inr (4, [.ref h6, .ref h0, .ref h4, .int xp, .int xs])), (h6, .inr (3, [.ref h7, .int ((f_Cp_end tl a1))]))]) [0, 1] rfl
  have hD9 := hD.sub (ws' := [(h8, .inr (4, [.ref h6, .ref h0, .ref h4, .int xp, .int xs])), (h6, .inr (3, [.ref h7, .int ((f_Cp_end tl a1))]))]) [0, 1] (by decide) rfl
  exact W.iret (v := (0 : Int32)) hx hb hr (fun t ht hW => ⟨⟨(0 : Int32), (((f_Cp_end tl a1))), rfl, rfl, by rw [ht]; exact hP9, hD9⟩, hS.F ht⟩) hS.2.2 dLa_end_12

def f_La_set (rf : Nat → Int64) (a1 : Int32) (a2 : Int64) : Int32 × (Nat → Int64) :=
  ((0 : Int32), ((f_Cp_set rf a1 a2)))
set_option maxHeartbeats 4000000 in
set_option maxRecDepth 100000 in
theorem c_La_set (l : Launch) (G : va_G) (cB cL cI : ClassId) (Hp : Heap) (h8 : Nat) (xp : Int32) (xs : Int32) (h6 : Nat) (h0 : Nat) (h4 : Nat) (h5 : Nat) (h2 : Nat) (rf : Nat → Int64) (a1 : Int32) (a2 : Int64) (hP : va_P G vwCl [(h8, .inr (4, [.ref h6, .ref h0, .ref h4, .int xp, .int xs])), (h4, .inr (2, [.ref h5, .ref h2])), (h5, .inl (cL, 16, .inr (.inl rf)))] Hp) (hD : va_D (fun _ => True) [(h8, .inr (4, [.ref h6, .ref h0, .ref h4, .int xp, .int xs])), (h4, .inr (2, [.ref h5, .ref h2])), (h5, .inl (cL, 16, .inr (.inl rf)))]) (hr0 : ¬ a1 < 0) (hr1 : a1 < (11 : Int32)) : Met l yLa_set wxLa_set ({ frames := 1, cells := 0, slots := 0, locals := 23 }) (va_Pc [.ref h8, .int a1, .long a2] (fun U => U.heap = Hp ∧ va_K G vwCl [(cB, .byte), (cL, .long), (cI, .int)] U)) (va_Qi (fun (r : Int32) (u : (Nat → Int64)) => (r, u) = (f_La_set rf a1 a2)) (fun (u : (Nat → Int64)) t => va_P G vwCl [(h8, .inr (4, [.ref h6, .ref h0, .ref h4, .int xp, .int xs])), (h4, .inr (2, [.ref h5, .ref h2])), (h5, .inl (cL, 16, .inr (.inl (u))))] t.heap ∧ va_D (va_A [(h8, .inr (4, [.ref h6, .ref h0, .ref h4, .int xp, .int xs])), (h4, .inr (2, [.ref h5, .ref h2])), (h5, .inl (cL, 16, .inr (.inl rf)))] Hp.size) [(h8, .inr (4, [.ref h6, .ref h0, .ref h4, .int xp, .int xs])), (h4, .inr (2, [.ref h5, .ref h2])), (h5, .inl (cL, 16, .inr (.inl (u))))]) (va_A [(h8, .inr (4, [.ref h6, .ref h0, .ref h4, .int xp, .int xs])), (h4, .inr (2, [.ref h5, .ref h2])), (h5, .inl (cL, 16, .inr (.inl rf)))] Hp.size)) 0 0 (va_A [(h8, .inr (4, [.ref h6, .ref h0, .ref h4, .int xp, .int xs])), (h4, .inr (2, [.ref h5, .ref h2])), (h5, .inl (cL, 16, .inr (.inl rf)))] Hp.size) := by
  refine va_MetW (hh := [(0, 6, 9, 25)]) (cc := cLa_set) (maxL := 5) (ret := (some .int)) (by decide) rfl ?_
  intro p e s m args below meth c s₁ B hml hv
  obtain ⟨rfl, rfl, hK⟩ := hv
  have hx := B.exec
  have hb := B.bytes
  have hr := B.returns
  have hT : ∀ w ∈ tB, w.before _ s = true := fun w h => atoms_spec (ws := wxLa_set) B.pre w (List.mem_cons_of_mem _ h)
  have hown : s.vm.findClass "CompiledProgramLaw" = some m.cls := findClass_of_methodNamed B.named
  have hlocks := B.notSynchronized
  have hD := hD.self (sz := s.heap.size)
  generalize hAe : va_A [(h8, .inr (4, [.ref h6, .ref h0, .ref h4, .int xp, .int xs])), (h4, .inr (2, [.ref h5, .ref h2])), (h5, .inl (cL, 16, .inr (.inl rf)))] s.heap.size = A at hD ⊢
  have hA : ∀ q : Nat, s.heap.size ≤ q → A q := fun q h => by rw [← hAe]; exact Or.inr h
  have hS : va_S A s.heap s.heap [] := va_S.rf
  have hl := lv_entry ([.ref h8, .int a1, .long a2]) (n := 5) (Nat.le_of_ble_eq_true rfl)
  rw [lg_entry_eq]
  generalize (lg_sl ([.ref h8, .int a1, .long a2]) ++ List.replicate (5 - (lg_sl ([.ref h8, .int a1, .long a2])).length) Slot.unset).toArray = ls at hl ⊢
  have hl : lv_has ls 5 [(0, .ref h8), (1, .int a1), (2, .long a2)] := hl
  refine lv_aload_n hx hb dLa_set_0 rfl (lv_at hl 0 rfl) ?_
  refine lv_iload_n hx hb dLa_set_1 rfl (lv_at hl 1 rfl) ?_
  refine lv_lload_n hx hb dLa_set_2 rfl (lv_at hl 2 rfl) ?_
  have hPc := hP.sub (ws' := [(h8, .inr (4, [.ref h6, .ref h0, .ref h4, .int xp, .int xs])), (h4, .inr (2, [.ref h5, .ref h2])), (h5, .inl (cL, 16, .inr (.inl rf)))]) [0, 1, 2] rfl
  have hDc := hD.sub (ws' := [(h8, .inr (4, [.ref h6, .ref h0, .ref h4, .int xp, .int xs])), (h4, .inr (2, [.ref h5, .ref h2])), (h5, .inl (cL, 16, .inr (.inl rf)))]) [0, 1, 2] (by decide) rfl
  have hFc := va_free (wc := [(h8, .inr (4, [.ref h6, .ref h0, .ref h4, .int xp, .int xs])), (h4, .inr (2, [.ref h5, .ref h2])), (h5, .inl (cL, 16, .inr (.inl rf)))]) hD hS hA [0, 1, 2] rfl
  refine va_callv (va_runV (As := [.int a1, .long a2]) (rest := []) ⟨hx, hb, hml, hown, hT⟩ (c_Cp_set l G cB cL cI s.heap h8 xp xs h6 h0 h4 h5 h2 rf a1 a2 hPc (hDc.weaken (fun _ _ _ _ => trivial)) hr0 hr1) (cwV 2 hT (gB_V mw_379 mw_380 mw_381 mw_1 mw_382) rfl rfl rfl (by decide +kernel) ⟨Nat.le_of_ble_eq_true rfl, Nat.le_of_ble_eq_true rfl⟩) ⟨fun a U g mk q => ⟨q.1, q.2.1, va_K.moved (u := U) (U := U.calling g mk a) (Vm.Alike.refl U.vm) q.2.2⟩, va_recv hK hPc (ci := 4) (q0 := 0) rfl rfl, fun U hU hW => ⟨rfl, hU, va_K.moved hW.alike hK⟩⟩ rfl rfl hl.1 rfl (lv_room (Nat.le_of_ble_eq_true rfl)) dLa_set_3 ⟨Nat.zero_le _, Nat.zero_le _⟩) hS (fun q _ h => hFc q h) hFc (fun u t H locs ht hvm hw hB hz8 hk8 hS => ?_)
  rw [show u = (f_Cp_set rf a1 a2) from hw] at hB
  obtain ⟨hP1, hD1⟩ := hB
  rw [ht] at hP1
  obtain ⟨hP, hD⟩ := va_join (wr := []) (w1 := [(h8, .inr (4, [.ref h6, .ref h0, .ref h4, .int xp, .int xs])), (h4, .inr (2, [.ref h5, .ref h2])), (h5, .inl (cL, 16, .inr (.inl ((f_Cp_set rf a1 a2)))))]) hP hD [0, 1, 2] [] rfl rfl (by decide) (by decide) hk8 hFc hP1 hD1
  have hP : va_P G vwCl [(h8, .inr (4, [.ref h6, .ref h0, .ref h4, .int xp, .int xs])), (h4, .inr (2, [.ref h5, .ref h2])), (h5, .inl (cL, 16, .inr (.inl ((f_Cp_set rf a1 a2)))))] H := hP
  have hD : va_D A [(h8, .inr (4, [.ref h6, .ref h0, .ref h4, .int xp, .int xs])), (h4, .inr (2, [.ref h5, .ref h2])), (h5, .inl (cL, 16, .inr (.inl ((f_Cp_set rf a1 a2)))))] := hD
  refine lv_goto (tgt := 13) hx hb dLa_set_6 (by decide) ?_
  refine lv_iconst (v := (0 : Int32)) hx hb dLa_set_13 (by decide) ?_
  have hP9 := hP.sub (ws' := [(h8, .inr (4, [.ref h6, .ref h0, .ref h4, .int xp, .int xs])), (h4, .inr (2, [.ref h5, .ref h2])), (h5, .inl (cL, 16, .inr (.inl ((f_Cp_set rf a1 a2)))))]) [0, 1, 2] rfl
  have hD9 := hD.sub (ws' := [(h8, .inr (4, [.ref h6, .ref h0, .ref h4, .int xp, .int xs])), (h4, .inr (2, [.ref h5, .ref h2])), (h5, .inl (cL, 16, .inr (.inl ((f_Cp_set rf a1 a2)))))]) [0, 1, 2] (by decide) rfl
  exact W.iret (v := (0 : Int32)) hx hb hr (fun t ht hW => ⟨⟨(0 : Int32), (((f_Cp_set rf a1 a2))), rfl, rfl, by rw [ht]; exact hP9, hD9⟩, hS.F ht⟩) hS.2.2 dLa_set_14

def f_La_get (rf : Nat → Int64) (of : Nat → Int64) (a1 : Int32) : Int32 × (Nat → Int64) :=
  ((0 : Int32), (vp_updL of (0 : Int32).toNatClampNeg (f_Cp_get rf a1)))
set_option maxHeartbeats 4000000 in
set_option maxRecDepth 100000 in
theorem c_La_get (l : Launch) (G : va_G) (cB cL cI : ClassId) (Hp : Heap) (h8 : Nat) (xp : Int32) (xs : Int32) (h6 : Nat) (h0 : Nat) (h4 : Nat) (h5 : Nat) (h2 : Nat) (rf : Nat → Int64) (qo : Nat) (of : Nat → Int64) (a1 : Int32) (hP : va_P G vwCl [(h8, .inr (4, [.ref h6, .ref h0, .ref h4, .int xp, .int xs])), (h4, .inr (2, [.ref h5, .ref h2])), (h5, .inl (cL, 16, .inr (.inl rf))), (qo, .inl (cL, 1, .inr (.inl of)))] Hp) (hD : va_D (fun _ => True) [(h8, .inr (4, [.ref h6, .ref h0, .ref h4, .int xp, .int xs])), (h4, .inr (2, [.ref h5, .ref h2])), (h5, .inl (cL, 16, .inr (.inl rf))), (qo, .inl (cL, 1, .inr (.inl of)))]) (hr0 : ¬ a1 < 0) (hr1 : a1 < (11 : Int32)) : Met l yLa_get wxLa_get ({ frames := 1, cells := 0, slots := 0, locals := 21 }) (va_Pc [.ref h8, .int a1, .ref qo] (fun U => U.heap = Hp ∧ va_K G vwCl [(cB, .byte), (cL, .long), (cI, .int)] U)) (va_Qi (fun (r : Int32) (u : (Nat → Int64)) => (r, u) = (f_La_get rf of a1)) (fun (u : (Nat → Int64)) t => va_P G vwCl [(h8, .inr (4, [.ref h6, .ref h0, .ref h4, .int xp, .int xs])), (h4, .inr (2, [.ref h5, .ref h2])), (h5, .inl (cL, 16, .inr (.inl rf))), (qo, .inl (cL, 1, .inr (.inl (u))))] t.heap ∧ va_D (va_A [(h8, .inr (4, [.ref h6, .ref h0, .ref h4, .int xp, .int xs])), (h4, .inr (2, [.ref h5, .ref h2])), (h5, .inl (cL, 16, .inr (.inl rf))), (qo, .inl (cL, 1, .inr (.inl of)))] Hp.size) [(h8, .inr (4, [.ref h6, .ref h0, .ref h4, .int xp, .int xs])), (h4, .inr (2, [.ref h5, .ref h2])), (h5, .inl (cL, 16, .inr (.inl rf))), (qo, .inl (cL, 1, .inr (.inl (u))))]) (va_A [(h8, .inr (4, [.ref h6, .ref h0, .ref h4, .int xp, .int xs])), (h4, .inr (2, [.ref h5, .ref h2])), (h5, .inl (cL, 16, .inr (.inl rf))), (qo, .inl (cL, 1, .inr (.inl of)))] Hp.size)) 0 0 (va_A [(h8, .inr (4, [.ref h6, .ref h0, .ref h4, .int xp, .int xs])), (h4, .inr (2, [.ref h5, .ref h2])), (h5, .inl (cL, 16, .inr (.inl rf))), (qo, .inl (cL, 1, .inr (.inl of)))] Hp.size) := by
  refine va_MetW (hh := [(0, 8, 11, 25)]) (cc := cLa_get) (maxL := 4) (ret := (some .int)) (by decide) rfl ?_
  intro p e s m args below meth c s₁ B hml hv
  obtain ⟨rfl, rfl, hK⟩ := hv
  have hx := B.exec
  have hb := B.bytes
  have hr := B.returns
  have hT : ∀ w ∈ tB, w.before _ s = true := fun w h => atoms_spec (ws := wxLa_get) B.pre w (List.mem_cons_of_mem _ h)
  have hown : s.vm.findClass "CompiledProgramLaw" = some m.cls := findClass_of_methodNamed B.named
  have hlocks := B.notSynchronized
  have hD := hD.self (sz := s.heap.size)
  generalize hAe : va_A [(h8, .inr (4, [.ref h6, .ref h0, .ref h4, .int xp, .int xs])), (h4, .inr (2, [.ref h5, .ref h2])), (h5, .inl (cL, 16, .inr (.inl rf))), (qo, .inl (cL, 1, .inr (.inl of)))] s.heap.size = A at hD ⊢
  have hA : ∀ q : Nat, s.heap.size ≤ q → A q := fun q h => by rw [← hAe]; exact Or.inr h
  have hS : va_S A s.heap s.heap [] := va_S.rf
  have hl := lv_entry ([.ref h8, .int a1, .ref qo]) (n := 4) (Nat.le_of_ble_eq_true rfl)
  rw [lg_entry_eq]
  generalize (lg_sl ([.ref h8, .int a1, .ref qo]) ++ List.replicate (4 - (lg_sl ([.ref h8, .int a1, .ref qo])).length) Slot.unset).toArray = ls at hl ⊢
  have hl : lv_has ls 4 [(0, .ref h8), (1, .int a1), (2, .ref qo)] := hl
  refine lv_aload_n hx hb dLa_get_0 rfl (lv_at hl 2 rfl) ?_
  refine lv_iconst (v := (0 : Int32)) hx hb dLa_get_1 (by decide) ?_
  refine lv_aload_n hx hb dLa_get_2 rfl (lv_at hl 0 rfl) ?_
  refine lv_iload_n hx hb dLa_get_3 rfl (lv_at hl 1 rfl) ?_
  have hPc := hP.sub (ws' := [(h8, .inr (4, [.ref h6, .ref h0, .ref h4, .int xp, .int xs])), (h4, .inr (2, [.ref h5, .ref h2])), (h5, .inl (cL, 16, .inr (.inl rf)))]) [0, 1, 2] rfl
  refine va_calll (va_runV (As := [.int a1]) (rest := [.int (0 : Int32), .ref qo]) ⟨hx, hb, hml, hown, hT⟩ (c_Cp_get l G cB cL cI s.heap h8 xp xs h6 h0 h4 h5 h2 rf a1 hPc hr0 hr1) (cwV 1 hT (gB_V mw_402 mw_403 mw_404 mw_1 mw_405) rfl rfl rfl (by decide +kernel) ⟨Nat.le_of_ble_eq_true rfl, Nat.le_of_ble_eq_true rfl⟩) ⟨fun a U g mk q => ⟨q.1, q.2.1, va_K.moved (u := U) (U := U.calling g mk a) (Vm.Alike.refl U.vm) q.2.2⟩, va_recv hK hPc (ci := 4) (q0 := 0) rfl rfl, fun U hU hW => ⟨rfl, hU, va_K.moved hW.alike hK⟩⟩ rfl rfl hl.1 rfl (lv_room (Nat.le_of_ble_eq_true rfl)) dLa_get_4 ⟨Nat.zero_le _, Nat.zero_le _⟩) hS (fun _ _ h => h.elim) (fun _ h => h.elim) (fun r u t H1 locs ht hvm hw hB hz8 hk8 hS => ?_)
  obtain rfl : s.heap = H1 := hB.symm.trans ht
  subst hw
  refine va_last hx hb hK hP hD hS 3 1 rfl rfl (by unfold vp_in; decide) dLa_get_7 (fun H locs hP hD hS => ?_)
  have hP : va_P G vwCl [(h8, .inr (4, [.ref h6, .ref h0, .ref h4, .int xp, .int xs])), (h4, .inr (2, [.ref h5, .ref h2])), (h5, .inl (cL, 16, .inr (.inl rf))), (qo, .inl (cL, 1, .inr (.inl (vp_updL of (0 : Int32).toNatClampNeg (f_Cp_get rf a1)))))] H := hP
  have hD : va_D A [(h8, .inr (4, [.ref h6, .ref h0, .ref h4, .int xp, .int xs])), (h4, .inr (2, [.ref h5, .ref h2])), (h5, .inl (cL, 16, .inr (.inl rf))), (qo, .inl (cL, 1, .inr (.inl (vp_updL of (0 : Int32).toNatClampNeg (f_Cp_get rf a1)))))] := hD
  refine lv_goto (tgt := 14) hx hb dLa_get_8 (by decide) ?_
  refine lv_iconst (v := (0 : Int32)) hx hb dLa_get_14 (by decide) ?_
  have hP9 := hP.sub (ws' := [(h8, .inr (4, [.ref h6, .ref h0, .ref h4, .int xp, .int xs])), (h4, .inr (2, [.ref h5, .ref h2])), (h5, .inl (cL, 16, .inr (.inl rf))), (qo, .inl (cL, 1, .inr (.inl (vp_updL of (0 : Int32).toNatClampNeg (f_Cp_get rf a1)))))]) [0, 1, 2, 3] rfl
  have hD9 := hD.sub (ws' := [(h8, .inr (4, [.ref h6, .ref h0, .ref h4, .int xp, .int xs])), (h4, .inr (2, [.ref h5, .ref h2])), (h5, .inl (cL, 16, .inr (.inl rf))), (qo, .inl (cL, 1, .inr (.inl (vp_updL of (0 : Int32).toNatClampNeg (f_Cp_get rf a1)))))]) [0, 1, 2, 3] (by decide) rfl
  exact W.iret (v := (0 : Int32)) hx hb hr (fun t ht hW => ⟨⟨(0 : Int32), ((vp_updL of (0 : Int32).toNatClampNeg (f_Cp_get rf a1))), rfl, rfl, by rw [ht]; exact hP9, hD9⟩, hS.F ht⟩) hS.2.2 dLa_get_15

def f_La_put (mf : Nat → Int32) (a1 : Int64) (a2 : Int64) : Int32 × (Nat → Int32) :=
  ((0 : Int32), ((f_Cp_put mf a1 a2)))
set_option maxHeartbeats 4000000 in
set_option maxRecDepth 100000 in
theorem c_La_put (l : Launch) (G : va_G) (cB cL cI : ClassId) (Hp : Heap) (h8 : Nat) (xp : Int32) (xs : Int32) (h6 : Nat) (h0 : Nat) (h4 : Nat) (h5 : Nat) (rf : Nat → Int64) (h2 : Nat) (h3 : Nat) (mf : Nat → Int32) (a1 : Int64) (a2 : Int64) (hP : va_P G vwCl [(h8, .inr (4, [.ref h6, .ref h0, .ref h4, .int xp, .int xs])), (h4, .inr (2, [.ref h5, .ref h2])), (h5, .inl (cL, 16, .inr (.inl rf))), (h2, .inr (1, [.ref h3])), (h3, .inl (cB, 4096, .inl mf))] Hp) (hD : va_D (fun _ => True) [(h8, .inr (4, [.ref h6, .ref h0, .ref h4, .int xp, .int xs])), (h4, .inr (2, [.ref h5, .ref h2])), (h5, .inl (cL, 16, .inr (.inl rf))), (h2, .inr (1, [.ref h3])), (h3, .inl (cB, 4096, .inl mf))]) (hh : (f_Me_holds a1 (8 : Int32)) = true) : Met l yLa_put wxLa_put ({ frames := 3, cells := 0, slots := 0, locals := 76 }) (va_Pc [.ref h8, .long a1, .long a2] (fun U => U.heap = Hp ∧ va_K G vwCl [(cB, .byte), (cL, .long), (cI, .int)] U)) (va_Qi (fun (r : Int32) (u : (Nat → Int32)) => (r, u) = (f_La_put mf a1 a2)) (fun (u : (Nat → Int32)) t => va_P G vwCl [(h8, .inr (4, [.ref h6, .ref h0, .ref h4, .int xp, .int xs])), (h4, .inr (2, [.ref h5, .ref h2])), (h5, .inl (cL, 16, .inr (.inl rf))), (h2, .inr (1, [.ref h3])), (h3, .inl (cB, 4096, .inl (u)))] t.heap ∧ va_D (va_A [(h8, .inr (4, [.ref h6, .ref h0, .ref h4, .int xp, .int xs])), (h4, .inr (2, [.ref h5, .ref h2])), (h5, .inl (cL, 16, .inr (.inl rf))), (h2, .inr (1, [.ref h3])), (h3, .inl (cB, 4096, .inl mf))] Hp.size) [(h8, .inr (4, [.ref h6, .ref h0, .ref h4, .int xp, .int xs])), (h4, .inr (2, [.ref h5, .ref h2])), (h5, .inl (cL, 16, .inr (.inl rf))), (h2, .inr (1, [.ref h3])), (h3, .inl (cB, 4096, .inl (u)))]) (va_A [(h8, .inr (4, [.ref h6, .ref h0, .ref h4, .int xp, .int xs])), (h4, .inr (2, [.ref h5, .ref h2])), (h5, .inl (cL, 16, .inr (.inl rf))), (h2, .inr (1, [.ref h3])), (h3, .inl (cB, 4096, .inl mf))] Hp.size)) 0 0 (va_A [(h8, .inr (4, [.ref h6, .ref h0, .ref h4, .int xp, .int xs])), (h4, .inr (2, [.ref h5, .ref h2])), (h5, .inl (cL, 16, .inr (.inl rf))), (h2, .inr (1, [.ref h3])), (h3, .inl (cB, 4096, .inl mf))] Hp.size) := by
  refine va_MetW (hh := [(0, 6, 9, 25)]) (cc := cLa_put) (maxL := 6) (ret := (some .int)) (by decide) rfl ?_
  intro p e s m args below meth c s₁ B hml hv
  obtain ⟨rfl, rfl, hK⟩ := hv
  have hx := B.exec
  have hb := B.bytes
  have hr := B.returns
  have hT : ∀ w ∈ tB, w.before _ s = true := fun w h => atoms_spec (ws := wxLa_put) B.pre w (List.mem_cons_of_mem _ h)
  have hown : s.vm.findClass "CompiledProgramLaw" = some m.cls := findClass_of_methodNamed B.named
  have hlocks := B.notSynchronized
  have hD := hD.self (sz := s.heap.size)
  generalize hAe : va_A [(h8, .inr (4, [.ref h6, .ref h0, .ref h4, .int xp, .int xs])), (h4, .inr (2, [.ref h5, .ref h2])), (h5, .inl (cL, 16, .inr (.inl rf))), (h2, .inr (1, [.ref h3])), (h3, .inl (cB, 4096, .inl mf))] s.heap.size = A at hD ⊢
  have hA : ∀ q : Nat, s.heap.size ≤ q → A q := fun q h => by rw [← hAe]; exact Or.inr h
  have hS : va_S A s.heap s.heap [] := va_S.rf
  have hl := lv_entry ([.ref h8, .long a1, .long a2]) (n := 6) (Nat.le_of_ble_eq_true rfl)
  rw [lg_entry_eq]
  generalize (lg_sl ([.ref h8, .long a1, .long a2]) ++ List.replicate (6 - (lg_sl ([.ref h8, .long a1, .long a2])).length) Slot.unset).toArray = ls at hl ⊢
  have hl : lv_has ls 6 [(0, .ref h8), (1, .long a1), (3, .long a2)] := hl
  refine lv_aload_n hx hb dLa_put_0 rfl (lv_at hl 0 rfl) ?_
  refine lv_lload_n hx hb dLa_put_1 rfl (lv_at hl 1 rfl) ?_
  refine lv_lload_n hx hb dLa_put_2 rfl (lv_at hl 2 rfl) ?_
  have hPc := hP.sub (ws' := [(h8, .inr (4, [.ref h6, .ref h0, .ref h4, .int xp, .int xs])), (h4, .inr (2, [.ref h5, .ref h2])), (h5, .inl (cL, 16, .inr (.inl rf))), (h2, .inr (1, [.ref h3])), (h3, .inl (cB, 4096, .inl mf))]) [0, 1, 2, 3, 4] rfl
  have hDc := hD.sub (ws' := [(h8, .inr (4, [.ref h6, .ref h0, .ref h4, .int xp, .int xs])), (h4, .inr (2, [.ref h5, .ref h2])), (h5, .inl (cL, 16, .inr (.inl rf))), (h2, .inr (1, [.ref h3])), (h3, .inl (cB, 4096, .inl mf))]) [0, 1, 2, 3, 4] (by decide) rfl
  have hFc := va_free (wc := [(h8, .inr (4, [.ref h6, .ref h0, .ref h4, .int xp, .int xs])), (h4, .inr (2, [.ref h5, .ref h2])), (h5, .inl (cL, 16, .inr (.inl rf))), (h2, .inr (1, [.ref h3])), (h3, .inl (cB, 4096, .inl mf))]) hD hS hA [0, 1, 2, 3, 4] rfl
  refine va_callv (va_runV (As := [.long a1, .long a2]) (rest := []) ⟨hx, hb, hml, hown, hT⟩ (c_Cp_put l G cB cL cI s.heap h8 xp xs h6 h0 h4 h5 rf h2 h3 mf a1 a2 hPc (hDc.weaken (fun _ _ _ _ => trivial)) hh) (cwV 2 hT (gB_V mw_409 mw_410 mw_411 mw_1 mw_412) rfl rfl rfl (by decide +kernel) ⟨Nat.le_of_ble_eq_true rfl, Nat.le_of_ble_eq_true rfl⟩) ⟨fun a U g mk q => ⟨q.1, q.2.1, va_K.moved (u := U) (U := U.calling g mk a) (Vm.Alike.refl U.vm) q.2.2⟩, va_recv hK hPc (ci := 4) (q0 := 0) rfl rfl, fun U hU hW => ⟨rfl, hU, va_K.moved hW.alike hK⟩⟩ rfl rfl hl.1 rfl (lv_room (Nat.le_of_ble_eq_true rfl)) dLa_put_3 ⟨Nat.zero_le _, Nat.zero_le _⟩) hS (fun q _ h => hFc q h) hFc (fun u t H locs ht hvm hw hB hz8 hk8 hS => ?_)
  rw [show u = (f_Cp_put mf a1 a2) from hw] at hB
  obtain ⟨hP1, hD1⟩ := hB
  rw [ht] at hP1
  obtain ⟨hP, hD⟩ := va_join (wr := []) (w1 := [(h8, .inr (4, [.ref h6, .ref h0, .ref h4, .int xp, .int xs])), (h4, .inr (2, [.ref h5, .ref h2])), (h5, .inl (cL, 16, .inr (.inl rf))), (h2, .inr (1, [.ref h3])), (h3, .inl (cB, 4096, .inl ((f_Cp_put mf a1 a2))))]) hP hD [0, 1, 2, 3, 4] [] rfl rfl (by decide) (by decide) hk8 hFc hP1 hD1
  have hP : va_P G vwCl [(h8, .inr (4, [.ref h6, .ref h0, .ref h4, .int xp, .int xs])), (h4, .inr (2, [.ref h5, .ref h2])), (h5, .inl (cL, 16, .inr (.inl rf))), (h2, .inr (1, [.ref h3])), (h3, .inl (cB, 4096, .inl ((f_Cp_put mf a1 a2))))] H := hP
  have hD : va_D A [(h8, .inr (4, [.ref h6, .ref h0, .ref h4, .int xp, .int xs])), (h4, .inr (2, [.ref h5, .ref h2])), (h5, .inl (cL, 16, .inr (.inl rf))), (h2, .inr (1, [.ref h3])), (h3, .inl (cB, 4096, .inl ((f_Cp_put mf a1 a2))))] := hD
  refine lv_goto (tgt := 13) hx hb dLa_put_6 (by decide) ?_
  refine lv_iconst (v := (0 : Int32)) hx hb dLa_put_13 (by decide) ?_
  have hP9 := hP.sub (ws' := [(h8, .inr (4, [.ref h6, .ref h0, .ref h4, .int xp, .int xs])), (h4, .inr (2, [.ref h5, .ref h2])), (h5, .inl (cL, 16, .inr (.inl rf))), (h2, .inr (1, [.ref h3])), (h3, .inl (cB, 4096, .inl ((f_Cp_put mf a1 a2))))]) [0, 1, 2, 3, 4] rfl
  have hD9 := hD.sub (ws' := [(h8, .inr (4, [.ref h6, .ref h0, .ref h4, .int xp, .int xs])), (h4, .inr (2, [.ref h5, .ref h2])), (h5, .inl (cL, 16, .inr (.inl rf))), (h2, .inr (1, [.ref h3])), (h3, .inl (cB, 4096, .inl ((f_Cp_put mf a1 a2))))]) [0, 1, 2, 3, 4] (by decide) rfl
  exact W.iret (v := (0 : Int32)) hx hb hr (fun t ht hW => ⟨⟨(0 : Int32), (((f_Cp_put mf a1 a2))), rfl, rfl, by rw [ht]; exact hP9, hD9⟩, hS.F ht⟩) hS.2.2 dLa_put_14

def f_La_word (mf : Nat → Int32) (of : Nat → Int64) (a1 : Int64) : Int32 × (Nat → Int64) :=
  ((0 : Int32), (vp_updL of (0 : Int32).toNatClampNeg (f_Cp_word mf a1)))
set_option maxHeartbeats 4000000 in
set_option maxRecDepth 100000 in
theorem c_La_word (l : Launch) (G : va_G) (cB cL cI : ClassId) (Hp : Heap) (h8 : Nat) (xp : Int32) (xs : Int32) (h6 : Nat) (h0 : Nat) (h4 : Nat) (h5 : Nat) (rf : Nat → Int64) (h2 : Nat) (h3 : Nat) (mf : Nat → Int32) (qo : Nat) (of : Nat → Int64) (a1 : Int64) (hP : va_P G vwCl [(h8, .inr (4, [.ref h6, .ref h0, .ref h4, .int xp, .int xs])), (h4, .inr (2, [.ref h5, .ref h2])), (h5, .inl (cL, 16, .inr (.inl rf))), (h2, .inr (1, [.ref h3])), (h3, .inl (cB, 4096, .inl mf)), (qo, .inl (cL, 1, .inr (.inl of)))] Hp) (hD : va_D (fun _ => True) [(h8, .inr (4, [.ref h6, .ref h0, .ref h4, .int xp, .int xs])), (h4, .inr (2, [.ref h5, .ref h2])), (h5, .inl (cL, 16, .inr (.inl rf))), (h2, .inr (1, [.ref h3])), (h3, .inl (cB, 4096, .inl mf)), (qo, .inl (cL, 1, .inr (.inl of)))]) (hh : (f_Me_holds a1 (8 : Int32)) = true) : Met l yLa_word wxLa_word ({ frames := 3, cells := 0, slots := 0, locals := 74 }) (va_Pc [.ref h8, .long a1, .ref qo] (fun U => U.heap = Hp ∧ va_K G vwCl [(cB, .byte), (cL, .long), (cI, .int)] U)) (va_Qi (fun (r : Int32) (u : (Nat → Int64)) => (r, u) = (f_La_word mf of a1)) (fun (u : (Nat → Int64)) t => va_P G vwCl [(h8, .inr (4, [.ref h6, .ref h0, .ref h4, .int xp, .int xs])), (h4, .inr (2, [.ref h5, .ref h2])), (h5, .inl (cL, 16, .inr (.inl rf))), (h2, .inr (1, [.ref h3])), (h3, .inl (cB, 4096, .inl mf)), (qo, .inl (cL, 1, .inr (.inl (u))))] t.heap ∧ va_D (va_A [(h8, .inr (4, [.ref h6, .ref h0, .ref h4, .int xp, .int xs])), (h4, .inr (2, [.ref h5, .ref h2])), (h5, .inl (cL, 16, .inr (.inl rf))), (h2, .inr (1, [.ref h3])), (h3, .inl (cB, 4096, .inl mf)), (qo, .inl (cL, 1, .inr (.inl of)))] Hp.size) [(h8, .inr (4, [.ref h6, .ref h0, .ref h4, .int xp, .int xs])), (h4, .inr (2, [.ref h5, .ref h2])), (h5, .inl (cL, 16, .inr (.inl rf))), (h2, .inr (1, [.ref h3])), (h3, .inl (cB, 4096, .inl mf)), (qo, .inl (cL, 1, .inr (.inl (u))))]) (va_A [(h8, .inr (4, [.ref h6, .ref h0, .ref h4, .int xp, .int xs])), (h4, .inr (2, [.ref h5, .ref h2])), (h5, .inl (cL, 16, .inr (.inl rf))), (h2, .inr (1, [.ref h3])), (h3, .inl (cB, 4096, .inl mf)), (qo, .inl (cL, 1, .inr (.inl of)))] Hp.size)) 0 0 (va_A [(h8, .inr (4, [.ref h6, .ref h0, .ref h4, .int xp, .int xs])), (h4, .inr (2, [.ref h5, .ref h2])), (h5, .inl (cL, 16, .inr (.inl rf))), (h2, .inr (1, [.ref h3])), (h3, .inl (cB, 4096, .inl mf)), (qo, .inl (cL, 1, .inr (.inl of)))] Hp.size) := by
  refine va_MetW (hh := [(0, 8, 11, 25)]) (cc := cLa_word) (maxL := 5) (ret := (some .int)) (by decide) rfl ?_
  intro p e s m args below meth c s₁ B hml hv
  obtain ⟨rfl, rfl, hK⟩ := hv
  have hx := B.exec
  have hb := B.bytes
  have hr := B.returns
  have hT : ∀ w ∈ tB, w.before _ s = true := fun w h => atoms_spec (ws := wxLa_word) B.pre w (List.mem_cons_of_mem _ h)
  have hown : s.vm.findClass "CompiledProgramLaw" = some m.cls := findClass_of_methodNamed B.named
  have hlocks := B.notSynchronized
  have hD := hD.self (sz := s.heap.size)
  generalize hAe : va_A [(h8, .inr (4, [.ref h6, .ref h0, .ref h4, .int xp, .int xs])), (h4, .inr (2, [.ref h5, .ref h2])), (h5, .inl (cL, 16, .inr (.inl rf))), (h2, .inr (1, [.ref h3])), (h3, .inl (cB, 4096, .inl mf)), (qo, .inl (cL, 1, .inr (.inl of)))] s.heap.size = A at hD ⊢
  have hA : ∀ q : Nat, s.heap.size ≤ q → A q := fun q h => by rw [← hAe]; exact Or.inr h
  have hS : va_S A s.heap s.heap [] := va_S.rf
  have hl := lv_entry ([.ref h8, .long a1, .ref qo]) (n := 5) (Nat.le_of_ble_eq_true rfl)
  rw [lg_entry_eq]
  generalize (lg_sl ([.ref h8, .long a1, .ref qo]) ++ List.replicate (5 - (lg_sl ([.ref h8, .long a1, .ref qo])).length) Slot.unset).toArray = ls at hl ⊢
  have hl : lv_has ls 5 [(0, .ref h8), (1, .long a1), (3, .ref qo)] := hl
  refine lv_aload_n hx hb dLa_word_0 rfl (lv_at hl 2 rfl) ?_
  refine lv_iconst (v := (0 : Int32)) hx hb dLa_word_1 (by decide) ?_
  refine lv_aload_n hx hb dLa_word_2 rfl (lv_at hl 0 rfl) ?_
  refine lv_lload_n hx hb dLa_word_3 rfl (lv_at hl 1 rfl) ?_
  have hPc := hP.sub (ws' := [(h8, .inr (4, [.ref h6, .ref h0, .ref h4, .int xp, .int xs])), (h4, .inr (2, [.ref h5, .ref h2])), (h5, .inl (cL, 16, .inr (.inl rf))), (h2, .inr (1, [.ref h3])), (h3, .inl (cB, 4096, .inl mf))]) [0, 1, 2, 3, 4] rfl
  refine va_calll (va_runV (As := [.long a1]) (rest := [.int (0 : Int32), .ref qo]) ⟨hx, hb, hml, hown, hT⟩ (c_Cp_word l G cB cL cI s.heap h8 xp xs h6 h0 h4 h5 rf h2 h3 mf a1 hPc hh) (cwV 1 hT (gB_V mw_427 mw_428 mw_429 mw_1 mw_430) rfl rfl rfl (by decide +kernel) ⟨Nat.le_of_ble_eq_true rfl, Nat.le_of_ble_eq_true rfl⟩) ⟨fun a U g mk q => ⟨q.1, q.2.1, va_K.moved (u := U) (U := U.calling g mk a) (Vm.Alike.refl U.vm) q.2.2⟩, va_recv hK hPc (ci := 4) (q0 := 0) rfl rfl, fun U hU hW => ⟨rfl, hU, va_K.moved hW.alike hK⟩⟩ rfl rfl hl.1 rfl (lv_room (Nat.le_of_ble_eq_true rfl)) dLa_word_4 ⟨Nat.zero_le _, Nat.zero_le _⟩) hS (fun _ _ h => h.elim) (fun _ h => h.elim) (fun r u t H1 locs ht hvm hw hB hz8 hk8 hS => ?_)
  obtain rfl : s.heap = H1 := hB.symm.trans ht
  subst hw
  refine va_last hx hb hK hP hD hS 5 1 rfl rfl (by unfold vp_in; decide) dLa_word_7 (fun H locs hP hD hS => ?_)
  have hP : va_P G vwCl [(h8, .inr (4, [.ref h6, .ref h0, .ref h4, .int xp, .int xs])), (h4, .inr (2, [.ref h5, .ref h2])), (h5, .inl (cL, 16, .inr (.inl rf))), (h2, .inr (1, [.ref h3])), (h3, .inl (cB, 4096, .inl mf)), (qo, .inl (cL, 1, .inr (.inl (vp_updL of (0 : Int32).toNatClampNeg (f_Cp_word mf a1)))))] H := hP
  have hD : va_D A [(h8, .inr (4, [.ref h6, .ref h0, .ref h4, .int xp, .int xs])), (h4, .inr (2, [.ref h5, .ref h2])), (h5, .inl (cL, 16, .inr (.inl rf))), (h2, .inr (1, [.ref h3])), (h3, .inl (cB, 4096, .inl mf)), (qo, .inl (cL, 1, .inr (.inl (vp_updL of (0 : Int32).toNatClampNeg (f_Cp_word mf a1)))))] := hD
  refine lv_goto (tgt := 15) hx hb dLa_word_8 (by decide) ?_
  refine lv_iconst (v := (0 : Int32)) hx hb dLa_word_15 (by decide) ?_
  have hP9 := hP.sub (ws' := [(h8, .inr (4, [.ref h6, .ref h0, .ref h4, .int xp, .int xs])), (h4, .inr (2, [.ref h5, .ref h2])), (h5, .inl (cL, 16, .inr (.inl rf))), (h2, .inr (1, [.ref h3])), (h3, .inl (cB, 4096, .inl mf)), (qo, .inl (cL, 1, .inr (.inl (vp_updL of (0 : Int32).toNatClampNeg (f_Cp_word mf a1)))))]) [0, 1, 2, 3, 4, 5] rfl
  have hD9 := hD.sub (ws' := [(h8, .inr (4, [.ref h6, .ref h0, .ref h4, .int xp, .int xs])), (h4, .inr (2, [.ref h5, .ref h2])), (h5, .inl (cL, 16, .inr (.inl rf))), (h2, .inr (1, [.ref h3])), (h3, .inl (cB, 4096, .inl mf)), (qo, .inl (cL, 1, .inr (.inl (vp_updL of (0 : Int32).toNatClampNeg (f_Cp_word mf a1)))))]) [0, 1, 2, 3, 4, 5] (by decide) rfl
  exact W.iret (v := (0 : Int32)) hx hb hr (fun t ht hW => ⟨⟨(0 : Int32), ((vp_updL of (0 : Int32).toNatClampNeg (f_Cp_word mf a1))), rfl, rfl, by rw [ht]; exact hP9, hD9⟩, hS.F ht⟩) hS.2.2 dLa_word_16

def f_La_run (xp : Int32) (xs : Int32) (rf : Nat → Int64) (mf : Nat → Int32) (pf : Nat → Int64) (cnt : Int32) (of : Nat → Int64) (a1 : Int32) : Int32 × (Int32) × (Int32) × (Nat → Int64) × (Nat → Int32) × (Nat → Int64) :=
  ((0 : Int32), ((f_Cp_run xp xs rf mf pf cnt a1).2.1), ((f_Cp_run xp xs rf mf pf cnt a1).2.2.1), ((f_Cp_run xp xs rf mf pf cnt a1).2.2.2.1), ((f_Cp_run xp xs rf mf pf cnt a1).2.2.2.2), (vp_updL of (0 : Int32).toNatClampNeg ((f_Cp_run xp xs rf mf pf cnt a1).1.toInt64)))
set_option maxHeartbeats 4000000 in
set_option maxRecDepth 100000 in
theorem c_La_run (l : Launch) (G : va_G) (cB cL cI : ClassId) (Hp : Heap) (h8 : Nat) (xp : Int32) (xs : Int32) (h6 : Nat) (h4 : Nat) (h5 : Nat) (rf : Nat → Int64) (h2 : Nat) (h3 : Nat) (mf : Nat → Int32) (h0 : Nat) (h1 : Nat) (pn : Nat) (pf : Nat → Int64) (cnt : Int32) (qo : Nat) (of : Nat → Int64) (a1 : Int32) (hP : va_P G vwCl [(h8, .inr (4, [.ref h6, .ref h0, .ref h4, .int xp, .int xs])), (h4, .inr (2, [.ref h5, .ref h2])), (h5, .inl (cL, 16, .inr (.inl rf))), (h2, .inr (1, [.ref h3])), (h3, .inl (cB, 4096, .inl mf)), (h0, .inr (0, [.ref h1, .int cnt])), (h1, .inl (cL, pn, .inr (.inl pf))), (qo, .inl (cL, 1, .inr (.inl of)))] Hp) (hD : va_D (fun _ => True) [(h8, .inr (4, [.ref h6, .ref h0, .ref h4, .int xp, .int xs])), (h4, .inr (2, [.ref h5, .ref h2])), (h5, .inl (cL, 16, .inr (.inl rf))), (h2, .inr (1, [.ref h3])), (h3, .inl (cB, 4096, .inl mf)), (h0, .inr (0, [.ref h1, .int cnt])), (h1, .inl (cL, pn, .inr (.inl pf))), (qo, .inl (cL, 1, .inr (.inl of)))]) (hf0 : ¬ a1 < 0) (hf1 : a1 ≤ (100000 : Int32)) (hcn : ¬ cnt = 0) (hc : cnt.toInt ≤ pn) : Met l yLa_run wxLa_run ({ frames := 8, cells := 0, slots := 0, locals := 193 }) (va_Pc [.ref h8, .int a1, .ref qo] (fun U => U.heap = Hp ∧ va_K G vwCl [(cB, .byte), (cL, .long), (cI, .int)] U)) (va_Qi (fun (r : Int32) (u : (Int32) × (Int32) × (Nat → Int64) × (Nat → Int32) × (Nat → Int64)) => (r, u) = (f_La_run xp xs rf mf pf cnt of a1)) (fun (u : (Int32) × (Int32) × (Nat → Int64) × (Nat → Int32) × (Nat → Int64)) t => va_P G vwCl [(h8, .inr (4, [.ref h6, .ref h0, .ref h4, .int (u.1), .int (u.2.1)])), (h4, .inr (2, [.ref h5, .ref h2])), (h5, .inl (cL, 16, .inr (.inl (u.2.2.1)))), (h2, .inr (1, [.ref h3])), (h3, .inl (cB, 4096, .inl (u.2.2.2.1))), (h0, .inr (0, [.ref h1, .int cnt])), (h1, .inl (cL, pn, .inr (.inl pf))), (qo, .inl (cL, 1, .inr (.inl (u.2.2.2.2))))] t.heap ∧ va_D (va_A [(h8, .inr (4, [.ref h6, .ref h0, .ref h4, .int xp, .int xs])), (h4, .inr (2, [.ref h5, .ref h2])), (h5, .inl (cL, 16, .inr (.inl rf))), (h2, .inr (1, [.ref h3])), (h3, .inl (cB, 4096, .inl mf)), (h0, .inr (0, [.ref h1, .int cnt])), (h1, .inl (cL, pn, .inr (.inl pf))), (qo, .inl (cL, 1, .inr (.inl of)))] Hp.size) [(h8, .inr (4, [.ref h6, .ref h0, .ref h4, .int (u.1), .int (u.2.1)])), (h4, .inr (2, [.ref h5, .ref h2])), (h5, .inl (cL, 16, .inr (.inl (u.2.2.1)))), (h2, .inr (1, [.ref h3])), (h3, .inl (cB, 4096, .inl (u.2.2.2.1))), (h0, .inr (0, [.ref h1, .int cnt])), (h1, .inl (cL, pn, .inr (.inl pf))), (qo, .inl (cL, 1, .inr (.inl (u.2.2.2.2))))]) (va_A [(h8, .inr (4, [.ref h6, .ref h0, .ref h4, .int xp, .int xs])), (h4, .inr (2, [.ref h5, .ref h2])), (h5, .inl (cL, 16, .inr (.inl rf))), (h2, .inr (1, [.ref h3])), (h3, .inl (cB, 4096, .inl mf)), (h0, .inr (0, [.ref h1, .int cnt])), (h1, .inl (cL, pn, .inr (.inl pf))), (qo, .inl (cL, 1, .inr (.inl of)))] Hp.size)) 0 0 (va_A [(h8, .inr (4, [.ref h6, .ref h0, .ref h4, .int xp, .int xs])), (h4, .inr (2, [.ref h5, .ref h2])), (h5, .inl (cL, 16, .inr (.inl rf))), (h2, .inr (1, [.ref h3])), (h3, .inl (cB, 4096, .inl mf)), (h0, .inr (0, [.ref h1, .int cnt])), (h1, .inl (cL, pn, .inr (.inl pf))), (qo, .inl (cL, 1, .inr (.inl of)))] Hp.size) := by
  refine va_MetW (hh := [(0, 9, 12, 19), (0, 9, 15, 13)]) (cc := cLa_run) (maxL := 4) (ret := (some .int)) (by decide) rfl ?_
  intro p e s m args below meth c s₁ B hml hv
  obtain ⟨rfl, rfl, hK⟩ := hv
  have hx := B.exec
  have hb := B.bytes
  have hr := B.returns
  have hT : ∀ w ∈ tB, w.before _ s = true := fun w h => atoms_spec (ws := wxLa_run) B.pre w (List.mem_cons_of_mem _ h)
  have hown : s.vm.findClass "CompiledProgramLaw" = some m.cls := findClass_of_methodNamed B.named
  have hlocks := B.notSynchronized
  have hD := hD.self (sz := s.heap.size)
  generalize hAe : va_A [(h8, .inr (4, [.ref h6, .ref h0, .ref h4, .int xp, .int xs])), (h4, .inr (2, [.ref h5, .ref h2])), (h5, .inl (cL, 16, .inr (.inl rf))), (h2, .inr (1, [.ref h3])), (h3, .inl (cB, 4096, .inl mf)), (h0, .inr (0, [.ref h1, .int cnt])), (h1, .inl (cL, pn, .inr (.inl pf))), (qo, .inl (cL, 1, .inr (.inl of)))] s.heap.size = A at hD ⊢
  have hA : ∀ q : Nat, s.heap.size ≤ q → A q := fun q h => by rw [← hAe]; exact Or.inr h
  have hS : va_S A s.heap s.heap [] := va_S.rf
  have hl := lv_entry ([.ref h8, .int a1, .ref qo]) (n := 4) (Nat.le_of_ble_eq_true rfl)
  rw [lg_entry_eq]
  generalize (lg_sl ([.ref h8, .int a1, .ref qo]) ++ List.replicate (4 - (lg_sl ([.ref h8, .int a1, .ref qo])).length) Slot.unset).toArray = ls at hl ⊢
  have hl : lv_has ls 4 [(0, .ref h8), (1, .int a1), (2, .ref qo)] := hl
  refine lv_aload_n hx hb dLa_run_0 rfl (lv_at hl 2 rfl) ?_
  refine lv_iconst (v := (0 : Int32)) hx hb dLa_run_1 (by decide) ?_
  refine lv_aload_n hx hb dLa_run_2 rfl (lv_at hl 0 rfl) ?_
  refine lv_iload_n hx hb dLa_run_3 rfl (lv_at hl 1 rfl) ?_
  have hPc := hP.sub (ws' := [(h8, .inr (4, [.ref h6, .ref h0, .ref h4, .int xp, .int xs])), (h4, .inr (2, [.ref h5, .ref h2])), (h5, .inl (cL, 16, .inr (.inl rf))), (h2, .inr (1, [.ref h3])), (h3, .inl (cB, 4096, .inl mf)), (h0, .inr (0, [.ref h1, .int cnt])), (h1, .inl (cL, pn, .inr (.inl pf)))]) [0, 1, 2, 3, 4, 5, 6] rfl
  have hDc := hD.sub (ws' := [(h8, .inr (4, [.ref h6, .ref h0, .ref h4, .int xp, .int xs])), (h4, .inr (2, [.ref h5, .ref h2])), (h5, .inl (cL, 16, .inr (.inl rf))), (h2, .inr (1, [.ref h3])), (h3, .inl (cB, 4096, .inl mf)), (h0, .inr (0, [.ref h1, .int cnt])), (h1, .inl (cL, pn, .inr (.inl pf)))]) [0, 1, 2, 3, 4, 5, 6] (by decide) rfl
  have hFc := va_free (wc := [(h8, .inr (4, [.ref h6, .ref h0, .ref h4, .int xp, .int xs])), (h4, .inr (2, [.ref h5, .ref h2])), (h5, .inl (cL, 16, .inr (.inl rf))), (h2, .inr (1, [.ref h3])), (h3, .inl (cB, 4096, .inl mf)), (h0, .inr (0, [.ref h1, .int cnt])), (h1, .inl (cL, pn, .inr (.inl pf)))]) hD hS hA [0, 1, 2, 3, 4, 5, 6] rfl
  refine va_calli (va_runV (As := [.int a1]) (rest := [.int (0 : Int32), .ref qo]) ⟨hx, hb, hml, hown, hT⟩ (c_Cp_run l G cB cL cI s.heap h8 xp xs h6 h4 h5 rf h2 h3 mf h0 h1 pn pf cnt a1 hPc (hDc.weaken (fun _ _ _ _ => trivial)) hf0 hf1 hcn hc) (cwV 1 hT (gB_V mw_438 mw_439 mw_440 mw_1 mw_441) rfl rfl rfl (by decide +kernel) ⟨Nat.le_of_ble_eq_true rfl, Nat.le_of_ble_eq_true rfl⟩) ⟨fun a U g mk q => ⟨q.1, q.2.1, va_K.moved (u := U) (U := U.calling g mk a) (Vm.Alike.refl U.vm) q.2.2⟩, va_recv hK hPc (ci := 4) (q0 := 0) rfl rfl, fun U hU hW => ⟨rfl, hU, va_K.moved hW.alike hK⟩⟩ rfl rfl hl.1 rfl (lv_room (Nat.le_of_ble_eq_true rfl)) dLa_run_4 ⟨Nat.zero_le _, Nat.zero_le _⟩) hS (fun q _ h => hFc q h) hFc (fun r u t H locs ht hvm hw hB hz8 hk8 hS => ?_)
  obtain ⟨rfl, rfl⟩ : r = (f_Cp_run xp xs rf mf pf cnt a1).1 ∧ u = (f_Cp_run xp xs rf mf pf cnt a1).2 := by rw [← hw]; exact ⟨rfl, rfl⟩
  obtain ⟨hP1, hD1⟩ := hB
  rw [ht] at hP1
  obtain ⟨hP, hD⟩ := va_join (wr := [(qo, .inl (cL, 1, .inr (.inl of)))]) (w1 := [(h8, .inr (4, [.ref h6, .ref h0, .ref h4, .int ((f_Cp_run xp xs rf mf pf cnt a1).2.1), .int ((f_Cp_run xp xs rf mf pf cnt a1).2.2.1)])), (h4, .inr (2, [.ref h5, .ref h2])), (h5, .inl (cL, 16, .inr (.inl ((f_Cp_run xp xs rf mf pf cnt a1).2.2.2.1)))), (h2, .inr (1, [.ref h3])), (h3, .inl (cB, 4096, .inl ((f_Cp_run xp xs rf mf pf cnt a1).2.2.2.2))), (h0, .inr (0, [.ref h1, .int cnt])), (h1, .inl (cL, pn, .inr (.inl pf)))]) hP hD [0, 1, 2, 3, 4, 5, 6] [7] rfl rfl (by decide) (by decide) hk8 hFc hP1 hD1
  have hP : va_P G vwCl [(qo, .inl (cL, 1, .inr (.inl of))), (h8, .inr (4, [.ref h6, .ref h0, .ref h4, .int ((f_Cp_run xp xs rf mf pf cnt a1).2.1), .int ((f_Cp_run xp xs rf mf pf cnt a1).2.2.1)])), (h4, .inr (2, [.ref h5, .ref h2])), (h5, .inl (cL, 16, .inr (.inl ((f_Cp_run xp xs rf mf pf cnt a1).2.2.2.1)))), (h2, .inr (1, [.ref h3])), (h3, .inl (cB, 4096, .inl ((f_Cp_run xp xs rf mf pf cnt a1).2.2.2.2))), (h0, .inr (0, [.ref h1, .int cnt])), (h1, .inl (cL, pn, .inr (.inl pf)))] H := hP
  have hD : va_D A [(qo, .inl (cL, 1, .inr (.inl of))), (h8, .inr (4, [.ref h6, .ref h0, .ref h4, .int ((f_Cp_run xp xs rf mf pf cnt a1).2.1), .int ((f_Cp_run xp xs rf mf pf cnt a1).2.2.1)])), (h4, .inr (2, [.ref h5, .ref h2])), (h5, .inl (cL, 16, .inr (.inl ((f_Cp_run xp xs rf mf pf cnt a1).2.2.2.1)))), (h2, .inr (1, [.ref h3])), (h3, .inl (cB, 4096, .inl ((f_Cp_run xp xs rf mf pf cnt a1).2.2.2.2))), (h0, .inr (0, [.ref h1, .int cnt])), (h1, .inl (cL, pn, .inr (.inl pf)))] := hD
  refine lv_i2l hx hb dLa_run_7 rfl ?_
  refine va_last hx hb hK hP hD hS 0 1 rfl rfl (by unfold vp_in; decide) dLa_run_8 (fun H locs hP hD hS => ?_)
  have hP : va_P G vwCl [(qo, .inl (cL, 1, .inr (.inl (vp_updL of (0 : Int32).toNatClampNeg ((f_Cp_run xp xs rf mf pf cnt a1).1.toInt64))))), (h8, .inr (4, [.ref h6, .ref h0, .ref h4, .int ((f_Cp_run xp xs rf mf pf cnt a1).2.1), .int ((f_Cp_run xp xs rf mf pf cnt a1).2.2.1)])), (h4, .inr (2, [.ref h5, .ref h2])), (h5, .inl (cL, 16, .inr (.inl ((f_Cp_run xp xs rf mf pf cnt a1).2.2.2.1)))), (h2, .inr (1, [.ref h3])), (h3, .inl (cB, 4096, .inl ((f_Cp_run xp xs rf mf pf cnt a1).2.2.2.2))), (h0, .inr (0, [.ref h1, .int cnt])), (h1, .inl (cL, pn, .inr (.inl pf)))] H := hP
  have hD : va_D A [(qo, .inl (cL, 1, .inr (.inl (vp_updL of (0 : Int32).toNatClampNeg ((f_Cp_run xp xs rf mf pf cnt a1).1.toInt64))))), (h8, .inr (4, [.ref h6, .ref h0, .ref h4, .int ((f_Cp_run xp xs rf mf pf cnt a1).2.1), .int ((f_Cp_run xp xs rf mf pf cnt a1).2.2.1)])), (h4, .inr (2, [.ref h5, .ref h2])), (h5, .inl (cL, 16, .inr (.inl ((f_Cp_run xp xs rf mf pf cnt a1).2.2.2.1)))), (h2, .inr (1, [.ref h3])), (h3, .inl (cB, 4096, .inl ((f_Cp_run xp xs rf mf pf cnt a1).2.2.2.2))), (h0, .inr (0, [.ref h1, .int cnt])), (h1, .inl (cL, pn, .inr (.inl pf)))] := hD
  refine lv_goto (tgt := 18) hx hb dLa_run_9 (by decide) ?_
  refine lv_iconst (v := (0 : Int32)) hx hb dLa_run_18 (by decide) ?_
  have hP9 := hP.sub (ws' := [(h8, .inr (4, [.ref h6, .ref h0, .ref h4, .int ((f_Cp_run xp xs rf mf pf cnt a1).2.1), .int ((f_Cp_run xp xs rf mf pf cnt a1).2.2.1)])), (h4, .inr (2, [.ref h5, .ref h2])), (h5, .inl (cL, 16, .inr (.inl ((f_Cp_run xp xs rf mf pf cnt a1).2.2.2.1)))), (h2, .inr (1, [.ref h3])), (h3, .inl (cB, 4096, .inl ((f_Cp_run xp xs rf mf pf cnt a1).2.2.2.2))), (h0, .inr (0, [.ref h1, .int cnt])), (h1, .inl (cL, pn, .inr (.inl pf))), (qo, .inl (cL, 1, .inr (.inl (vp_updL of (0 : Int32).toNatClampNeg ((f_Cp_run xp xs rf mf pf cnt a1).1.toInt64)))))]) [1, 2, 3, 4, 5, 6, 7, 0] rfl
  have hD9 := hD.sub (ws' := [(h8, .inr (4, [.ref h6, .ref h0, .ref h4, .int ((f_Cp_run xp xs rf mf pf cnt a1).2.1), .int ((f_Cp_run xp xs rf mf pf cnt a1).2.2.1)])), (h4, .inr (2, [.ref h5, .ref h2])), (h5, .inl (cL, 16, .inr (.inl ((f_Cp_run xp xs rf mf pf cnt a1).2.2.2.1)))), (h2, .inr (1, [.ref h3])), (h3, .inl (cB, 4096, .inl ((f_Cp_run xp xs rf mf pf cnt a1).2.2.2.2))), (h0, .inr (0, [.ref h1, .int cnt])), (h1, .inl (cL, pn, .inr (.inl pf))), (qo, .inl (cL, 1, .inr (.inl (vp_updL of (0 : Int32).toNatClampNeg ((f_Cp_run xp xs rf mf pf cnt a1).1.toInt64)))))]) [1, 2, 3, 4, 5, 6, 7, 0] (by decide) rfl
  exact W.iret (v := (0 : Int32)) hx hb hr (fun t ht hW => ⟨⟨(0 : Int32), (((f_Cp_run xp xs rf mf pf cnt a1).2.1), ((f_Cp_run xp xs rf mf pf cnt a1).2.2.1), ((f_Cp_run xp xs rf mf pf cnt a1).2.2.2.1), ((f_Cp_run xp xs rf mf pf cnt a1).2.2.2.2), (vp_updL of (0 : Int32).toNatClampNeg ((f_Cp_run xp xs rf mf pf cnt a1).1.toInt64))), rfl, rfl, by rw [ht]; exact hP9, hD9⟩, hS.F ht⟩) hS.2.2 dLa_run_19

def f_La_feed (tn : Nat) (tf : Nat → Int32) (tl : Int32) (of : Nat → Int64) (a1 : Int32) (a2 : Int32) (a3 : Int32) (a4 : Int32) (a5 : Int32) : Int32 × (Nat) × (Nat → Int32) × (Int32) × (Nat → Int64) :=
  ((0 : Int32), ((f_Cp_feed tn tf tl a1 a2 a3 a4 a5).2.1), ((f_Cp_feed tn tf tl a1 a2 a3 a4 a5).2.2.1), ((f_Cp_feed tn tf tl a1 a2 a3 a4 a5).2.2.2), (vp_updL of (0 : Int32).toNatClampNeg ((f_Cp_feed tn tf tl a1 a2 a3 a4 a5).1.toInt64)))
set_option maxHeartbeats 4000000 in
set_option maxRecDepth 100000 in
theorem c_La_feed (l : Launch) (G : va_G) (cB cL cI : ClassId) (Hp : Heap) (h8 : Nat) (xp : Int32) (xs : Int32) (h0 : Nat) (h4 : Nat) (h6 : Nat) (h7 : Nat) (tn : Nat) (tf : Nat → Int32) (tl : Int32) (qo : Nat) (of : Nat → Int64) (M9 : Nat) (a1 : Int32) (a2 : Int32) (a3 : Int32) (a4 : Int32) (a5 : Int32) (hP : va_P G vwCl [(h8, .inr (4, [.ref h6, .ref h0, .ref h4, .int xp, .int xs])), (h6, .inr (3, [.ref h7, .int tl])), (h7, .inl (cB, tn, .inl tf)), (qo, .inl (cL, 1, .inr (.inl of)))] Hp) (hD : va_D (fun _ => True) [(h8, .inr (4, [.ref h6, .ref h0, .ref h4, .int xp, .int xs])), (h6, .inr (3, [.ref h7, .int tl])), (h7, .inl (cB, tn, .inl tf)), (qo, .inl (cL, 1, .inr (.inl of)))]) (hroom : (f_Ta_hasRoom tl) = true) (ht0 : 0 ≤ tl.toInt) (ht1 : tl.toInt ≤ tn) (ht2 : tl.toInt + 20 ≤ 32768) (hn0 : 512 ≤ tn) (hn1 : tn ≤ 32768) (hft : ∀ j, fits .byte (.int (tf j)) = true) (hM9 : ¬ (tl + (20 : Int32)) ≤ (nI tn) → (min 32768 (2 * tn)) ≤ M9) : Met l yLa_feed wxLa_feed ({ frames := 4, cells := 1, slots := M9, locals := 88 }) (va_Pc [.ref h8, .int a1, .int a2, .int a3, .int a4, .int a5, .ref qo] (fun U => U.heap = Hp ∧ va_K G vwCl [(cB, .byte), (cL, .long), (cI, .int)] U)) (va_Qi (fun (r : Int32) (u : (Nat) × (Nat → Int32) × (Int32) × (Nat → Int64)) => (r, u) = (f_La_feed tn tf tl of a1 a2 a3 a4 a5)) (fun (u : (Nat) × (Nat → Int32) × (Int32) × (Nat → Int64)) t => ∃ (h7x : Nat), va_P G vwCl [(h8, .inr (4, [.ref h6, .ref h0, .ref h4, .int xp, .int xs])), (h6, .inr (3, [.ref h7x, .int (u.2.2.1)])), (h7x, .inl (cB, (u.1), .inl (u.2.1))), (qo, .inl (cL, 1, .inr (.inl (u.2.2.2))))] t.heap ∧ va_D (va_A [(h8, .inr (4, [.ref h6, .ref h0, .ref h4, .int xp, .int xs])), (h6, .inr (3, [.ref h7, .int tl])), (h7, .inl (cB, tn, .inl tf)), (qo, .inl (cL, 1, .inr (.inl of)))] Hp.size) [(h8, .inr (4, [.ref h6, .ref h0, .ref h4, .int xp, .int xs])), (h6, .inr (3, [.ref h7x, .int (u.2.2.1)])), (h7x, .inl (cB, (u.1), .inl (u.2.1))), (qo, .inl (cL, 1, .inr (.inl (u.2.2.2))))]) (va_A [(h8, .inr (4, [.ref h6, .ref h0, .ref h4, .int xp, .int xs])), (h6, .inr (3, [.ref h7, .int tl])), (h7, .inl (cB, tn, .inl tf)), (qo, .inl (cL, 1, .inr (.inl of)))] Hp.size)) 1 M9 (va_A [(h8, .inr (4, [.ref h6, .ref h0, .ref h4, .int xp, .int xs])), (h6, .inr (3, [.ref h7, .int tl])), (h7, .inl (cB, tn, .inl tf)), (qo, .inl (cL, 1, .inr (.inl of)))] Hp.size) := by
  refine va_MetW (hh := [(0, 16, 19, 13)]) (cc := cLa_feed) (maxL := 8) (ret := (some .int)) (by decide) rfl ?_
  intro p e s m args below meth c s₁ B hml hv
  obtain ⟨rfl, rfl, hK⟩ := hv
  have hx := B.exec
  have hb := B.bytes
  have hr := B.returns
  have hT : ∀ w ∈ tB, w.before _ s = true := fun w h => atoms_spec (ws := wxLa_feed) B.pre w (List.mem_cons_of_mem _ h)
  have hown : s.vm.findClass "CompiledProgramLaw" = some m.cls := findClass_of_methodNamed B.named
  have hlocks := B.notSynchronized
  have hD := hD.self (sz := s.heap.size)
  generalize hAe : va_A [(h8, .inr (4, [.ref h6, .ref h0, .ref h4, .int xp, .int xs])), (h6, .inr (3, [.ref h7, .int tl])), (h7, .inl (cB, tn, .inl tf)), (qo, .inl (cL, 1, .inr (.inl of)))] s.heap.size = A at hD ⊢
  have hA : ∀ q : Nat, s.heap.size ≤ q → A q := fun q h => by rw [← hAe]; exact Or.inr h
  have hS : va_S A s.heap s.heap [] := va_S.rf
  have hl := lv_entry ([.ref h8, .int a1, .int a2, .int a3, .int a4, .int a5, .ref qo]) (n := 8) (Nat.le_of_ble_eq_true rfl)
  rw [lg_entry_eq]
  generalize (lg_sl ([.ref h8, .int a1, .int a2, .int a3, .int a4, .int a5, .ref qo]) ++ List.replicate (8 - (lg_sl ([.ref h8, .int a1, .int a2, .int a3, .int a4, .int a5, .ref qo])).length) Slot.unset).toArray = ls at hl ⊢
  have hl : lv_has ls 8 [(0, .ref h8), (1, .int a1), (2, .int a2), (3, .int a3), (4, .int a4), (5, .int a5), (6, .ref qo)] := hl
  refine lv_aload hx hb dLa_feed_0 (lv_at hl 6 rfl) ?_
  refine lv_iconst (v := (0 : Int32)) hx hb dLa_feed_2 (by decide) ?_
  refine lv_aload_n hx hb dLa_feed_3 rfl (lv_at hl 0 rfl) ?_
  refine lv_iload_n hx hb dLa_feed_4 rfl (lv_at hl 1 rfl) ?_
  refine lv_iload_n hx hb dLa_feed_5 rfl (lv_at hl 2 rfl) ?_
  refine lv_iload_n hx hb dLa_feed_6 rfl (lv_at hl 3 rfl) ?_
  refine lv_iload hx hb dLa_feed_7 (lv_at hl 4 rfl) ?_
  refine lv_iload hx hb dLa_feed_9 (lv_at hl 5 rfl) ?_
  have hPc := hP.sub (ws' := [(h8, .inr (4, [.ref h6, .ref h0, .ref h4, .int xp, .int xs])), (h6, .inr (3, [.ref h7, .int tl])), (h7, .inl (cB, tn, .inl tf))]) [0, 1, 2] rfl
  have hDc := hD.sub (ws' := [(h8, .inr (4, [.ref h6, .ref h0, .ref h4, .int xp, .int xs])), (h6, .inr (3, [.ref h7, .int tl])), (h7, .inl (cB, tn, .inl tf))]) [0, 1, 2] (by decide) rfl
  have hFc := va_free (wc := [(h8, .inr (4, [.ref h6, .ref h0, .ref h4, .int xp, .int xs])), (h6, .inr (3, [.ref h7, .int tl])), (h7, .inl (cB, tn, .inl tf))]) hD hS hA [0, 1, 2] rfl
  refine va_calli (va_runV (As := [.int a1, .int a2, .int a3, .int a4, .int a5]) (rest := [.int (0 : Int32), .ref qo]) ⟨hx, hb, hml, hown, hT⟩ (c_Cp_feed l G cB cL cI s.heap h8 xp xs h0 h4 h6 h7 tn tf tl M9 a1 a2 a3 a4 a5 hPc (hDc.weaken (fun _ _ _ _ => trivial)) hroom ht0 ht1 ht2 hn0 hn1 hft hM9) (cwV 5 hT (gB_V mw_250 mw_251 mw_252 mw_1 mw_253) rfl rfl rfl (by decide +kernel) ⟨Nat.le_of_ble_eq_true rfl, Nat.le_of_ble_eq_true rfl⟩) ⟨fun a U g mk q => ⟨q.1, q.2.1, va_K.moved (u := U) (U := U.calling g mk a) (Vm.Alike.refl U.vm) q.2.2⟩, va_recv hK hPc (ci := 4) (q0 := 0) rfl rfl, fun U hU hW => ⟨rfl, hU, va_K.moved hW.alike hK⟩⟩ rfl rfl hl.1 rfl (lv_room (Nat.le_of_ble_eq_true rfl)) dLa_feed_11 ⟨Nat.le_of_ble_eq_true rfl, (by change _ ≤ M9; omega)⟩) hS (fun q _ h => hFc q h) hFc (fun r u t H locs ht hvm hw hB hz8 hk8 hS => ?_)
  obtain ⟨rfl, rfl⟩ : r = (f_Cp_feed tn tf tl a1 a2 a3 a4 a5).1 ∧ u = (f_Cp_feed tn tf tl a1 a2 a3 a4 a5).2 := by rw [← hw]; exact ⟨rfl, rfl⟩
  obtain ⟨q1, hP1, hD1⟩ := hB
  rw [ht] at hP1
  obtain ⟨hP, hD⟩ := va_join (wr := [(qo, .inl (cL, 1, .inr (.inl of)))]) (w1 := [(h8, .inr (4, [.ref h6, .ref h0, .ref h4, .int xp, .int xs])), (h6, .inr (3, [.ref q1, .int ((f_Cp_feed tn tf tl a1 a2 a3 a4 a5).2.2.2)])), (q1, .inl (cB, ((f_Cp_feed tn tf tl a1 a2 a3 a4 a5).2.1), .inl ((f_Cp_feed tn tf tl a1 a2 a3 a4 a5).2.2.1)))]) hP hD [0, 1, 2] [3] rfl rfl (by decide) (by decide) hk8 hFc hP1 hD1
  have hP : va_P G vwCl [(qo, .inl (cL, 1, .inr (.inl of))), (h8, .inr (4, [.ref h6, .ref h0, .ref h4, .int xp, .int xs])), (h6, .inr (3, [.ref q1, .int ((f_Cp_feed tn tf tl a1 a2 a3 a4 a5).2.2.2)])), (q1, .inl (cB, ((f_Cp_feed tn tf tl a1 a2 a3 a4 a5).2.1), .inl ((f_Cp_feed tn tf tl a1 a2 a3 a4 a5).2.2.1)))] H := hP
  have hD : va_D A [(qo, .inl (cL, 1, .inr (.inl of))), (h8, .inr (4, [.ref h6, .ref h0, .ref h4, .int xp, .int xs])), (h6, .inr (3, [.ref q1, .int ((f_Cp_feed tn tf tl a1 a2 a3 a4 a5).2.2.2)])), (q1, .inl (cB, ((f_Cp_feed tn tf tl a1 a2 a3 a4 a5).2.1), .inl ((f_Cp_feed tn tf tl a1 a2 a3 a4 a5).2.2.1)))] := hD
  refine lv_i2l hx hb dLa_feed_14 rfl ?_
  refine va_last hx hb hK hP hD hS 0 1 rfl rfl (by unfold vp_in; decide) dLa_feed_15 (fun H locs hP hD hS => ?_)
  have hP : va_P G vwCl [(qo, .inl (cL, 1, .inr (.inl (vp_updL of (0 : Int32).toNatClampNeg ((f_Cp_feed tn tf tl a1 a2 a3 a4 a5).1.toInt64))))), (h8, .inr (4, [.ref h6, .ref h0, .ref h4, .int xp, .int xs])), (h6, .inr (3, [.ref q1, .int ((f_Cp_feed tn tf tl a1 a2 a3 a4 a5).2.2.2)])), (q1, .inl (cB, ((f_Cp_feed tn tf tl a1 a2 a3 a4 a5).2.1), .inl ((f_Cp_feed tn tf tl a1 a2 a3 a4 a5).2.2.1)))] H := hP
  have hD : va_D A [(qo, .inl (cL, 1, .inr (.inl (vp_updL of (0 : Int32).toNatClampNeg ((f_Cp_feed tn tf tl a1 a2 a3 a4 a5).1.toInt64))))), (h8, .inr (4, [.ref h6, .ref h0, .ref h4, .int xp, .int xs])), (h6, .inr (3, [.ref q1, .int ((f_Cp_feed tn tf tl a1 a2 a3 a4 a5).2.2.2)])), (q1, .inl (cB, ((f_Cp_feed tn tf tl a1 a2 a3 a4 a5).2.1), .inl ((f_Cp_feed tn tf tl a1 a2 a3 a4 a5).2.2.1)))] := hD
  refine lv_goto (tgt := 23) hx hb dLa_feed_16 (by decide) ?_
  refine lv_iconst (v := (0 : Int32)) hx hb dLa_feed_23 (by decide) ?_
  have hP9 := hP.sub (ws' := [(h8, .inr (4, [.ref h6, .ref h0, .ref h4, .int xp, .int xs])), (h6, .inr (3, [.ref q1, .int ((f_Cp_feed tn tf tl a1 a2 a3 a4 a5).2.2.2)])), (q1, .inl (cB, ((f_Cp_feed tn tf tl a1 a2 a3 a4 a5).2.1), .inl ((f_Cp_feed tn tf tl a1 a2 a3 a4 a5).2.2.1))), (qo, .inl (cL, 1, .inr (.inl (vp_updL of (0 : Int32).toNatClampNeg ((f_Cp_feed tn tf tl a1 a2 a3 a4 a5).1.toInt64)))))]) [1, 2, 3, 0] rfl
  have hD9 := hD.sub (ws' := [(h8, .inr (4, [.ref h6, .ref h0, .ref h4, .int xp, .int xs])), (h6, .inr (3, [.ref q1, .int ((f_Cp_feed tn tf tl a1 a2 a3 a4 a5).2.2.2)])), (q1, .inl (cB, ((f_Cp_feed tn tf tl a1 a2 a3 a4 a5).2.1), .inl ((f_Cp_feed tn tf tl a1 a2 a3 a4 a5).2.2.1))), (qo, .inl (cL, 1, .inr (.inl (vp_updL of (0 : Int32).toNatClampNeg ((f_Cp_feed tn tf tl a1 a2 a3 a4 a5).1.toInt64)))))]) [1, 2, 3, 0] (by decide) rfl
  refine W.widen (k := 1) (n := M9) (Nat.le_of_ble_eq_true rfl) (by omega) ?_
  exact W.iret (v := (0 : Int32)) hx hb hr (fun t ht hW => ⟨⟨(0 : Int32), (((f_Cp_feed tn tf tl a1 a2 a3 a4 a5).2.1), ((f_Cp_feed tn tf tl a1 a2 a3 a4 a5).2.2.1), ((f_Cp_feed tn tf tl a1 a2 a3 a4 a5).2.2.2), (vp_updL of (0 : Int32).toNatClampNeg ((f_Cp_feed tn tf tl a1 a2 a3 a4 a5).1.toInt64))), rfl, rfl, q1, by rw [ht]; exact hP9, hD9⟩, hS.F ht⟩) hS.2.2 dLa_feed_24
