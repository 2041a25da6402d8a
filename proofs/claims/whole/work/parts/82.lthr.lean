set_option maxHeartbeats 4000000 in
set_option maxRecDepth 100000 in
theorem t_La_end (l : Launch) (hst : l.stackTraces = false) (s0 : State) (sa : Nat) (hA0 : ∀ w ∈ Bundle.ownAtoms "CompiledProgram" 62 "java/lang/IllegalArgumentException" ["java/lang/RuntimeException", "java/lang/Exception"], w.before #[] s0 = true) (hR0 : vk_R "CompiledProgram" 60 "the tape has no such length" sa s0) (G : va_G) (cB cL cI : ClassId) (Hp : Heap) (h8 : Nat) (xp : Int32) (xs : Int32) (h6 : Nat) (h0 : Nat) (h4 : Nat) (h7 : Nat) (tl : Int32) (a1 : Int32) (hP : va_P G vwCl [(h8, .inr (4, [.ref h6, .ref h0, .ref h4, .int xp, .int xs])), (h6, .inr (3, [.ref h7, .int tl]))] Hp) (hHs : ∀ q, q < s0.heap.size → Hp[q]? = s0.heap[q]?) (hthr : a1 < 0 ∨ ¬ a1 ≤ tl) : Met l yLa_end wxLa_end ({ frames := 7, cells := 1, slots := 6, locals := 141 }) (va_Pc [.ref h8, .int a1] (fun U => U.heap = Hp ∧ va_K G vwCl [(cB, .byte), (cL, .long), (cI, .int)] U ∧ s0.WarmedH U.vm)) (va_Qi (fun (r : Int32) (_ : Unit) => r = (1 : Int32)) (fun _ t => True) (va_A [] Hp.size)) 1 6 (va_A [] Hp.size) := by
  refine va_MetW (hh := [(0, 5, 8, 19)]) (cc := cLa_end) (maxL := 3) (ret := (some .int)) (by decide) rfl ?_
  intro p e s m args below meth c s₁ B hml hv
  obtain ⟨rfl, rfl, hK, hWs⟩ := hv
  have hx := B.exec
  have hb := B.bytes
  have hr := B.returns
  have hT : ∀ w ∈ tB, w.before _ s = true := fun w h => atoms_spec (ws := wxLa_end) B.pre w (List.mem_cons_of_mem _ h)
  have hown : s.vm.findClass "CompiledProgramLaw" = some m.cls := findClass_of_methodNamed B.named
  have hlocks := B.notSynchronized
  have htab := th_tab (hh := [(0, 5, 8, 19)]) rfl B
  have hpl : e.platform.magicAccessors = ({} : Platform).magicAccessors := by rw [B.admits.platform]
  have hS : va_S (va_A [] s.heap.size) s.heap s.heap [] := va_S.rf
  have hl := lv_entry ([.ref h8, .int a1]) (n := 3) (Nat.le_of_ble_eq_true rfl)
  rw [lg_entry_eq]
  generalize (lg_sl ([.ref h8, .int a1]) ++ List.replicate (3 - (lg_sl ([.ref h8, .int a1])).length) Slot.unset).toArray = ls at hl ⊢
  have hl : lv_has ls 3 [(0, .ref h8), (1, .int a1)] := hl
  refine lv_aload_n hx hb dLa_end_0 rfl (lv_at hl 0 rfl) ?_
  refine lv_iload_n hx hb dLa_end_1 rfl (lv_at hl 1 rfl) ?_
  have hcast : (Cond.castable "java/lang/IllegalArgumentException" "java/lang/IllegalArgumentException").before (([.ref h8, .int a1] : List Value).toArray) s = true := th_move hWs hHs (fun w hw => List.all_eq_true.mp (tk_62) w hw) ts_62 hA0 _ (by decide +kernel)
  refine th_V (E := "java/lang/IllegalArgumentException") (name := "java/lang/IllegalArgumentException") (As := [.int a1]) (rest := []) ⟨hx, hb, hml, hown, hT⟩ (x_Cp_end l hst s0 sa hA0 hR0 G cB cL cI s.heap h8 xp xs h6 h0 h4 h7 tl a1 hP hHs hthr) (cwV 1 hT (gB_V mw_355 mw_356 mw_357 mw_1 mw_358) rfl rfl rfl (by decide +kernel) ⟨Nat.le_of_ble_eq_true rfl, Nat.le_of_ble_eq_true rfl⟩) ⟨fun a U g mk q => ⟨q.1, q.2.1, va_K.moved (u := U) (U := U.calling g mk a) (Vm.Alike.refl U.vm) q.2.2.1, q.2.2.2⟩, va_recv hK hP (ci := 4) (q0 := 0) rfl rfl, fun U hU hW => ⟨rfl, hU, va_K.moved hW.alike hK, State.WarmedH.trans hWs hW⟩⟩ rfl hl.1 rfl (lv_room (Nat.le_of_ble_eq_true rfl)) dLa_end_2 ⟨Nat.le_of_ble_eq_true rfl, Nat.le_of_ble_eq_true rfl⟩ [] ⟨0, 5, 8, 19⟩ [] htab (fun z hz => by cases hz) (by decide) (by decide) (hT _ mw_354) hcast (fun q H1 hz hk => ?_)
  have hS : va_S (va_A [] s.heap.size) s.heap H1 [] := ⟨hz, fun q hq _ => hk q hq, fun _ h => by cases h⟩
  refine lv_astore_n (lv' := [(2, .ref q), (0, .ref h8), (1, .int a1)]) hx hb dLa_end_8 rfl hl (by decide) rfl (fun ls hl => ?_)
  refine lv_iconst (v := (1 : Int32)) hx hb dLa_end_9 (by decide) ?_
  exact W.iret (v := (1 : Int32)) hx hb hr (fun t ht hW => ⟨⟨(1 : Int32), (), rfl, rfl, trivial⟩, hS.F ht⟩) hS.2.2 dLa_end_10

set_option maxHeartbeats 4000000 in
set_option maxRecDepth 100000 in
theorem t_La_set (l : Launch) (hst : l.stackTraces = false) (s0 : State) (sa : Nat) (hA0 : ∀ w ∈ Bundle.ownAtoms "CompiledProgram" 84 "java/lang/IndexOutOfBoundsException" ["java/lang/RuntimeException", "java/lang/Exception"], w.before #[] s0 = true) (hR0 : vk_R "CompiledProgram" 82 "there is no such register" sa s0) (G : va_G) (cB cL cI : ClassId) (Hp : Heap) (h8 : Nat) (xp : Int32) (xs : Int32) (h6 : Nat) (h0 : Nat) (h4 : Nat) (h5 : Nat) (h2 : Nat) (rf : Nat → Int64) (a1 : Int32) (a2 : Int64) (hP : va_P G vwCl [(h8, .inr (4, [.ref h6, .ref h0, .ref h4, .int xp, .int xs])), (h4, .inr (2, [.ref h5, .ref h2])), (h5, .inl (cL, 16, .inr (.inl rf)))] Hp) (hHs : ∀ q, q < s0.heap.size → Hp[q]? = s0.heap[q]?) (hthr : a1 < 0 ∨ ¬ a1 < (11 : Int32)) : Met l yLa_set wxLa_set ({ frames := 7, cells := 1, slots := 6, locals := 143 }) (va_Pc [.ref h8, .int a1, .long a2] (fun U => U.heap = Hp ∧ va_K G vwCl [(cB, .byte), (cL, .long), (cI, .int)] U ∧ s0.WarmedH U.vm)) (va_Qi (fun (r : Int32) (_ : Unit) => r = (1 : Int32)) (fun _ t => True) (va_A [] Hp.size)) 1 6 (va_A [] Hp.size) := by
  refine va_MetW (hh := [(0, 6, 9, 25)]) (cc := cLa_set) (maxL := 5) (ret := (some .int)) (by decide) rfl ?_
  intro p e s m args below meth c s₁ B hml hv
  obtain ⟨rfl, rfl, hK, hWs⟩ := hv
  have hx := B.exec
  have hb := B.bytes
  have hr := B.returns
  have hT : ∀ w ∈ tB, w.before _ s = true := fun w h => atoms_spec (ws := wxLa_set) B.pre w (List.mem_cons_of_mem _ h)
  have hown : s.vm.findClass "CompiledProgramLaw" = some m.cls := findClass_of_methodNamed B.named
  have hlocks := B.notSynchronized
  have htab := th_tab (hh := [(0, 6, 9, 25)]) rfl B
  have hpl : e.platform.magicAccessors = ({} : Platform).magicAccessors := by rw [B.admits.platform]
  have hS : va_S (va_A [] s.heap.size) s.heap s.heap [] := va_S.rf
  have hl := lv_entry ([.ref h8, .int a1, .long a2]) (n := 5) (Nat.le_of_ble_eq_true rfl)
  rw [lg_entry_eq]
  generalize (lg_sl ([.ref h8, .int a1, .long a2]) ++ List.replicate (5 - (lg_sl ([.ref h8, .int a1, .long a2])).length) Slot.unset).toArray = ls at hl ⊢
  have hl : lv_has ls 5 [(0, .ref h8), (1, .int a1), (2, .long a2)] := hl
  refine lv_aload_n hx hb dLa_set_0 rfl (lv_at hl 0 rfl) ?_
  refine lv_iload_n hx hb dLa_set_1 rfl (lv_at hl 1 rfl) ?_
  refine lv_lload_n hx hb dLa_set_2 rfl (lv_at hl 2 rfl) ?_
  have hcast : (Cond.castable "java/lang/IndexOutOfBoundsException" "java/lang/IndexOutOfBoundsException").before (([.ref h8, .int a1, .long a2] : List Value).toArray) s = true := th_move hWs hHs (fun w hw => List.all_eq_true.mp (tk_84) w hw) ts_84 hA0 _ (by decide +kernel)
  refine th_V (E := "java/lang/IndexOutOfBoundsException") (name := "java/lang/IndexOutOfBoundsException") (As := [.int a1, .long a2]) (rest := []) ⟨hx, hb, hml, hown, hT⟩ (x_Cp_set l hst s0 sa hA0 hR0 G cB cL cI s.heap h8 xp xs h6 h0 h4 h5 h2 rf a1 a2 hP hHs hthr) (cwV 2 hT (gB_V mw_379 mw_380 mw_381 mw_1 mw_382) rfl rfl rfl (by decide +kernel) ⟨Nat.le_of_ble_eq_true rfl, Nat.le_of_ble_eq_true rfl⟩) ⟨fun a U g mk q => ⟨q.1, q.2.1, va_K.moved (u := U) (U := U.calling g mk a) (Vm.Alike.refl U.vm) q.2.2.1, q.2.2.2⟩, va_recv hK hP (ci := 4) (q0 := 0) rfl rfl, fun U hU hW => ⟨rfl, hU, va_K.moved hW.alike hK, State.WarmedH.trans hWs hW⟩⟩ rfl hl.1 rfl (lv_room (Nat.le_of_ble_eq_true rfl)) dLa_set_3 ⟨Nat.le_of_ble_eq_true rfl, Nat.le_of_ble_eq_true rfl⟩ [] ⟨0, 6, 9, 25⟩ [] htab (fun z hz => by cases hz) (by decide) (by decide) (hT _ mw_378) hcast (fun q H1 hz hk => ?_)
  have hS : va_S (va_A [] s.heap.size) s.heap H1 [] := ⟨hz, fun q hq _ => hk q hq, fun _ h => by cases h⟩
  refine lv_astore (lv' := [(4, .ref q), (0, .ref h8), (1, .int a1), (2, .long a2)]) hx hb dLa_set_9 hl (by decide) rfl (fun ls hl => ?_)
  refine lv_iconst (v := (1 : Int32)) hx hb dLa_set_11 (by decide) ?_
  exact W.iret (v := (1 : Int32)) hx hb hr (fun t ht hW => ⟨⟨(1 : Int32), (), rfl, rfl, trivial⟩, hS.F ht⟩) hS.2.2 dLa_set_12

set_option maxHeartbeats 4000000 in
set_option maxRecDepth 100000 in
theorem t_La_get (l : Launch) (hst : l.stackTraces = false) (s0 : State) (sa : Nat) (hA0 : ∀ w ∈ Bundle.ownAtoms "CompiledProgram" 84 "java/lang/IndexOutOfBoundsException" ["java/lang/RuntimeException", "java/lang/Exception"], w.before #[] s0 = true) (hR0 : vk_R "CompiledProgram" 82 "there is no such register" sa s0) (G : va_G) (cB cL cI : ClassId) (Hp : Heap) (h8 : Nat) (xp : Int32) (xs : Int32) (h6 : Nat) (h0 : Nat) (h4 : Nat) (h5 : Nat) (h2 : Nat) (rf : Nat → Int64) (qo : Nat) (a1 : Int32) (hP : va_P G vwCl [(h8, .inr (4, [.ref h6, .ref h0, .ref h4, .int xp, .int xs])), (h4, .inr (2, [.ref h5, .ref h2])), (h5, .inl (cL, 16, .inr (.inl rf)))] Hp) (hHs : ∀ q, q < s0.heap.size → Hp[q]? = s0.heap[q]?) (hthr : a1 < 0 ∨ ¬ a1 < (11 : Int32)) : Met l yLa_get wxLa_get ({ frames := 7, cells := 1, slots := 6, locals := 141 }) (va_Pc [.ref h8, .int a1, .ref qo] (fun U => U.heap = Hp ∧ va_K G vwCl [(cB, .byte), (cL, .long), (cI, .int)] U ∧ s0.WarmedH U.vm)) (va_Qi (fun (r : Int32) (_ : Unit) => r = (1 : Int32)) (fun _ t => True) (va_A [] Hp.size)) 1 6 (va_A [] Hp.size) := by
  refine va_MetW (hh := [(0, 8, 11, 25)]) (cc := cLa_get) (maxL := 4) (ret := (some .int)) (by decide) rfl ?_
  intro p e s m args below meth c s₁ B hml hv
  obtain ⟨rfl, rfl, hK, hWs⟩ := hv
  have hx := B.exec
  have hb := B.bytes
  have hr := B.returns
  have hT : ∀ w ∈ tB, w.before _ s = true := fun w h => atoms_spec (ws := wxLa_get) B.pre w (List.mem_cons_of_mem _ h)
  have hown : s.vm.findClass "CompiledProgramLaw" = some m.cls := findClass_of_methodNamed B.named
  have hlocks := B.notSynchronized
  have htab := th_tab (hh := [(0, 8, 11, 25)]) rfl B
  have hpl : e.platform.magicAccessors = ({} : Platform).magicAccessors := by rw [B.admits.platform]
  have hS : va_S (va_A [] s.heap.size) s.heap s.heap [] := va_S.rf
  have hl := lv_entry ([.ref h8, .int a1, .ref qo]) (n := 4) (Nat.le_of_ble_eq_true rfl)
  rw [lg_entry_eq]
  generalize (lg_sl ([.ref h8, .int a1, .ref qo]) ++ List.replicate (4 - (lg_sl ([.ref h8, .int a1, .ref qo])).length) Slot.unset).toArray = ls at hl ⊢
  have hl : lv_has ls 4 [(0, .ref h8), (1, .int a1), (2, .ref qo)] := hl
  refine lv_aload_n hx hb dLa_get_0 rfl (lv_at hl 2 rfl) ?_
  refine lv_iconst (v := (0 : Int32)) hx hb dLa_get_1 (by decide) ?_
  refine lv_aload_n hx hb dLa_get_2 rfl (lv_at hl 0 rfl) ?_
  refine lv_iload_n hx hb dLa_get_3 rfl (lv_at hl 1 rfl) ?_
  have hcast : (Cond.castable "java/lang/IndexOutOfBoundsException" "java/lang/IndexOutOfBoundsException").before (([.ref h8, .int a1, .ref qo] : List Value).toArray) s = true := th_move hWs hHs (fun w hw => List.all_eq_true.mp (tk_84) w hw) ts_84 hA0 _ (by decide +kernel)
  refine th_V (E := "java/lang/IndexOutOfBoundsException") (name := "java/lang/IndexOutOfBoundsException") (As := [.int a1]) (rest := [.int (0 : Int32), .ref qo]) ⟨hx, hb, hml, hown, hT⟩ (x_Cp_get l hst s0 sa hA0 hR0 G cB cL cI s.heap h8 xp xs h6 h0 h4 h5 h2 rf a1 hP hHs hthr) (cwV 1 hT (gB_V mw_402 mw_403 mw_404 mw_1 mw_405) rfl rfl rfl (by decide +kernel) ⟨Nat.le_of_ble_eq_true rfl, Nat.le_of_ble_eq_true rfl⟩) ⟨fun a U g mk q => ⟨q.1, q.2.1, va_K.moved (u := U) (U := U.calling g mk a) (Vm.Alike.refl U.vm) q.2.2.1, q.2.2.2⟩, va_recv hK hP (ci := 4) (q0 := 0) rfl rfl, fun U hU hW => ⟨rfl, hU, va_K.moved hW.alike hK, State.WarmedH.trans hWs hW⟩⟩ rfl hl.1 rfl (lv_room (Nat.le_of_ble_eq_true rfl)) dLa_get_4 ⟨Nat.le_of_ble_eq_true rfl, Nat.le_of_ble_eq_true rfl⟩ [] ⟨0, 8, 11, 25⟩ [] htab (fun z hz => by cases hz) (by decide) (by decide) (hT _ mw_378) hcast (fun q H1 hz hk => ?_)
  have hS : va_S (va_A [] s.heap.size) s.heap H1 [] := ⟨hz, fun q hq _ => hk q hq, fun _ h => by cases h⟩
  refine lv_astore_n (lv' := [(3, .ref q), (0, .ref h8), (1, .int a1), (2, .ref qo)]) hx hb dLa_get_11 rfl hl (by decide) rfl (fun ls hl => ?_)
  refine lv_iconst (v := (1 : Int32)) hx hb dLa_get_12 (by decide) ?_
  exact W.iret (v := (1 : Int32)) hx hb hr (fun t ht hW => ⟨⟨(1 : Int32), (), rfl, rfl, trivial⟩, hS.F ht⟩) hS.2.2 dLa_get_13

set_option maxHeartbeats 4000000 in
set_option maxRecDepth 100000 in
theorem t_La_put (l : Launch) (hst : l.stackTraces = false) (s0 : State) (sa : Nat) (hA0 : ∀ w ∈ Bundle.ownAtoms "CompiledProgram" 84 "java/lang/IndexOutOfBoundsException" ["java/lang/RuntimeException", "java/lang/Exception"], w.before #[] s0 = true) (hR0 : vk_R "CompiledProgram" 99 "there is no such word" sa s0) (G : va_G) (cB cL cI : ClassId) (Hp : Heap) (h8 : Nat) (xp : Int32) (xs : Int32) (h6 : Nat) (h0 : Nat) (h4 : Nat) (h5 : Nat) (rf : Nat → Int64) (h2 : Nat) (h3 : Nat) (mf : Nat → Int32) (a1 : Int64) (a2 : Int64) (hP : va_P G vwCl [(h8, .inr (4, [.ref h6, .ref h0, .ref h4, .int xp, .int xs])), (h4, .inr (2, [.ref h5, .ref h2])), (h5, .inl (cL, 16, .inr (.inl rf))), (h2, .inr (1, [.ref h3])), (h3, .inl (cB, 4096, .inl mf))] Hp) (hHs : ∀ q, q < s0.heap.size → Hp[q]? = s0.heap[q]?) (hthr : ¬ (f_Me_holds a1 (8 : Int32)) = true) : Met l yLa_put wxLa_put ({ frames := 7, cells := 1, slots := 6, locals := 144 }) (va_Pc [.ref h8, .long a1, .long a2] (fun U => U.heap = Hp ∧ va_K G vwCl [(cB, .byte), (cL, .long), (cI, .int)] U ∧ s0.WarmedH U.vm)) (va_Qi (fun (r : Int32) (_ : Unit) => r = (1 : Int32)) (fun _ t => True) (va_A [] Hp.size)) 1 6 (va_A [] Hp.size) := by
  refine va_MetW (hh := [(0, 6, 9, 25)]) (cc := cLa_put) (maxL := 6) (ret := (some .int)) (by decide) rfl ?_
  intro p e s m args below meth c s₁ B hml hv
  obtain ⟨rfl, rfl, hK, hWs⟩ := hv
  have hx := B.exec
  have hb := B.bytes
  have hr := B.returns
  have hT : ∀ w ∈ tB, w.before _ s = true := fun w h => atoms_spec (ws := wxLa_put) B.pre w (List.mem_cons_of_mem _ h)
  have hown : s.vm.findClass "CompiledProgramLaw" = some m.cls := findClass_of_methodNamed B.named
  have hlocks := B.notSynchronized
  have htab := th_tab (hh := [(0, 6, 9, 25)]) rfl B
  have hpl : e.platform.magicAccessors = ({} : Platform).magicAccessors := by rw [B.admits.platform]
  have hS : va_S (va_A [] s.heap.size) s.heap s.heap [] := va_S.rf
  have hl := lv_entry ([.ref h8, .long a1, .long a2]) (n := 6) (Nat.le_of_ble_eq_true rfl)
  rw [lg_entry_eq]
  generalize (lg_sl ([.ref h8, .long a1, .long a2]) ++ List.replicate (6 - (lg_sl ([.ref h8, .long a1, .long a2])).length) Slot.unset).toArray = ls at hl ⊢
  have hl : lv_has ls 6 [(0, .ref h8), (1, .long a1), (3, .long a2)] := hl
  refine lv_aload_n hx hb dLa_put_0 rfl (lv_at hl 0 rfl) ?_
  refine lv_lload_n hx hb dLa_put_1 rfl (lv_at hl 1 rfl) ?_
  refine lv_lload_n hx hb dLa_put_2 rfl (lv_at hl 2 rfl) ?_
  have hcast : (Cond.castable "java/lang/IndexOutOfBoundsException" "java/lang/IndexOutOfBoundsException").before (([.ref h8, .long a1, .long a2] : List Value).toArray) s = true := th_move hWs hHs (fun w hw => List.all_eq_true.mp (tk_84) w hw) ts_84 hA0 _ (by decide +kernel)
  refine th_V (E := "java/lang/IndexOutOfBoundsException") (name := "java/lang/IndexOutOfBoundsException") (As := [.long a1, .long a2]) (rest := []) ⟨hx, hb, hml, hown, hT⟩ (x_Cp_put l hst s0 sa hA0 hR0 G cB cL cI s.heap h8 xp xs h6 h0 h4 h5 rf h2 h3 mf a1 a2 hP hHs hthr) (cwV 2 hT (gB_V mw_409 mw_410 mw_411 mw_1 mw_412) rfl rfl rfl (by decide +kernel) ⟨Nat.le_of_ble_eq_true rfl, Nat.le_of_ble_eq_true rfl⟩) ⟨fun a U g mk q => ⟨q.1, q.2.1, va_K.moved (u := U) (U := U.calling g mk a) (Vm.Alike.refl U.vm) q.2.2.1, q.2.2.2⟩, va_recv hK hP (ci := 4) (q0 := 0) rfl rfl, fun U hU hW => ⟨rfl, hU, va_K.moved hW.alike hK, State.WarmedH.trans hWs hW⟩⟩ rfl hl.1 rfl (lv_room (Nat.le_of_ble_eq_true rfl)) dLa_put_3 ⟨Nat.le_of_ble_eq_true rfl, Nat.le_of_ble_eq_true rfl⟩ [] ⟨0, 6, 9, 25⟩ [] htab (fun z hz => by cases hz) (by decide) (by decide) (hT _ mw_378) hcast (fun q H1 hz hk => ?_)
  have hS : va_S (va_A [] s.heap.size) s.heap H1 [] := ⟨hz, fun q hq _ => hk q hq, fun _ h => by cases h⟩
  refine lv_astore (lv' := [(5, .ref q), (0, .ref h8), (1, .long a1), (3, .long a2)]) hx hb dLa_put_9 hl (by decide) rfl (fun ls hl => ?_)
  refine lv_iconst (v := (1 : Int32)) hx hb dLa_put_11 (by decide) ?_
  exact W.iret (v := (1 : Int32)) hx hb hr (fun t ht hW => ⟨⟨(1 : Int32), (), rfl, rfl, trivial⟩, hS.F ht⟩) hS.2.2 dLa_put_12

set_option maxHeartbeats 4000000 in
set_option maxRecDepth 100000 in
theorem t_La_word (l : Launch) (hst : l.stackTraces = false) (s0 : State) (sa : Nat) (hA0 : ∀ w ∈ Bundle.ownAtoms "CompiledProgram" 84 "java/lang/IndexOutOfBoundsException" ["java/lang/RuntimeException", "java/lang/Exception"], w.before #[] s0 = true) (hR0 : vk_R "CompiledProgram" 99 "there is no such word" sa s0) (G : va_G) (cB cL cI : ClassId) (Hp : Heap) (h8 : Nat) (xp : Int32) (xs : Int32) (h6 : Nat) (h0 : Nat) (h4 : Nat) (h5 : Nat) (rf : Nat → Int64) (h2 : Nat) (h3 : Nat) (mf : Nat → Int32) (qo : Nat) (a1 : Int64) (hP : va_P G vwCl [(h8, .inr (4, [.ref h6, .ref h0, .ref h4, .int xp, .int xs])), (h4, .inr (2, [.ref h5, .ref h2])), (h5, .inl (cL, 16, .inr (.inl rf))), (h2, .inr (1, [.ref h3])), (h3, .inl (cB, 4096, .inl mf))] Hp) (hHs : ∀ q, q < s0.heap.size → Hp[q]? = s0.heap[q]?) (hthr : ¬ (f_Me_holds a1 (8 : Int32)) = true) : Met l yLa_word wxLa_word ({ frames := 7, cells := 1, slots := 6, locals := 142 }) (va_Pc [.ref h8, .long a1, .ref qo] (fun U => U.heap = Hp ∧ va_K G vwCl [(cB, .byte), (cL, .long), (cI, .int)] U ∧ s0.WarmedH U.vm)) (va_Qi (fun (r : Int32) (_ : Unit) => r = (1 : Int32)) (fun _ t => True) (va_A [] Hp.size)) 1 6 (va_A [] Hp.size) := by
  refine va_MetW (hh := [(0, 8, 11, 25)]) (cc := cLa_word) (maxL := 5) (ret := (some .int)) (by decide) rfl ?_
  intro p e s m args below meth c s₁ B hml hv
  obtain ⟨rfl, rfl, hK, hWs⟩ := hv
  have hx := B.exec
  have hb := B.bytes
  have hr := B.returns
  have hT : ∀ w ∈ tB, w.before _ s = true := fun w h => atoms_spec (ws := wxLa_word) B.pre w (List.mem_cons_of_mem _ h)
  have hown : s.vm.findClass "CompiledProgramLaw" = some m.cls := findClass_of_methodNamed B.named
  have hlocks := B.notSynchronized
  have htab := th_tab (hh := [(0, 8, 11, 25)]) rfl B
  have hpl : e.platform.magicAccessors = ({} : Platform).magicAccessors := by rw [B.admits.platform]
  have hS : va_S (va_A [] s.heap.size) s.heap s.heap [] := va_S.rf
  have hl := lv_entry ([.ref h8, .long a1, .ref qo]) (n := 5) (Nat.le_of_ble_eq_true rfl)
  rw [lg_entry_eq]
  generalize (lg_sl ([.ref h8, .long a1, .ref qo]) ++ List.replicate (5 - (lg_sl ([.ref h8, .long a1, .ref qo])).length) Slot.unset).toArray = ls at hl ⊢
  have hl : lv_has ls 5 [(0, .ref h8), (1, .long a1), (3, .ref qo)] := hl
  refine lv_aload_n hx hb dLa_word_0 rfl (lv_at hl 2 rfl) ?_
  refine lv_iconst (v := (0 : Int32)) hx hb dLa_word_1 (by decide) ?_
  refine lv_aload_n hx hb dLa_word_2 rfl (lv_at hl 0 rfl) ?_
  refine lv_lload_n hx hb dLa_word_3 rfl (lv_at hl 1 rfl) ?_
  have hcast : (Cond.castable "java/lang/IndexOutOfBoundsException" "java/lang/IndexOutOfBoundsException").before (([.ref h8, .long a1, .ref qo] : List Value).toArray) s = true := th_move hWs hHs (fun w hw => List.all_eq_true.mp (tk_84) w hw) ts_84 hA0 _ (by decide +kernel)
  refine th_V (E := "java/lang/IndexOutOfBoundsException") (name := "java/lang/IndexOutOfBoundsException") (As := [.long a1]) (rest := [.int (0 : Int32), .ref qo]) ⟨hx, hb, hml, hown, hT⟩ (x_Cp_word l hst s0 sa hA0 hR0 G cB cL cI s.heap h8 xp xs h6 h0 h4 h5 rf h2 h3 mf a1 hP hHs hthr) (cwV 1 hT (gB_V mw_427 mw_428 mw_429 mw_1 mw_430) rfl rfl rfl (by decide +kernel) ⟨Nat.le_of_ble_eq_true rfl, Nat.le_of_ble_eq_true rfl⟩) ⟨fun a U g mk q => ⟨q.1, q.2.1, va_K.moved (u := U) (U := U.calling g mk a) (Vm.Alike.refl U.vm) q.2.2.1, q.2.2.2⟩, va_recv hK hP (ci := 4) (q0 := 0) rfl rfl, fun U hU hW => ⟨rfl, hU, va_K.moved hW.alike hK, State.WarmedH.trans hWs hW⟩⟩ rfl hl.1 rfl (lv_room (Nat.le_of_ble_eq_true rfl)) dLa_word_4 ⟨Nat.le_of_ble_eq_true rfl, Nat.le_of_ble_eq_true rfl⟩ [] ⟨0, 8, 11, 25⟩ [] htab (fun z hz => by cases hz) (by decide) (by decide) (hT _ mw_378) hcast (fun q H1 hz hk => ?_)
  have hS : va_S (va_A [] s.heap.size) s.heap H1 [] := ⟨hz, fun q hq _ => hk q hq, fun _ h => by cases h⟩
  refine lv_astore (lv' := [(4, .ref q), (0, .ref h8), (1, .long a1), (3, .ref qo)]) hx hb dLa_word_11 hl (by decide) rfl (fun ls hl => ?_)
  refine lv_iconst (v := (1 : Int32)) hx hb dLa_word_13 (by decide) ?_
  exact W.iret (v := (1 : Int32)) hx hb hr (fun t ht hW => ⟨⟨(1 : Int32), (), rfl, rfl, trivial⟩, hS.F ht⟩) hS.2.2 dLa_word_14

set_option maxHeartbeats 4000000 in
set_option maxRecDepth 100000 in
theorem t_La_runA (l : Launch) (hst : l.stackTraces = false) (s0 : State) (sa : Nat) (hA0 : ∀ w ∈ Bundle.ownAtoms "CompiledProgram" 62 "java/lang/IllegalArgumentException" ["java/lang/RuntimeException", "java/lang/Exception"], w.before #[] s0 = true) (hR0 : vk_R "CompiledProgram" 110 "the fuel is not 0 .. 100000" sa s0) (G : va_G) (cB cL cI : ClassId) (Hp : Heap) (h8 : Nat) (xp : Int32) (xs : Int32) (h6 : Nat) (h0 : Nat) (h4 : Nat) (h1 : Nat) (cnt : Int32) (qo : Nat) (a1 : Int32) (hP : va_P G vwCl [(h8, .inr (4, [.ref h6, .ref h0, .ref h4, .int xp, .int xs])), (h0, .inr (0, [.ref h1, .int cnt]))] Hp) (hHs : ∀ q, q < s0.heap.size → Hp[q]? = s0.heap[q]?) (hthr : a1 < 0 ∨ ¬ a1 ≤ (100000 : Int32)) : Met l yLa_run wxLa_run ({ frames := 8, cells := 1, slots := 6, locals := 193 }) (va_Pc [.ref h8, .int a1, .ref qo] (fun U => U.heap = Hp ∧ va_K G vwCl [(cB, .byte), (cL, .long), (cI, .int)] U ∧ s0.WarmedH U.vm)) (va_Qi (fun (r : Int32) (_ : Unit) => r = (1 : Int32)) (fun _ t => True) (va_A [] Hp.size)) 1 6 (va_A [] Hp.size) := by
  refine va_MetW (hh := [(0, 9, 12, 19), (0, 9, 15, 13)]) (cc := cLa_run) (maxL := 4) (ret := (some .int)) (by decide) rfl ?_
  intro p e s m args below meth c s₁ B hml hv
  obtain ⟨rfl, rfl, hK, hWs⟩ := hv
  have hx := B.exec
  have hb := B.bytes
  have hr := B.returns
  have hT : ∀ w ∈ tB, w.before _ s = true := fun w h => atoms_spec (ws := wxLa_run) B.pre w (List.mem_cons_of_mem _ h)
  have hown : s.vm.findClass "CompiledProgramLaw" = some m.cls := findClass_of_methodNamed B.named
  have hlocks := B.notSynchronized
  have htab := th_tab (hh := [(0, 9, 12, 19), (0, 9, 15, 13)]) rfl B
  have hpl : e.platform.magicAccessors = ({} : Platform).magicAccessors := by rw [B.admits.platform]
  have hS : va_S (va_A [] s.heap.size) s.heap s.heap [] := va_S.rf
  have hl := lv_entry ([.ref h8, .int a1, .ref qo]) (n := 4) (Nat.le_of_ble_eq_true rfl)
  rw [lg_entry_eq]
  generalize (lg_sl ([.ref h8, .int a1, .ref qo]) ++ List.replicate (4 - (lg_sl ([.ref h8, .int a1, .ref qo])).length) Slot.unset).toArray = ls at hl ⊢
  have hl : lv_has ls 4 [(0, .ref h8), (1, .int a1), (2, .ref qo)] := hl
  refine lv_aload_n hx hb dLa_run_0 rfl (lv_at hl 2 rfl) ?_
  refine lv_iconst (v := (0 : Int32)) hx hb dLa_run_1 (by decide) ?_
  refine lv_aload_n hx hb dLa_run_2 rfl (lv_at hl 0 rfl) ?_
  refine lv_iload_n hx hb dLa_run_3 rfl (lv_at hl 1 rfl) ?_
  have hcast : (Cond.castable "java/lang/IllegalArgumentException" "java/lang/IllegalArgumentException").before (([.ref h8, .int a1, .ref qo] : List Value).toArray) s = true := th_move hWs hHs (fun w hw => List.all_eq_true.mp (tk_62) w hw) ts_62 hA0 _ (by decide +kernel)
  refine th_V (E := "java/lang/IllegalArgumentException") (name := "java/lang/IllegalArgumentException") (As := [.int a1]) (rest := [.int (0 : Int32), .ref qo]) ⟨hx, hb, hml, hown, hT⟩ (x_Cp_runA l hst s0 sa hA0 hR0 G cB cL cI s.heap h8 xp xs h6 h0 h4 h1 cnt a1 hP hHs hthr) (cwV 1 hT (gB_V mw_438 mw_439 mw_440 mw_1 mw_441) rfl rfl rfl (by decide +kernel) ⟨Nat.le_of_ble_eq_true rfl, Nat.le_of_ble_eq_true rfl⟩) ⟨fun a U g mk q => ⟨q.1, q.2.1, va_K.moved (u := U) (U := U.calling g mk a) (Vm.Alike.refl U.vm) q.2.2.1, q.2.2.2⟩, va_recv hK hP (ci := 4) (q0 := 0) rfl rfl, fun U hU hW => ⟨rfl, hU, va_K.moved hW.alike hK, State.WarmedH.trans hWs hW⟩⟩ rfl hl.1 rfl (lv_room (Nat.le_of_ble_eq_true rfl)) dLa_run_4 ⟨Nat.le_of_ble_eq_true rfl, Nat.le_of_ble_eq_true rfl⟩ [] ⟨0, 9, 12, 19⟩ [⟨0, 9, 15, 13⟩] htab (fun z hz => by cases hz) (by decide) (by decide) (hT _ mw_354) hcast (fun q H1 hz hk => ?_)
  have hS : va_S (va_A [] s.heap.size) s.heap H1 [] := ⟨hz, fun q hq _ => hk q hq, fun _ h => by cases h⟩
  refine lv_astore_n (lv' := [(3, .ref q), (0, .ref h8), (1, .int a1), (2, .ref qo)]) hx hb dLa_run_12 rfl hl (by decide) rfl (fun ls hl => ?_)
  refine lv_iconst (v := (1 : Int32)) hx hb dLa_run_13 (by decide) ?_
  exact W.iret (v := (1 : Int32)) hx hb hr (fun t ht hW => ⟨⟨(1 : Int32), (), rfl, rfl, trivial⟩, hS.F ht⟩) hS.2.2 dLa_run_14

set_option maxHeartbeats 4000000 in
set_option maxRecDepth 100000 in
theorem t_La_runB (l : Launch) (hst : l.stackTraces = false) (s0 : State) (sa : Nat) (hA0 : ∀ w ∈ Bundle.ownAtoms "CompiledProgram" 45 "java/lang/IllegalStateException" ["java/lang/RuntimeException", "java/lang/Exception"], w.before #[] s0 = true) (hR0 : vk_R "CompiledProgram" 112 "there is no program" sa s0) (hnot : (Cond.not (Cond.castable "java/lang/IllegalStateException" "java/lang/IllegalArgumentException")).before #[] s0 = true) (G : va_G) (cB cL cI : ClassId) (Hp : Heap) (h8 : Nat) (xp : Int32) (xs : Int32) (h6 : Nat) (h0 : Nat) (h4 : Nat) (h1 : Nat) (cnt : Int32) (qo : Nat) (a1 : Int32) (hP : va_P G vwCl [(h8, .inr (4, [.ref h6, .ref h0, .ref h4, .int xp, .int xs])), (h0, .inr (0, [.ref h1, .int cnt]))] Hp) (hHs : ∀ q, q < s0.heap.size → Hp[q]? = s0.heap[q]?) (hf0 : ¬ a1 < 0) (hf1 : a1 ≤ (100000 : Int32)) (hthr : cnt = 0) : Met l yLa_run wxLa_run ({ frames := 8, cells := 1, slots := 6, locals := 193 }) (va_Pc [.ref h8, .int a1, .ref qo] (fun U => U.heap = Hp ∧ va_K G vwCl [(cB, .byte), (cL, .long), (cI, .int)] U ∧ s0.WarmedH U.vm)) (va_Qi (fun (r : Int32) (_ : Unit) => r = (2 : Int32)) (fun _ t => True) (va_A [] Hp.size)) 1 6 (va_A [] Hp.size) := by
  refine va_MetW (hh := [(0, 9, 12, 19), (0, 9, 15, 13)]) (cc := cLa_run) (maxL := 4) (ret := (some .int)) (by decide) rfl ?_
  intro p e s m args below meth c s₁ B hml hv
  obtain ⟨rfl, rfl, hK, hWs⟩ := hv
  have hx := B.exec
  have hb := B.bytes
  have hr := B.returns
  have hT : ∀ w ∈ tB, w.before _ s = true := fun w h => atoms_spec (ws := wxLa_run) B.pre w (List.mem_cons_of_mem _ h)
  have hown : s.vm.findClass "CompiledProgramLaw" = some m.cls := findClass_of_methodNamed B.named
  have hlocks := B.notSynchronized
  have htab := th_tab (hh := [(0, 9, 12, 19), (0, 9, 15, 13)]) rfl B
  have hpl : e.platform.magicAccessors = ({} : Platform).magicAccessors := by rw [B.admits.platform]
  have hS : va_S (va_A [] s.heap.size) s.heap s.heap [] := va_S.rf
  have hl := lv_entry ([.ref h8, .int a1, .ref qo]) (n := 4) (Nat.le_of_ble_eq_true rfl)
  rw [lg_entry_eq]
  generalize (lg_sl ([.ref h8, .int a1, .ref qo]) ++ List.replicate (4 - (lg_sl ([.ref h8, .int a1, .ref qo])).length) Slot.unset).toArray = ls at hl ⊢
  have hl : lv_has ls 4 [(0, .ref h8), (1, .int a1), (2, .ref qo)] := hl
  refine lv_aload_n hx hb dLa_run_0 rfl (lv_at hl 2 rfl) ?_
  refine lv_iconst (v := (0 : Int32)) hx hb dLa_run_1 (by decide) ?_
  refine lv_aload_n hx hb dLa_run_2 rfl (lv_at hl 0 rfl) ?_
  refine lv_iload_n hx hb dLa_run_3 rfl (lv_at hl 1 rfl) ?_
  have hcast : (Cond.castable "java/lang/IllegalStateException" "java/lang/IllegalStateException").before (([.ref h8, .int a1, .ref qo] : List Value).toArray) s = true := th_move hWs hHs (fun w hw => List.all_eq_true.mp (tk_45) w hw) ts_45 hA0 _ (by decide +kernel)
  obtain ⟨ca, hca, -⟩ := Cond.classLink_spec hown (hT _ mw_249) e.platform hpl
  obtain ⟨cb, hcb, -⟩ := Cond.classLink_spec hown (hT _ mw_354) e.platform hpl
  have hps : ∀ z ∈ ([⟨0, 9, 12, 19⟩] : List ExceptionTableEntry), covers z 4 = false ∨ (z.catchType ≠ 0 ∧ ∃ nm : String, (Cond.classLink "CompiledProgramLaw" z.catchType nm).before (([.ref h8, .int a1, .ref qo] : List Value).toArray) s = true ∧ ∃ a1 b1 : ClassId, s.vm.findClass "java/lang/IllegalStateException" = some a1 ∧ s.vm.findClass nm = some b1 ∧ s.vm.assignable a1 b1 = false) := by
    intro z hz
    rw [List.mem_singleton] at hz
    subst hz
    exact Or.inr ⟨by decide, "java/lang/IllegalArgumentException", (hT _ mw_354), ca, cb, hca, hcb, th_not hWs hnot hca hcb⟩
  refine th_V (E := "java/lang/IllegalStateException") (name := "java/lang/IllegalStateException") (As := [.int a1]) (rest := [.int (0 : Int32), .ref qo]) ⟨hx, hb, hml, hown, hT⟩ (x_Cp_runB l hst s0 sa hA0 hR0 G cB cL cI s.heap h8 xp xs h6 h0 h4 h1 cnt a1 hP hHs hf0 hf1 hthr) (cwV 1 hT (gB_V mw_438 mw_439 mw_440 mw_1 mw_441) rfl rfl rfl (by decide +kernel) ⟨Nat.le_of_ble_eq_true rfl, Nat.le_of_ble_eq_true rfl⟩) ⟨fun a U g mk q => ⟨q.1, q.2.1, va_K.moved (u := U) (U := U.calling g mk a) (Vm.Alike.refl U.vm) q.2.2.1, q.2.2.2⟩, va_recv hK hP (ci := 4) (q0 := 0) rfl rfl, fun U hU hW => ⟨rfl, hU, va_K.moved hW.alike hK, State.WarmedH.trans hWs hW⟩⟩ rfl hl.1 rfl (lv_room (Nat.le_of_ble_eq_true rfl)) dLa_run_4 ⟨Nat.le_of_ble_eq_true rfl, Nat.le_of_ble_eq_true rfl⟩ [⟨0, 9, 12, 19⟩] ⟨0, 9, 15, 13⟩ [] htab hps (by decide) (by decide) (hT _ mw_249) hcast (fun q H1 hz hk => ?_)
  have hS : va_S (va_A [] s.heap.size) s.heap H1 [] := ⟨hz, fun q hq _ => hk q hq, fun _ h => by cases h⟩
  refine lv_astore_n (lv' := [(3, .ref q), (0, .ref h8), (1, .int a1), (2, .ref qo)]) hx hb dLa_run_15 rfl hl (by decide) rfl (fun ls hl => ?_)
  refine lv_iconst (v := (2 : Int32)) hx hb dLa_run_16 (by decide) ?_
  exact W.iret (v := (2 : Int32)) hx hb hr (fun t ht hW => ⟨⟨(2 : Int32), (), rfl, rfl, trivial⟩, hS.F ht⟩) hS.2.2 dLa_run_17
