def f_Jl_reverseBytes (a0 : Int64) : Int64 :=
  ((((j_lshl ((j_lshl (a0 &&& (71777214294589695 : Int64)) (8 : Int32)) ||| ((j_lushr a0 (8 : Int32)) &&& (71777214294589695 : Int64))) (48 : Int32)) ||| (j_lshl (((j_lshl (a0 &&& (71777214294589695 : Int64)) (8 : Int32)) ||| ((j_lushr a0 (8 : Int32)) &&& (71777214294589695 : Int64))) &&& (4294901760 : Int64)) (16 : Int32))) ||| ((j_lushr ((j_lshl (a0 &&& (71777214294589695 : Int64)) (8 : Int32)) ||| ((j_lushr a0 (8 : Int32)) &&& (71777214294589695 : Int64))) (16 : Int32)) &&& (4294901760 : Int64))) ||| (j_lushr ((j_lshl (a0 &&& (71777214294589695 : Int64)) (8 : Int32)) ||| ((j_lushr a0 (8 : Int32)) &&& (71777214294589695 : Int64))) (48 : Int32)))
set_option maxHeartbeats 4000000 in
set_option maxRecDepth 100000 in
theorem c_Jl_reverseBytes (l : Launch) (Hp : Heap) (a0 : Int64) : Met l yJl_reverseBytes wsJl_reverseBytes ({ frames := 0, cells := 0, slots := 0, locals := 0 }) (va_Pc [.long a0] (fun U => U.heap = Hp)) (va_Ql (fun (r : Int64) (_ : Unit) => r = f_Jl_reverseBytes a0) (fun _ t => t.heap = Hp) (fun _ => False)) 0 0 (fun _ => False) := by
  refine Met.ofW (cc := cJl_reverseBytes) (maxL := 2) (ret := (some .long)) (by decide) rfl ?_
  intro p e s m args below meth c s₁ B hml hv
  obtain ⟨rfl, rfl⟩ := hv
  have hx := B.exec
  have hb := B.bytes
  have hr := B.returns
  have hT : ∀ w ∈ tB, w.before _ s = true := fun w h => atoms_spec (ws := wsJl_reverseBytes) B.pre w (List.mem_cons_of_mem _ h)
  have hown : s.vm.findClass "java/lang/Long" = some m.cls := findClass_of_methodNamed B.named
  have hlocks := B.notSynchronized
  have hS : va_S (fun _ => False) s.heap s.heap [] := va_S.rf
  have hl := lv_entry ([.long a0]) (n := 2) (Nat.le_of_ble_eq_true rfl)
  rw [lg_entry_eq]
  generalize (lg_sl ([.long a0]) ++ List.replicate (2 - (lg_sl ([.long a0])).length) Slot.unset).toArray = ls at hl ⊢
  have hl : lv_has ls 2 [(0, .long a0)] := hl
  refine lv_lload_n hx hb dJl_reverseBytes_0 rfl (lv_at hl 0 rfl) ?_
  refine lv_ldc2 (v := (71777214294589695 : Int64)) hx hb hown (hT _ mw_537) dJl_reverseBytes_1 ?_
  refine lv_land hx hb dJl_reverseBytes_4 ?_
  refine lv_bipush (v := (8 : Int32)) hx hb dJl_reverseBytes_5 (by decide) ?_
  refine lv_lshl (v := (j_lshl (a0 &&& (71777214294589695 : Int64)) (8 : Int32))) hx hb dJl_reverseBytes_7 rfl ?_
  refine lv_lload_n hx hb dJl_reverseBytes_8 rfl (lv_at hl 0 rfl) ?_
  refine lv_bipush (v := (8 : Int32)) hx hb dJl_reverseBytes_9 (by decide) ?_
  refine lv_lushr (v := (j_lushr a0 (8 : Int32))) hx hb dJl_reverseBytes_11 rfl ?_
  refine lv_ldc2 (v := (71777214294589695 : Int64)) hx hb hown (hT _ mw_537) dJl_reverseBytes_12 ?_
  refine lv_land hx hb dJl_reverseBytes_15 ?_
  refine lv_lor hx hb dJl_reverseBytes_16 ?_
  refine lv_lstore_n (lv' := [(0, .long ((j_lshl (a0 &&& (71777214294589695 : Int64)) (8 : Int32)) ||| ((j_lushr a0 (8 : Int32)) &&& (71777214294589695 : Int64))))]) hx hb dJl_reverseBytes_17 rfl hl (by decide) rfl (fun ls hl => ?_)
  refine lv_lload_n hx hb dJl_reverseBytes_18 rfl (lv_at hl 0 rfl) ?_
  refine lv_bipush (v := (48 : Int32)) hx hb dJl_reverseBytes_19 (by decide) ?_
  refine lv_lshl (v := (j_lshl ((j_lshl (a0 &&& (71777214294589695 : Int64)) (8 : Int32)) ||| ((j_lushr a0 (8 : Int32)) &&& (71777214294589695 : Int64))) (48 : Int32))) hx hb dJl_reverseBytes_21 rfl ?_
  refine lv_lload_n hx hb dJl_reverseBytes_22 rfl (lv_at hl 0 rfl) ?_
  refine lv_ldc2 (v := (4294901760 : Int64)) hx hb hown (hT _ mw_538) dJl_reverseBytes_23 ?_
  refine lv_land hx hb dJl_reverseBytes_26 ?_
  refine lv_bipush (v := (16 : Int32)) hx hb dJl_reverseBytes_27 (by decide) ?_
  refine lv_lshl (v := (j_lshl (((j_lshl (a0 &&& (71777214294589695 : Int64)) (8 : Int32)) ||| ((j_lushr a0 (8 : Int32)) &&& (71777214294589695 : Int64))) &&& (4294901760 : Int64)) (16 : Int32))) hx hb dJl_reverseBytes_29 rfl ?_
  refine lv_lor hx hb dJl_reverseBytes_30 ?_
  refine lv_lload_n hx hb dJl_reverseBytes_31 rfl (lv_at hl 0 rfl) ?_
  refine lv_bipush (v := (16 : Int32)) hx hb dJl_reverseBytes_32 (by decide) ?_
  refine lv_lushr (v := (j_lushr ((j_lshl (a0 &&& (71777214294589695 : Int64)) (8 : Int32)) ||| ((j_lushr a0 (8 : Int32)) &&& (71777214294589695 : Int64))) (16 : Int32))) hx hb dJl_reverseBytes_34 rfl ?_
  refine lv_ldc2 (v := (4294901760 : Int64)) hx hb hown (hT _ mw_538) dJl_reverseBytes_35 ?_
  refine lv_land hx hb dJl_reverseBytes_38 ?_
  refine lv_lor hx hb dJl_reverseBytes_39 ?_
  refine lv_lload_n hx hb dJl_reverseBytes_40 rfl (lv_at hl 0 rfl) ?_
  refine lv_bipush (v := (48 : Int32)) hx hb dJl_reverseBytes_41 (by decide) ?_
  refine lv_lushr (v := (j_lushr ((j_lshl (a0 &&& (71777214294589695 : Int64)) (8 : Int32)) ||| ((j_lushr a0 (8 : Int32)) &&& (71777214294589695 : Int64))) (48 : Int32))) hx hb dJl_reverseBytes_43 rfl ?_
  refine lv_lor hx hb dJl_reverseBytes_44 ?_
  exact W.lret (v := ((((j_lshl ((j_lshl (a0 &&& (71777214294589695 : Int64)) (8 : Int32)) ||| ((j_lushr a0 (8 : Int32)) &&& (71777214294589695 : Int64))) (48 : Int32)) ||| (j_lshl (((j_lshl (a0 &&& (71777214294589695 : Int64)) (8 : Int32)) ||| ((j_lushr a0 (8 : Int32)) &&& (71777214294589695 : Int64))) &&& (4294901760 : Int64)) (16 : Int32))) ||| ((j_lushr ((j_lshl (a0 &&& (71777214294589695 : Int64)) (8 : Int32)) ||| ((j_lushr a0 (8 : Int32)) &&& (71777214294589695 : Int64))) (16 : Int32)) &&& (4294901760 : Int64))) ||| (j_lushr ((j_lshl (a0 &&& (71777214294589695 : Int64)) (8 : Int32)) ||| ((j_lushr a0 (8 : Int32)) &&& (71777214294589695 : Int64))) (48 : Int32)))) hx hb hr (fun t ht hW => ⟨⟨((((j_lshl ((j_lshl (a0 &&& (71777214294589695 : Int64)) (8 : Int32)) ||| ((j_lushr a0 (8 : Int32)) &&& (71777214294589695 : Int64))) (48 : Int32)) ||| (j_lshl (((j_lshl (a0 &&& (71777214294589695 : Int64)) (8 : Int32)) ||| ((j_lushr a0 (8 : Int32)) &&& (71777214294589695 : Int64))) &&& (4294901760 : Int64)) (16 : Int32))) ||| ((j_lushr ((j_lshl (a0 &&& (71777214294589695 : Int64)) (8 : Int32)) ||| ((j_lushr a0 (8 : Int32)) &&& (71777214294589695 : Int64))) (16 : Int32)) &&& (4294901760 : Int64))) ||| (j_lushr ((j_lshl (a0 &&& (71777214294589695 : Int64)) (8 : Int32)) ||| ((j_lushr a0 (8 : Int32)) &&& (71777214294589695 : Int64))) (48 : Int32))), (), rfl, rfl, ht⟩, hS.F ht⟩) hS.2.2 dJl_reverseBytes_45
