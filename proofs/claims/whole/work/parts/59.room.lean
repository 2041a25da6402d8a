theorem mn_2 {tn : Nat} (h : tn ≤ 32768) : f_Jm_min (32768 : Int32) ((2 : Int32) * (nI tn)) = nI (min 32768 (2 * tn)) := by
  have e2 : (2 : Int32) * (nI tn) = nI (2 * tn) := pk_mul 2 tn
  have e3 : (32768 : Int32) = nI 32768 := rfl
  rw [e2, e3]
  unfold f_Jm_min
  rcases Nat.lt_or_ge (2 * tn) 32768 with q | q
  · have h1 : nI (2 * tn) < nI 32768 := nI_lt q (by decide)
    rw [show min 32768 (2 * tn) = 2 * tn by omega]
    split
    · next c => first | rfl | exact absurd h1 (by rw [Int32.lt_iff_toInt_lt]; rw [Int32.le_iff_toInt_le] at c; omega)
    · next c => first | rfl | exact absurd h1 c
  · have h1 : nI 32768 ≤ nI (2 * tn) := nI_le q (by omega)
    rw [show min 32768 (2 * tn) = 32768 by omega]
    split
    · next c => first | rfl | exact absurd h1 (by rw [Int32.le_iff_toInt_le]; rw [Int32.lt_iff_toInt_lt] at c; omega)
    · next c => first | rfl | exact absurd h1 c
theorem mn_lt {tl : Int32} {tn : Nat} (h0 : 0 ≤ tl.toInt) (h2 : tl.toInt + 20 ≤ 32768) (hn0 : 512 ≤ tn) (hn1 : tn ≤ 32768) (c : ¬ (tl + (20 : Int32)) ≤ (nI tn)) : tn < min 32768 (2 * tn) := by
  have c := i_nle c
  have e20 : (20 : Int32).toInt = 20 := by decide
  rw [nI_toInt (by omega), i_add (by rw [e20]; omega) (by rw [e20]; omega), e20] at c
  omega
theorem mn_le {tn : Nat} : min 32768 (2 * tn) ≤ 32768 := by omega
def f_Ta_makeRoom (tn : Nat) (tf : Nat → Int32) (tl : Int32) : (Nat) × (Nat → Int32) :=
  if (tl + (20 : Int32)) ≤ (nI tn) then
    (tn, tf)
  else
    ((min 32768 (2 * tn)), (va_cpy tf (fun _ => 0) 0 0 tn))
set_option maxHeartbeats 4000000 in
set_option maxRecDepth 100000 in
theorem c_Ta_makeRoom (l : Launch) (G : va_G) (cB cL cI : ClassId) (Hp : Heap) (h6 : Nat) (h7 : Nat) (tn : Nat) (tf : Nat → Int32) (tl : Int32) (M9 : Nat) (hP : va_P G vwCl [(h6, .inr (3, [.ref h7, .int tl])), (h7, .inl (cB, tn, .inl tf))] Hp) (hD : va_D (fun _ => True) [(h6, .inr (3, [.ref h7, .int tl])), (h7, .inl (cB, tn, .inl tf))]) (ht0 : 0 ≤ tl.toInt) (ht2 : tl.toInt + 20 ≤ 32768) (hn0 : 512 ≤ tn) (hn1 : tn ≤ 32768) (hft : ∀ j, fits .byte (.int (tf j)) = true) (hM9 : ¬ (tl + (20 : Int32)) ≤ (nI tn) → (min 32768 (2 * tn)) ≤ M9) : Met l yTa_makeRoom wsTa_makeRoom ({ frames := 2, cells := 1, slots := M9, locals := 43 }) (va_Pc [.ref h6] (fun U => U.heap = Hp ∧ va_K G vwCl [(cB, .byte), (cL, .long), (cI, .int)] U)) (va_Qv (fun (u : (Nat) × (Nat → Int32)) => u = (f_Ta_makeRoom tn tf tl)) (fun (u : (Nat) × (Nat → Int32)) t => ∃ (h7x : Nat), va_P G vwCl [(h6, .inr (3, [.ref h7x, .int tl])), (h7x, .inl (cB, (u.1), .inl (u.2)))] t.heap ∧ va_D (va_A [(h6, .inr (3, [.ref h7, .int tl])), (h7, .inl (cB, tn, .inl tf))] Hp.size) [(h6, .inr (3, [.ref h7x, .int tl])), (h7x, .inl (cB, (u.1), .inl (u.2)))]) (va_A [(h6, .inr (3, [.ref h7, .int tl])), (h7, .inl (cB, tn, .inl tf))] Hp.size)) 1 M9 (va_A [(h6, .inr (3, [.ref h7, .int tl])), (h7, .inl (cB, tn, .inl tf))] Hp.size) := by
  refine Met.ofW (cc := cTa_makeRoom) (maxL := 1) (ret := none) (by decide) rfl ?_
  intro p e s m args below meth c s₁ B hml hv
  obtain ⟨rfl, rfl, hK⟩ := hv
  have hx := B.exec
  have hb := B.bytes
  have hr := B.returns
  have hT : ∀ w ∈ tB, w.before _ s = true := fun w h => atoms_spec (ws := wsTa_makeRoom) B.pre w (List.mem_cons_of_mem _ h)
  have hown : s.vm.findClass "CompiledProgram$Tape" = some m.cls := findClass_of_methodNamed B.named
  have hlocks := B.notSynchronized
  have hD := hD.self (sz := s.heap.size)
  generalize hAe : va_A [(h6, .inr (3, [.ref h7, .int tl])), (h7, .inl (cB, tn, .inl tf))] s.heap.size = A at hD ⊢
  have hA : ∀ q : Nat, s.heap.size ≤ q → A q := fun q h => by rw [← hAe]; exact Or.inr h
  have hS : va_S A s.heap s.heap [] := va_S.rf
  have hl := lv_entry ([.ref h6]) (n := 1) (Nat.le_of_ble_eq_true rfl)
  rw [lg_entry_eq]
  generalize (lg_sl ([.ref h6]) ++ List.replicate (1 - (lg_sl ([.ref h6])).length) Slot.unset).toArray = ls at hl ⊢
  have hl : lv_has ls 1 [(0, .ref h6)] := hl
  refine lv_aload_n hx hb dTa_makeRoom_0 rfl (lv_at hl 0 rfl) ?_
  refine va_get (D := G) (ci := 3) (v := .int tl) (C := RTa) (T := TTa) (N := 2) hx hb hT inTa hown hK hP 0 rfl rfl 1 (by decide) (hT _ mw_36) (fun _ h9 => h9) rfl dTa_makeRoom_1 ?_
  refine lv_bipush (v := (20 : Int32)) hx hb dTa_makeRoom_4 (by decide) ?_
  refine lv_iadd hx hb dTa_makeRoom_6 ?_
  refine lv_aload_n hx hb dTa_makeRoom_7 rfl (lv_at hl 0 rfl) ?_
  refine va_get (D := G) (ci := 3) (v := .ref h7) (C := RTa) (T := TTa) (N := 2) hx hb hT inTa hown hK hP 0 rfl rfl 0 (by decide) (hT _ mw_35) (fun _ h9 => h9) rfl dTa_makeRoom_8 ?_
  refine va_alen (v := (nI tn)) hx hb hK hP 1 0 rfl rfl rfl dTa_makeRoom_11 ?_
  refine lv_icmp_le (tgt := 38) hx hb dTa_makeRoom_12 (by decide) (fun c1 => ?_) (fun c1 => ?_)
  · skip
    have hP9 := hP.sub (ws' := [(h6, .inr (3, [.ref h7, .int tl])), (h7, .inl (cB, tn, .inl tf))]) [0, 1] rfl
    have hD9 := hD.sub (ws' := [(h6, .inr (3, [.ref h7, .int tl])), (h7, .inl (cB, tn, .inl tf))]) [0, 1] (by decide) rfl
    refine W.widen (k := 1) (n := M9) (Nat.zero_le _) (Nat.zero_le _) ?_
    exact W.vret hx hb hr (fun t ht hW => ⟨⟨(tn, tf), rfl, (by unfold f_Ta_makeRoom; rw [if_pos c1]; try rfl), h7, by rw [ht]; exact hP9, hD9⟩, hS.F ht⟩) hS.2.2 dTa_makeRoom_38
  · skip
    refine lv_aload_n hx hb dTa_makeRoom_15 rfl (lv_at hl 0 rfl) ?_
    refine lv_aload_n hx hb dTa_makeRoom_16 rfl (lv_at hl 0 rfl) ?_
    refine va_get (D := G) (ci := 3) (v := .ref h7) (C := RTa) (T := TTa) (N := 2) hx hb hT inTa hown hK hP 0 rfl rfl 0 (by decide) (hT _ mw_35) (fun _ h9 => h9) rfl dTa_makeRoom_17 ?_
    refine lv_ldc (v := (32768 : Int32)) hx hb hown (hT _ mw_258) dTa_makeRoom_20 ?_
    refine lv_iconst (v := (2 : Int32)) hx hb dTa_makeRoom_22 (by decide) ?_
    refine lv_aload_n hx hb dTa_makeRoom_23 rfl (lv_at hl 0 rfl) ?_
    refine va_get (D := G) (ci := 3) (v := .ref h7) (C := RTa) (T := TTa) (N := 2) hx hb hT inTa hown hK hP 0 rfl rfl 0 (by decide) (hT _ mw_35) (fun _ h9 => h9) rfl dTa_makeRoom_24 ?_
    refine va_alen (v := (nI tn)) hx hb hK hP 1 0 rfl rfl rfl dTa_makeRoom_27 ?_
    refine lv_imul hx hb dTa_makeRoom_28 ?_
    refine va_calli (va_runS (As := [.int (32768 : Int32), .int ((2 : Int32) * (nI tn))]) (rest := [.ref h7, .ref h6]) ⟨hx, hb, hml, hown, hT⟩ (c_Jm_min l s.heap (32768 : Int32) ((2 : Int32) * (nI tn))) (va_cwS 2 hT (gB_SV mw_330 mw_331 mw_11 mw_332) rfl rfl rfl (by decide +kernel) ⟨Nat.le_of_ble_eq_true rfl, Nat.le_of_ble_eq_true rfl⟩) ⟨fun _ _ _ _ q => q, fun U hU hW => ⟨rfl, hU⟩⟩ rfl rfl hl.1 rfl (lv_room (Nat.le_of_ble_eq_true rfl)) dTa_makeRoom_29 ⟨Nat.zero_le _, (Nat.zero_le _)⟩) hS (fun _ _ h => h.elim) (fun _ h => h.elim) (fun r u t H1 locs ht hvm hw hB hz8 hk8 hS => ?_)
    obtain rfl : s.heap = H1 := hB.symm.trans ht
    subst hw
    rw [mn_2 hn1]
    have hPc := hP.sub (ws' := [(h7, .inl (cB, tn, .inl tf))]) [1] rfl
    have hDc := hD.sub (ws' := [(h7, .inl (cB, tn, .inl tf))]) [1] (by decide) rfl
    have hFc := va_free (wc := [(h7, .inl (cB, tn, .inl tf))]) hD hS hA [1] rfl
    refine va_callr (va_runS (As := [.ref h7, .int (nI (min 32768 (2 * tn)))]) (rest := [.ref h6]) ⟨hx, hb, hml, hown, hT⟩ (c_Ja_copyOf l G cB cL cI s.heap h7 tn (min 32768 (2 * tn)) tf hPc (hDc.weaken (fun _ _ _ _ => trivial)) (mn_lt ht0 ht2 hn0 hn1 c1) (mn_le) hft) (va_cwS 2 hT (gB_SV mw_333 mw_334 mw_12 mw_335) rfl rfl rfl (by decide +kernel) ⟨Nat.le_of_ble_eq_true rfl, Nat.le_of_ble_eq_true rfl⟩) ⟨fun a U g mk q => ⟨q.1, q.2.1, va_K.moved (u := U) (U := U.calling g mk a) (Vm.Alike.refl U.vm) q.2.2⟩, fun U hU hW => ⟨rfl, hU, va_K.moved hW.alike hK⟩⟩ rfl rfl hl.1 rfl (lv_room (Nat.le_of_ble_eq_true rfl)) dTa_makeRoom_32 ⟨Nat.le_of_ble_eq_true rfl, by have := hM9 c1; show 0 + 0 + (min 32768 (2 * tn)) ≤ M9; omega⟩) hS (fun q _ h => hFc q h) hFc (fun u q1 t H locs ht hvm hw hB hz8 hk8 hS => ?_)
    obtain ⟨hP1, hD1⟩ := hB
    rw [ht] at hP1
    obtain ⟨hP, hD⟩ := va_join (wr := [(h6, .inr (3, [.ref h7, .int tl]))]) (w1 := [(h7, .inl (cB, tn, .inl tf)), (q1, .inl (cB, (min 32768 (2 * tn)), .inl (va_cpy tf (fun _ => 0) 0 0 tn)))]) hP hD [1] [0] rfl rfl (by decide) (by decide) hk8 hFc hP1 hD1
    have hP : va_P G vwCl [(h6, .inr (3, [.ref h7, .int tl])), (h7, .inl (cB, tn, .inl tf)), (q1, .inl (cB, (min 32768 (2 * tn)), .inl (va_cpy tf (fun _ => 0) 0 0 tn)))] H := hP
    have hD : va_D A [(h6, .inr (3, [.ref h7, .int tl])), (h7, .inl (cB, tn, .inl tf)), (q1, .inl (cB, (min 32768 (2 * tn)), .inl (va_cpy tf (fun _ => 0) 0 0 tn)))] := hD
    refine va_put (D := G) (ci := 3) (v := .ref q1) (ty := (.array .byte)) (C := RTa) (T := TTa) (N := 2) hx hb hT inTa tyTa tyTa_ok nmTa hown hK hP hD hS 0 rfl rfl 0 (by decide) (hT _ mw_35) (fun _ h9 => h9) rfl (by decide +kernel) rfl rfl (Nat.le_of_ble_eq_true rfl) dTa_makeRoom_35 (fun H locs hP hD hS => ?_)
    have hP : va_P G vwCl [(h6, .inr (3, [.ref q1, .int tl])), (h7, .inl (cB, tn, .inl tf)), (q1, .inl (cB, (min 32768 (2 * tn)), .inl (va_cpy tf (fun _ => 0) 0 0 tn)))] H := hP
    have hD : va_D A [(h6, .inr (3, [.ref q1, .int tl])), (h7, .inl (cB, tn, .inl tf)), (q1, .inl (cB, (min 32768 (2 * tn)), .inl (va_cpy tf (fun _ => 0) 0 0 tn)))] := hD
    have hP9 := hP.sub (ws' := [(h6, .inr (3, [.ref q1, .int tl])), (q1, .inl (cB, (min 32768 (2 * tn)), .inl (va_cpy tf (fun _ => 0) 0 0 tn)))]) [0, 2] rfl
    have hD9 := hD.sub (ws' := [(h6, .inr (3, [.ref q1, .int tl])), (q1, .inl (cB, (min 32768 (2 * tn)), .inl (va_cpy tf (fun _ => 0) 0 0 tn)))]) [0, 2] (by decide) rfl
    refine W.widen (k := 1) (n := M9) (Nat.le_of_ble_eq_true rfl) (by have := hM9 c1; show 0 + 0 + (min 32768 (2 * tn)) ≤ M9; omega) ?_
    exact W.vret hx hb hr (fun t ht hW => ⟨⟨((min 32768 (2 * tn)), (va_cpy tf (fun _ => 0) 0 0 tn)), rfl, (by unfold f_Ta_makeRoom; rw [if_neg c1]; try rfl), q1, by rw [ht]; exact hP9, hD9⟩, hS.F ht⟩) hS.2.2 dTa_makeRoom_38
