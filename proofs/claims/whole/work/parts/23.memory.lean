def f_Me_holds  (a0 : Int64) (a1 : Int32) : Bool :=
  if (a0 - (2147483648 : Int64)) < (0 : Int64) then
    false
  else
    if (((4096 : Int32) - a1).toInt64) < (a0 - (2147483648 : Int64)) then
      false
    else
      true
set_option maxHeartbeats 4000000 in
set_option maxRecDepth 100000 in
theorem c_Me_holds (l : Launch) (G : va_G) (cB cL cI : ClassId) (Hp : Heap) (h2 : Nat) (h3 : Nat) (mf : Nat → Int32) (a0 : Int64) (a1 : Int32) (hP : va_P G vwCl [(h2, .inr (1, [.ref h3])), (h3, .inl (cB, 4096, .inl mf))] Hp) : Met l yMe_holds wsMe_holds ({ frames := 0, cells := 0, slots := 0, locals := 0 }) (va_Pc [.ref h2, .long a0, .int a1] (fun U => U.heap = Hp ∧ va_K G vwCl [(cB, .byte), (cL, .long), (cI, .int)] U)) (va_Qi (fun (r : Int32) (_ : Unit) => r = bI (f_Me_holds a0 a1)) (fun _ t => t.heap = Hp) (fun _ => False)) 0 0 (fun _ => False) := by
  refine Met.ofW (cc := cMe_holds) (maxL := 6) (ret := (some .boolean)) (by decide) rfl ?_
  intro p e s m args below meth c s₁ B hml hv
  obtain ⟨rfl, rfl, hK⟩ := hv
  have hx := B.exec
  have hb := B.bytes
  have hr := B.returns
  have hT : ∀ w ∈ tB, w.before _ s = true := fun w h => atoms_spec (ws := wsMe_holds) B.pre w (List.mem_cons_of_mem _ h)
  have hown : s.vm.findClass "CompiledProgram$Memory" = some m.cls := findClass_of_methodNamed B.named
  have hlocks := B.notSynchronized
  have hA : ∀ q : Nat, (fun _ : Nat => False) q → False := fun _ h => h
  have hS : va_S (fun _ => False) s.heap s.heap [] := va_S.rf
  have hl := lv_entry ([.ref h2, .long a0, .int a1]) (n := 6) (Nat.le_of_ble_eq_true rfl)
  rw [lg_entry_eq]
  generalize (lg_sl ([.ref h2, .long a0, .int a1]) ++ List.replicate (6 - (lg_sl ([.ref h2, .long a0, .int a1])).length) Slot.unset).toArray = ls at hl ⊢
  have hl : lv_has ls 6 [(0, .ref h2), (1, .long a0), (3, .int a1)] := hl
  refine lv_lload_n hx hb dMe_holds_0 rfl (lv_at hl 1 rfl) ?_
  refine lv_ldc2 (v := (2147483648 : Int64)) hx hb hown (hT _ mw_417) dMe_holds_1 ?_
  refine lv_lsub hx hb dMe_holds_4 ?_
  refine lv_lstore (lv' := [(4, .long (a0 - (2147483648 : Int64))), (0, .ref h2), (1, .long a0), (3, .int a1)]) hx hb dMe_holds_5 hl (by decide) rfl (fun ls hl => ?_)
  refine lv_lload hx hb dMe_holds_7 (lv_at hl 0 rfl) ?_
  refine lv_lconst (v := (0 : Int64)) hx hb dMe_holds_9 (by decide) ?_
  refine W.lcmp hx hb dMe_holds_10 ?_
  refine lv_if_lt (tgt := 30) hx hb dMe_holds_11 (by decide) (fun c1 => ?_) (fun c1 => ?_)
  · have c1 := (lg_cmp_lt _ _).mp c1
    refine lv_iconst (v := (0 : Int32)) hx hb dMe_holds_30 (by decide) ?_
    exact W.zret (v := (0 : Int32)) hx hb hr rfl (fun t ht hW => ⟨⟨(0 : Int32), (), rfl, (by unfold f_Me_holds; rw [if_pos c1]; try rfl), ht⟩, hS.F ht⟩) hS.2.2 dMe_holds_31
  · have c1 := mt (lg_cmp_lt _ _).mpr c1
    refine lv_lload hx hb dMe_holds_14 (lv_at hl 0 rfl) ?_
    refine lv_sipush (v := (4096 : Int32)) hx hb dMe_holds_16 (by decide) ?_
    refine lv_iload_n hx hb dMe_holds_19 rfl (lv_at hl 3 rfl) ?_
    refine lv_isub hx hb dMe_holds_20 ?_
    refine lv_i2l hx hb dMe_holds_21 rfl ?_
    refine W.lcmp hx hb dMe_holds_22 ?_
    refine lv_if_gt (tgt := 30) hx hb dMe_holds_23 (by decide) (fun c2 => ?_) (fun c2 => ?_)
    · have c2 := (lg_cmp_gt _ _).mp c2
      refine lv_iconst (v := (0 : Int32)) hx hb dMe_holds_30 (by decide) ?_
      exact W.zret (v := (0 : Int32)) hx hb hr rfl (fun t ht hW => ⟨⟨(0 : Int32), (), rfl, (by unfold f_Me_holds; rw [if_neg c1, if_pos c2]; try rfl), ht⟩, hS.F ht⟩) hS.2.2 dMe_holds_31
    · have c2 := mt (lg_cmp_gt _ _).mpr c2
      refine lv_iconst (v := (1 : Int32)) hx hb dMe_holds_26 (by decide) ?_
      refine lv_goto (tgt := 31) hx hb dMe_holds_27 (by decide) ?_
      exact W.zret (v := (1 : Int32)) hx hb hr rfl (fun t ht hW => ⟨⟨(1 : Int32), (), rfl, (by unfold f_Me_holds; rw [if_neg c1, if_neg c2]; try rfl), ht⟩, hS.F ht⟩) hS.2.2 dMe_holds_31

theorem holds_spec {a0 : Int64} {a1 : Int32} (h : (f_Me_holds a0 a1) = true) : 0 ≤ (a0 - (2147483648 : Int64)).toInt ∧ (a0 - (2147483648 : Int64)).toInt ≤ ((4096 : Int32) - a1).toInt := by
  unfold f_Me_holds at h
  by_cases c1 : (a0 - (2147483648 : Int64)) < (0 : Int64)
  · rw [if_pos c1] at h; cases h
  · rw [if_neg c1] at h
    by_cases c2 : (((4096 : Int32) - a1).toInt64) < (a0 - (2147483648 : Int64))
    · rw [if_pos c2] at h; cases h
    · have c1 := l_nlt c1
      have c2 := l_nlt c2
      rw [l_0] at c1
      rw [Int32.toInt_toInt64] at c2
      exact ⟨c1, c2⟩
theorem me_at {a0 : Int64} {a1 k : Int32} (h : (f_Me_holds a0 a1) = true) (h0 : 0 ≤ k.toInt) (h1 : k.toInt < a1.toInt) : (((a0 - (2147483648 : Int64)).toInt32) + k).toInt = (a0 - (2147483648 : Int64)).toInt + k.toInt ∧ (a0 - (2147483648 : Int64)).toInt + k.toInt < 4096 ∧ 0 ≤ (a0 - (2147483648 : Int64)).toInt := by
  obtain ⟨g1, g2⟩ := holds_spec h
  have e : (4096 : Int32).toInt = 4096 := by decide
  have l1 := i_lim a1
  rw [i_sub (by rw [e]; omega) (by rw [e]; omega), e] at g2
  have e2 : ((a0 - (2147483648 : Int64)).toInt32).toInt = (a0 - (2147483648 : Int64)).toInt := by
    rw [Int64.toInt_toInt32]; exact bm32 (by omega) (by omega)
  rw [i_add (by rw [e2]; omega) (by rw [e2]; omega), e2]
  omega
theorem me_in {a0 : Int64} {a1 k : Int32} (h : (f_Me_holds a0 a1) = true) (h1 : k.toInt < a1.toInt) (c : ¬ k < 0) : vp_in (((a0 - (2147483648 : Int64)).toInt32) + k) 4096 := by
  have := me_at h (i_nlt0 c) h1
  have := i_nlt0 c
  rw [vp_in_iff]; omega
theorem me_in2 {a0 : Int64} {a1 k : Int32} (h : (f_Me_holds a0 a1) = true) (h0 : 0 ≤ k.toInt) (c : ¬ a1 ≤ k) : vp_in (((a0 - (2147483648 : Int64)).toInt32) + k) 4096 := by
  have := me_at h h0 (i_nle c)
  rw [vp_in_iff]; omega
theorem rd_d {a1 : Int32} (hz : 1 ≤ a1.toInt ∧ a1.toInt ≤ 8) : (a1 - (1 : Int32)).toInt = a1.toInt - 1 := by
  rw [i_sub (by rw [i_1]; omega) (by rw [i_1]; omega), i_1]
theorem rd_i1 {a1 : Int32} (hz : 1 ≤ a1.toInt ∧ a1.toInt ≤ 8) : -1 ≤ (a1 - (1 : Int32)).toInt := by rw [rd_d hz]; omega
theorem rd_i2 {a1 : Int32} (hz : 1 ≤ a1.toInt ∧ a1.toInt ≤ 8) : (a1 - (1 : Int32)).toInt < a1.toInt := by rw [rd_d hz]; omega
theorem rd_fuel {a1 : Int32} (hz : 1 ≤ a1.toInt ∧ a1.toInt ≤ 8) : ((a1 - (1 : Int32)).toInt + 1).toNat < a1.toNatClampNeg + 1 := by
  rw [rd_d hz, ← Int32.toNat_toInt]; omega
theorem rd_b1 {k : Int32} (c : ¬ k < 0) : -1 ≤ (k + (-1 : Int32)).toInt := by
  rw [i_dec c]; have := i_nlt0 c; omega
theorem rd_b2 {a1 k : Int32} (c : ¬ k < 0) (h : k.toInt < a1.toInt) : (k + (-1 : Int32)).toInt < a1.toInt := by
  rw [i_dec c]; omega
theorem rd_b3 {k : Int32} {n : Nat} (c : ¬ k < 0) (h : (k.toInt + 1).toNat < n + 1) : ((k + (-1 : Int32)).toInt + 1).toNat < n := by
  rw [i_dec c]; have := i_nlt0 c; omega
theorem wr_fuel {a1 : Int32} : (a1.toInt - (0 : Int32).toInt).toNat < a1.toNatClampNeg + 1 := fw_fuel
theorem wr_d {a1 k : Int32} (hz : 1 ≤ a1.toInt ∧ a1.toInt ≤ 8) (h : 0 ≤ k.toInt) (c : ¬ a1 ≤ k) : (k + (1 : Int32)).toInt = k.toInt + 1 := by
  have := i_nle c
  rw [i_add (by rw [i_1]; omega) (by rw [i_1]; omega), i_1]
theorem wr_b1 {a1 k : Int32} (hz : 1 ≤ a1.toInt ∧ a1.toInt ≤ 8) (h : 0 ≤ k.toInt) (c : ¬ a1 ≤ k) : 0 ≤ (k + (1 : Int32)).toInt := by
  rw [wr_d hz h c]; omega
theorem wr_b2 {a1 k : Int32} {n : Nat} (hz : 1 ≤ a1.toInt ∧ a1.toInt ≤ 8) (h : 0 ≤ k.toInt) (c : ¬ a1 ≤ k) (hM : (a1.toInt - k.toInt).toNat < n + 1) : (a1.toInt - (k + (1 : Int32)).toInt).toNat < n := by
  have := i_nle c
  rw [wr_d hz h c]; omega
def l_Me_read_27 (mf : Nat → Int32) (a0 : Int64) (a1 : Int32) : Nat → (Int32) → (Int64) → Int64
  | 0, _, _ => default
  | n + 1, k, v =>
    if k < 0 then
      v
    else
      l_Me_read_27 mf a0 a1 n (k + (-1 : Int32)) ((j_lshl v (8 : Int32)) ||| (((mf (((a0 - (2147483648 : Int64)).toInt32) + k).toNatClampNeg) &&& (255 : Int32)).toInt64))
def f_Me_read (mf : Nat → Int32) (a0 : Int64) (a1 : Int32) : Int64 :=
  if (f_Me_holds a0 a1) = true then
    l_Me_read_27 mf a0 a1 (a1.toNatClampNeg + 1) (a1 - (1 : Int32)) (0 : Int64)
  else
    (0 : Int64)
set_option maxHeartbeats 4000000 in
set_option maxRecDepth 100000 in
theorem c_Me_read (l : Launch) (G : va_G) (cB cL cI : ClassId) (Hp : Heap) (h2 : Nat) (h3 : Nat) (mf : Nat → Int32) (a0 : Int64) (a1 : Int32) (hP : va_P G vwCl [(h2, .inr (1, [.ref h3])), (h3, .inl (cB, 4096, .inl mf))] Hp) (hz : 1 ≤ a1.toInt ∧ a1.toInt ≤ 8) : Met l yMe_read wsMe_read ({ frames := 1, cells := 0, slots := 0, locals := 25 }) (va_Pc [.ref h2, .long a0, .int a1] (fun U => U.heap = Hp ∧ va_K G vwCl [(cB, .byte), (cL, .long), (cI, .int)] U)) (va_Ql (fun (r : Int64) (_ : Unit) => r = (f_Me_read mf a0 a1)) (fun _ t => t.heap = Hp) (fun _ => False)) 0 0 (fun _ => False) := by
  refine Met.ofW (cc := cMe_read) (maxL := 8) (ret := (some .long)) (by decide) rfl ?_
  intro p e s m args below meth c s₁ B hml hv
  obtain ⟨rfl, rfl, hK⟩ := hv
  have hx := B.exec
  have hb := B.bytes
  have hr := B.returns
  have hT : ∀ w ∈ tB, w.before _ s = true := fun w h => atoms_spec (ws := wsMe_read) B.pre w (List.mem_cons_of_mem _ h)
  have hown : s.vm.findClass "CompiledProgram$Memory" = some m.cls := findClass_of_methodNamed B.named
  have hlocks := B.notSynchronized
  have hA : ∀ q : Nat, (fun _ : Nat => False) q → False := fun _ h => h
  have hS : va_S (fun _ => False) s.heap s.heap [] := va_S.rf
  have hl := lv_entry ([.ref h2, .long a0, .int a1]) (n := 8) (Nat.le_of_ble_eq_true rfl)
  rw [lg_entry_eq]
  generalize (lg_sl ([.ref h2, .long a0, .int a1]) ++ List.replicate (8 - (lg_sl ([.ref h2, .long a0, .int a1])).length) Slot.unset).toArray = ls at hl ⊢
  have hl : lv_has ls 8 [(0, .ref h2), (1, .long a0), (3, .int a1)] := hl
  refine lv_aload_n hx hb dMe_read_0 rfl (lv_at hl 0 rfl) ?_
  refine lv_lload_n hx hb dMe_read_1 rfl (lv_at hl 1 rfl) ?_
  refine lv_iload_n hx hb dMe_read_2 rfl (lv_at hl 2 rfl) ?_
  have hPc := hP.sub (ws' := [(h2, .inr (1, [.ref h3])), (h3, .inl (cB, 4096, .inl mf))]) [0, 1] rfl
  refine va_calli (va_runV (As := [.long a0, .int a1]) (rest := []) ⟨hx, hb, hml, hown, hT⟩ (c_Me_holds l G cB cL cI s.heap h2 h3 mf a0 a1 hPc ) (cwV 2 hT (gB_V mw_423 mw_414 mw_415 mw_5 mw_416) rfl rfl rfl (by decide +kernel) ⟨Nat.le_of_ble_eq_true rfl, Nat.le_of_ble_eq_true rfl⟩) ⟨fun a U g mk q => ⟨q.1, q.2.1, va_K.moved (u := U) (U := U.calling g mk a) (Vm.Alike.refl U.vm) q.2.2⟩, va_recv hK hPc (ci := 1) (q0 := 0) rfl rfl, fun U hU hW => ⟨rfl, hU, va_K.moved hW.alike hK⟩⟩ rfl rfl hl.1 rfl (lv_room (Nat.le_of_ble_eq_true rfl)) dMe_read_3 ⟨Nat.zero_le _, Nat.zero_le _⟩) hS (fun _ _ h => h.elim) (fun _ h => h.elim) (fun r u t H1 locs ht hvm hw hB hz8 hk8 hS => ?_)
  obtain rfl : s.heap = H1 := hB.symm.trans ht
  subst hw
  refine lv_if_ne (tgt := 11) hx hb dMe_read_6 (by decide) (fun c1 => ?_) (fun c1 => ?_)
  · have c1 := bI_n c1
    refine lv_lload_n hx hb dMe_read_11 rfl (lv_at hl 1 rfl) ?_
    refine lv_ldc2 (v := (2147483648 : Int64)) hx hb hown (hT _ mw_417) dMe_read_12 ?_
    refine lv_lsub hx hb dMe_read_15 ?_
    refine lv_l2i hx hb dMe_read_16 rfl ?_
    refine lv_istore (lv' := [(4, .int ((a0 - (2147483648 : Int64)).toInt32)), (0, .ref h2), (1, .long a0), (3, .int a1)]) hx hb dMe_read_17 hl (by decide) rfl (fun ls hl => ?_)
    refine lv_lconst (v := (0 : Int64)) hx hb dMe_read_19 (by decide) ?_
    refine lv_lstore (lv' := [(5, .long (0 : Int64)), (4, .int ((a0 - (2147483648 : Int64)).toInt32)), (0, .ref h2), (1, .long a0), (3, .int a1)]) hx hb dMe_read_20 hl (by decide) rfl (fun ls hl => ?_)
    refine lv_iload_n hx hb dMe_read_22 rfl (lv_at hl 4 rfl) ?_
    refine lv_iconst (v := (1 : Int32)) hx hb dMe_read_23 (by decide) ?_
    refine lv_isub hx hb dMe_read_24 ?_
    refine lv_istore (lv' := [(7, .int (a1 - (1 : Int32))), (5, .long (0 : Int64)), (4, .int ((a0 - (2147483648 : Int64)).toInt32)), (0, .ref h2), (1, .long a0), (3, .int a1)]) hx hb dMe_read_25 hl (by decide) rfl (fun ls hl => ?_)
    have loop : ∀ (n : Nat) (k : Int32) (v : Int64), ((f_Me_holds a0 a1) = true) → (-1 ≤ k.toInt) → (k.toInt < a1.toInt) → (k.toInt + 1).toNat < n → (f_Me_read mf a0 a1) = l_Me_read_27 mf a0 a1 n k v → ∀ (locs : List Loc), va_S (fun _ => False) s.heap s.heap locs → ∀ (ls : Array Slot), lv_has ls 8 [(7, .int k), (5, .long v), (4, .int ((a0 - (2147483648 : Int64)).toInt32)), (0, .ref h2), (1, .long a0), (3, .int a1)] → W p l e (headSpec wsMe_read ({ frames := 1, cells := 0, slots := 0, locals := 25 })).room s m ([.ref h2, .long a0, .int a1] : List Value).toArray below meth c s.heap locs 0 0 (MQ below (va_Ql (fun (r : Int64) (_ : Unit) => r = (f_Me_read mf a0 a1)) (fun _ t => t.heap = s.heap) (fun _ => False)) ([.ref h2, .long a0, .int a1] : List Value).toArray s 0 0 (fun _ => False)) (F0 m 27 ls []) := by
      intro n
      induction n with
      | zero =>
        intro k v hH hk1 hk2 hM
        exact absurd hM (Nat.not_lt_zero _)
      | succ n ih =>
        intro k v hH hk1 hk2 hM hE locs hS ls hl
        refine lv_iload hx hb dMe_read_27 (lv_at hl 0 rfl) ?_
        refine lv_if_lt (tgt := 61) hx hb dMe_read_29 (by decide) (fun c2 => ?_) (fun c2 => ?_)
        · skip
          refine lv_lload hx hb dMe_read_61 (lv_at hl 1 rfl) ?_
          exact W.lret (v := v) hx hb hr (fun t ht hW => ⟨⟨v, (), rfl, (by rw [hE, l_Me_read_27, if_pos c2]; try rfl), ht⟩, hS.F ht⟩) hS.2.2 dMe_read_63
        · skip
          refine lv_lload hx hb dMe_read_32 (lv_at hl 1 rfl) ?_
          refine lv_bipush (v := (8 : Int32)) hx hb dMe_read_34 (by decide) ?_
          refine lv_lshl (v := (j_lshl v (8 : Int32))) hx hb dMe_read_36 rfl ?_
          refine lv_aload_n hx hb dMe_read_37 rfl (lv_at hl 3 rfl) ?_
          refine va_get (D := G) (ci := 1) (v := .ref h3) (C := RMe) (T := TMe) (N := 1) hx hb hT inMe hown hK hP 0 rfl rfl 0 (by decide) (hT _ mw_73) (fun _ h9 => h9) rfl dMe_read_38 ?_
          refine lv_iload hx hb dMe_read_41 (lv_at hl 2 rfl) ?_
          refine lv_iload hx hb dMe_read_43 (lv_at hl 0 rfl) ?_
          refine lv_iadd hx hb dMe_read_45 ?_
          refine va_bald hx hb hK hP 1 0 rfl rfl (me_in hH hk2 c2) dMe_read_46 ?_
          refine lv_sipush (v := (255 : Int32)) hx hb dMe_read_47 (by decide) ?_
          refine lv_iand hx hb dMe_read_50 ?_
          refine lv_i2l hx hb dMe_read_51 rfl ?_
          refine lv_lor hx hb dMe_read_52 ?_
          refine lv_lstore (lv' := [(5, .long ((j_lshl v (8 : Int32)) ||| (((mf (((a0 - (2147483648 : Int64)).toInt32) + k).toNatClampNeg) &&& (255 : Int32)).toInt64))), (7, .int k), (4, .int ((a0 - (2147483648 : Int64)).toInt32)), (0, .ref h2), (1, .long a0), (3, .int a1)]) hx hb dMe_read_53 hl (by decide) rfl (fun ls hl => ?_)
          refine lv_iinc (v := (k + (-1 : Int32))) (lv' := [(7, .int (k + (-1 : Int32))), (5, .long ((j_lshl v (8 : Int32)) ||| (((mf (((a0 - (2147483648 : Int64)).toInt32) + k).toNatClampNeg) &&& (255 : Int32)).toInt64))), (4, .int ((a0 - (2147483648 : Int64)).toInt32)), (0, .ref h2), (1, .long a0), (3, .int a1)]) hx hb dMe_read_55 hl (k := 1) rfl (by first | rfl | decide) (by decide) rfl (fun ls hl => ?_)
          refine lv_goto (tgt := 27) hx hb dMe_read_58 (by decide) ?_
          exact ih (k + (-1 : Int32)) ((j_lshl v (8 : Int32)) ||| (((mf (((a0 - (2147483648 : Int64)).toInt32) + k).toNatClampNeg) &&& (255 : Int32)).toInt64)) hH (rd_b1 c2) (rd_b2 c2 hk2) (rd_b3 c2 hM) (by rw [hE, l_Me_read_27, if_neg c2]) _ hS ls (lv_sub hl [0, 1, 2, 3, 4, 5] rfl)
    exact loop (a1.toNatClampNeg + 1) (a1 - (1 : Int32)) (0 : Int64) c1 (rd_i1 hz) (rd_i2 hz) (rd_fuel hz) (by unfold f_Me_read; rw [if_pos c1]) _ hS ls (lv_sub hl [0, 1, 2, 3, 4, 5] rfl)
  · have c1 := bI_z c1
    refine lv_lconst (v := (0 : Int64)) hx hb dMe_read_9 (by decide) ?_
    exact W.lret (v := (0 : Int64)) hx hb hr (fun t ht hW => ⟨⟨(0 : Int64), (), rfl, (by unfold f_Me_read; rw [if_neg c1]; try rfl), ht⟩, hS.F ht⟩) hS.2.2 dMe_read_10

def l_Me_write_21 (mf : Nat → Int32) (a0 : Int64) (a1 : Int32) (a2 : Int64) : Nat → (Int32) → (Nat → Int32) → (Nat → Int32)
  | 0, _, _ => default
  | n + 1, k, g =>
    if a1 ≤ k then
      (g)
    else
      l_Me_write_21 mf a0 a1 a2 n (k + (1 : Int32)) (upd g (((a0 - (2147483648 : Int64)).toInt32) + k).toNatClampNeg (vp_nar .byte (j_i2b ((j_lshr a2 ((8 : Int32) * k)).toInt32))))
def f_Me_write (mf : Nat → Int32) (a0 : Int64) (a1 : Int32) (a2 : Int64) : (Nat → Int32) :=
  if (f_Me_holds a0 a1) = true then
    l_Me_write_21 mf a0 a1 a2 (a1.toNatClampNeg + 1) (0 : Int32) mf
  else
    (mf)
set_option maxHeartbeats 4000000 in
set_option maxRecDepth 100000 in
theorem c_Me_write (l : Launch) (G : va_G) (cB cL cI : ClassId) (Hp : Heap) (h2 : Nat) (h3 : Nat) (mf : Nat → Int32) (a0 : Int64) (a1 : Int32) (a2 : Int64) (hP : va_P G vwCl [(h2, .inr (1, [.ref h3])), (h3, .inl (cB, 4096, .inl mf))] Hp) (hD : va_D (fun _ => True) [(h2, .inr (1, [.ref h3])), (h3, .inl (cB, 4096, .inl mf))]) (hz : 1 ≤ a1.toInt ∧ a1.toInt ≤ 8) : Met l yMe_write wsMe_write ({ frames := 1, cells := 0, slots := 0, locals := 25 }) (va_Pc [.ref h2, .long a0, .int a1, .long a2] (fun U => U.heap = Hp ∧ va_K G vwCl [(cB, .byte), (cL, .long), (cI, .int)] U)) (va_Qv (fun (u : (Nat → Int32)) => u = (f_Me_write mf a0 a1 a2)) (fun (u : (Nat → Int32)) t => va_P G vwCl [(h2, .inr (1, [.ref h3])), (h3, .inl (cB, 4096, .inl (u)))] t.heap ∧ va_D (va_A [(h2, .inr (1, [.ref h3])), (h3, .inl (cB, 4096, .inl mf))] Hp.size) [(h2, .inr (1, [.ref h3])), (h3, .inl (cB, 4096, .inl (u)))]) (va_A [(h2, .inr (1, [.ref h3])), (h3, .inl (cB, 4096, .inl mf))] Hp.size)) 0 0 (va_A [(h2, .inr (1, [.ref h3])), (h3, .inl (cB, 4096, .inl mf))] Hp.size) := by
  refine Met.ofW (cc := cMe_write) (maxL := 8) (ret := none) (by decide) rfl ?_
  intro p e s m args below meth c s₁ B hml hv
  obtain ⟨rfl, rfl, hK⟩ := hv
  have hx := B.exec
  have hb := B.bytes
  have hr := B.returns
  have hT : ∀ w ∈ tB, w.before _ s = true := fun w h => atoms_spec (ws := wsMe_write) B.pre w (List.mem_cons_of_mem _ h)
  have hown : s.vm.findClass "CompiledProgram$Memory" = some m.cls := findClass_of_methodNamed B.named
  have hlocks := B.notSynchronized
  have hD := hD.self (sz := s.heap.size)
  generalize hAe : va_A [(h2, .inr (1, [.ref h3])), (h3, .inl (cB, 4096, .inl mf))] s.heap.size = A at hD ⊢
  have hA : ∀ q : Nat, s.heap.size ≤ q → A q := fun q h => by rw [← hAe]; exact Or.inr h
  have hS : va_S A s.heap s.heap [] := va_S.rf
  have hl := lv_entry ([.ref h2, .long a0, .int a1, .long a2]) (n := 8) (Nat.le_of_ble_eq_true rfl)
  rw [lg_entry_eq]
  generalize (lg_sl ([.ref h2, .long a0, .int a1, .long a2]) ++ List.replicate (8 - (lg_sl ([.ref h2, .long a0, .int a1, .long a2])).length) Slot.unset).toArray = ls at hl ⊢
  have hl : lv_has ls 8 [(0, .ref h2), (1, .long a0), (3, .int a1), (4, .long a2)] := hl
  refine lv_aload_n hx hb dMe_write_0 rfl (lv_at hl 0 rfl) ?_
  refine lv_lload_n hx hb dMe_write_1 rfl (lv_at hl 1 rfl) ?_
  refine lv_iload_n hx hb dMe_write_2 rfl (lv_at hl 2 rfl) ?_
  have hPc := hP.sub (ws' := [(h2, .inr (1, [.ref h3])), (h3, .inl (cB, 4096, .inl mf))]) [0, 1] rfl
  refine va_calli (va_runV (As := [.long a0, .int a1]) (rest := []) ⟨hx, hb, hml, hown, hT⟩ (c_Me_holds l G cB cL cI s.heap h2 h3 mf a0 a1 hPc ) (cwV 2 hT (gB_V mw_423 mw_414 mw_415 mw_5 mw_416) rfl rfl rfl (by decide +kernel) ⟨Nat.le_of_ble_eq_true rfl, Nat.le_of_ble_eq_true rfl⟩) ⟨fun a U g mk q => ⟨q.1, q.2.1, va_K.moved (u := U) (U := U.calling g mk a) (Vm.Alike.refl U.vm) q.2.2⟩, va_recv hK hPc (ci := 1) (q0 := 0) rfl rfl, fun U hU hW => ⟨rfl, hU, va_K.moved hW.alike hK⟩⟩ rfl rfl hl.1 rfl (lv_room (Nat.le_of_ble_eq_true rfl)) dMe_write_3 ⟨Nat.zero_le _, Nat.zero_le _⟩) hS (fun _ _ h => h.elim) (fun _ h => h.elim) (fun r u t H1 locs ht hvm hw hB hz8 hk8 hS => ?_)
  obtain rfl : s.heap = H1 := hB.symm.trans ht
  subst hw
  refine lv_if_ne (tgt := 10) hx hb dMe_write_6 (by decide) (fun c1 => ?_) (fun c1 => ?_)
  · have c1 := bI_n c1
    refine lv_lload_n hx hb dMe_write_10 rfl (lv_at hl 1 rfl) ?_
    refine lv_ldc2 (v := (2147483648 : Int64)) hx hb hown (hT _ mw_417) dMe_write_11 ?_
    refine lv_lsub hx hb dMe_write_14 ?_
    refine lv_l2i hx hb dMe_write_15 rfl ?_
    refine lv_istore (lv' := [(6, .int ((a0 - (2147483648 : Int64)).toInt32)), (0, .ref h2), (1, .long a0), (3, .int a1), (4, .long a2)]) hx hb dMe_write_16 hl (by decide) rfl (fun ls hl => ?_)
    refine lv_iconst (v := (0 : Int32)) hx hb dMe_write_18 (by decide) ?_
    refine lv_istore (lv' := [(7, .int (0 : Int32)), (6, .int ((a0 - (2147483648 : Int64)).toInt32)), (0, .ref h2), (1, .long a0), (3, .int a1), (4, .long a2)]) hx hb dMe_write_19 hl (by decide) rfl (fun ls hl => ?_)
    have loop : ∀ (n : Nat) (k : Int32) (g : Nat → Int32), ((f_Me_holds a0 a1) = true) → (0 ≤ k.toInt) → (a1.toInt - k.toInt).toNat < n → (f_Me_write mf a0 a1 a2) = l_Me_write_21 mf a0 a1 a2 n k g → ∀ (H : Heap), va_P G vwCl [(h2, .inr (1, [.ref h3])), (h3, .inl (cB, 4096, .inl g))] H → va_D A [(h2, .inr (1, [.ref h3])), (h3, .inl (cB, 4096, .inl g))] → ∀ (locs : List Loc), va_S A s.heap H locs → ∀ (ls : Array Slot), lv_has ls 8 [(7, .int k), (6, .int ((a0 - (2147483648 : Int64)).toInt32)), (0, .ref h2), (1, .long a0), (3, .int a1), (4, .long a2)] → W p l e (headSpec wsMe_write ({ frames := 1, cells := 0, slots := 0, locals := 25 })).room s m ([.ref h2, .long a0, .int a1, .long a2] : List Value).toArray below meth c H locs 0 0 (MQ below (va_Qv (fun (u : (Nat → Int32)) => u = (f_Me_write mf a0 a1 a2)) (fun (u : (Nat → Int32)) t => va_P G vwCl [(h2, .inr (1, [.ref h3])), (h3, .inl (cB, 4096, .inl (u)))] t.heap ∧ va_D (A) [(h2, .inr (1, [.ref h3])), (h3, .inl (cB, 4096, .inl (u)))]) (A)) ([.ref h2, .long a0, .int a1, .long a2] : List Value).toArray s 0 0 A) (F0 m 21 ls []) := by
      intro n
      induction n with
      | zero =>
        intro k g hH hk1 hM
        exact absurd hM (Nat.not_lt_zero _)
      | succ n ih =>
        intro k g hH hk1 hM hE H hP hD locs hS ls hl
        refine lv_iload hx hb dMe_write_21 (lv_at hl 0 rfl) ?_
        refine lv_iload_n hx hb dMe_write_23 rfl (lv_at hl 4 rfl) ?_
        refine lv_icmp_ge (tgt := 53) hx hb dMe_write_24 (by decide) (fun c2 => ?_) (fun c2 => ?_)
        · skip
          have hP9 := hP.sub (ws' := [(h2, .inr (1, [.ref h3])), (h3, .inl (cB, 4096, .inl g))]) [0, 1] rfl
          have hD9 := hD.sub (ws' := [(h2, .inr (1, [.ref h3])), (h3, .inl (cB, 4096, .inl g))]) [0, 1] (by decide) rfl
          exact W.vret hx hb hr (fun t ht hW => ⟨⟨(g), rfl, (by rw [hE, l_Me_write_21, if_pos c2]; try rfl), by rw [ht]; exact hP9, hD9⟩, hS.F ht⟩) hS.2.2 dMe_write_53
        · skip
          refine lv_aload_n hx hb dMe_write_27 rfl (lv_at hl 2 rfl) ?_
          refine va_get (D := G) (ci := 1) (v := .ref h3) (C := RMe) (T := TMe) (N := 1) hx hb hT inMe hown hK hP 0 rfl rfl 0 (by decide) (hT _ mw_73) (fun _ h9 => h9) rfl dMe_write_28 ?_
          refine lv_iload hx hb dMe_write_31 (lv_at hl 1 rfl) ?_
          refine lv_iload hx hb dMe_write_33 (lv_at hl 0 rfl) ?_
          refine lv_iadd hx hb dMe_write_35 ?_
          refine lv_lload hx hb dMe_write_36 (lv_at hl 5 rfl) ?_
          refine lv_bipush (v := (8 : Int32)) hx hb dMe_write_38 (by decide) ?_
          refine lv_iload hx hb dMe_write_40 (lv_at hl 0 rfl) ?_
          refine lv_imul hx hb dMe_write_42 ?_
          refine lv_lshr (v := (j_lshr a2 ((8 : Int32) * k))) hx hb dMe_write_43 rfl ?_
          refine lv_l2i hx hb dMe_write_44 rfl ?_
          refine lv_i2b (v := (j_i2b ((j_lshr a2 ((8 : Int32) * k)).toInt32))) hx hb dMe_write_45 rfl ?_
          refine va_bast hx hb hK hP hD hS 1 0 rfl rfl (me_in2 hH hk1 c2) dMe_write_46 (fun H locs hP hD hS => ?_)
          have hP : va_P G vwCl [(h2, .inr (1, [.ref h3])), (h3, .inl (cB, 4096, .inl (upd g (((a0 - (2147483648 : Int64)).toInt32) + k).toNatClampNeg (vp_nar .byte (j_i2b ((j_lshr a2 ((8 : Int32) * k)).toInt32))))))] H := hP
          have hD : va_D A [(h2, .inr (1, [.ref h3])), (h3, .inl (cB, 4096, .inl (upd g (((a0 - (2147483648 : Int64)).toInt32) + k).toNatClampNeg (vp_nar .byte (j_i2b ((j_lshr a2 ((8 : Int32) * k)).toInt32))))))] := hD
          refine lv_iinc (v := (k + (1 : Int32))) (lv' := [(7, .int (k + (1 : Int32))), (6, .int ((a0 - (2147483648 : Int64)).toInt32)), (0, .ref h2), (1, .long a0), (3, .int a1), (4, .long a2)]) hx hb dMe_write_47 hl (k := 0) rfl (by first | rfl | decide) (by decide) rfl (fun ls hl => ?_)
          refine lv_goto (tgt := 21) hx hb dMe_write_50 (by decide) ?_
          exact ih (k + (1 : Int32)) (upd g (((a0 - (2147483648 : Int64)).toInt32) + k).toNatClampNeg (vp_nar .byte (j_i2b ((j_lshr a2 ((8 : Int32) * k)).toInt32)))) hH (wr_b1 hz hk1 c2) (wr_b2 hz hk1 c2 hM) (by rw [hE, l_Me_write_21, if_neg c2]) _ hP hD _ hS ls (lv_sub hl [0, 1, 2, 3, 4, 5] rfl)
    exact loop (a1.toNatClampNeg + 1) (0 : Int32) mf c1 (by decide) (wr_fuel) (by unfold f_Me_write; rw [if_pos c1]) _ hP hD _ hS ls (lv_sub hl [0, 1, 2, 3, 4, 5] rfl)
  · have c1 := bI_z c1
    have hP9 := hP.sub (ws' := [(h2, .inr (1, [.ref h3])), (h3, .inl (cB, 4096, .inl mf))]) [0, 1] rfl
    have hD9 := hD.sub (ws' := [(h2, .inr (1, [.ref h3])), (h3, .inl (cB, 4096, .inl mf))]) [0, 1] (by decide) rfl
    exact W.vret hx hb hr (fun t ht hW => ⟨⟨(mf), rfl, (by unfold f_Me_write; rw [if_neg c1]; try rfl), by rw [ht]; exact hP9, hD9⟩, hS.F ht⟩) hS.2.2 dMe_write_9
