theorem there_spec {a0 : Int64} {a1 : Int32} (hz : 1 ≤ a1.toInt ∧ a1.toInt ≤ 8) (h : (f_Mo_isThere a0 a1) = true) : 2147483648 ≤ a0.toInt ∧ a0.toInt ≤ 2147487744 - a1.toInt := by
  unfold f_Mo_isThere at h
  by_cases c1 : a0 < (2147483648 : Int64)
  · rw [if_pos c1] at h; cases h
  · rw [if_neg c1] at h
    by_cases c2 : ((2147487744 : Int64) - ((a1).toInt64)) < a0
    · rw [if_pos c2] at h; cases h
    · have c1 := l_nlt c1
      have c2 := l_nlt c2
      have e1 : (2147483648 : Int64).toInt = 2147483648 := by decide
      have e2 : (2147487744 : Int64).toInt = 2147487744 := by decide
      rw [Int64.toInt_sub, e2, Int32.toInt_toInt64, Int.bmod_eq_of_le_mul_two (by omega) (by omega)] at c2
      rw [e1] at c1
      exact ⟨c1, c2⟩
theorem mt_at {a0 : Int64} {a1 k : Int32} (h : (f_Mo_isThere a0 a1) = true) (hz : 1 ≤ a1.toInt ∧ a1.toInt ≤ 8) (h0 : 0 ≤ k.toInt) (h1 : k.toInt < a1.toInt) : (((a0 - (2147483648 : Int64)).toInt32) + k).toInt = a0.toInt - 2147483648 + k.toInt ∧ a0.toInt - 2147483648 + k.toInt < 4096 ∧ 0 ≤ a0.toInt - 2147483648 := by
  obtain ⟨g1, g2⟩ := there_spec hz h
  have e1 : (2147483648 : Int64).toInt = 2147483648 := by decide
  have e3 : (a0 - (2147483648 : Int64)).toInt = a0.toInt - 2147483648 := by
    rw [Int64.toInt_sub, e1, Int.bmod_eq_of_le_mul_two (by omega) (by omega)]
  have e2 : ((a0 - (2147483648 : Int64)).toInt32).toInt = a0.toInt - 2147483648 := by
    rw [Int64.toInt_toInt32, e3]; exact bm32 (by omega) (by omega)
  rw [i_add (by rw [e2]; omega) (by rw [e2]; omega), e2]
  omega
theorem mt_in {a0 : Int64} {a1 k : Int32} (h : (f_Mo_isThere a0 a1) = true) (hz : 1 ≤ a1.toInt ∧ a1.toInt ≤ 8) (h1 : k.toInt < a1.toInt) (c : ¬ k < 0) : vp_in (((a0 - (2147483648 : Int64)).toInt32) + k) 4096 := by
  have := mt_at h hz (i_nlt0 c) h1
  have := i_nlt0 c
  rw [vp_in_iff]; omega
theorem mt_in2 {a0 : Int64} {a1 k : Int32} (h : (f_Mo_isThere a0 a1) = true) (hz : 1 ≤ a1.toInt ∧ a1.toInt ≤ 8) (h0 : 0 ≤ k.toInt) (c : ¬ a1 ≤ k) : vp_in (((a0 - (2147483648 : Int64)).toInt32) + k) 4096 := by
  have := mt_at h hz h0 (i_nle c)
  rw [vp_in_iff]; omega
def l_Mo_loadJ_8 (gm : Nat → Int32) (a0 : Int64) (a1 : Int32) : Nat → (Int32) → (Int64) → Int64
  | 0, _, _ => default
  | n + 1, k, v =>
    if k < 0 then
      v
    else
      l_Mo_loadJ_8 gm a0 a1 n (k + (-1 : Int32)) (((256 : Int64) * v) + ((gm (((a0 - (2147483648 : Int64)).toInt32) + k).toNatClampNeg).toInt64))
def f_Mo_loadJ (gm : Nat → Int32) (a0 : Int64) (a1 : Int32) : Int64 :=
  l_Mo_loadJ_8 gm a0 a1 (a1.toNatClampNeg + 1) (a1 - (1 : Int32)) (0 : Int64)
set_option maxHeartbeats 4000000 in
set_option maxRecDepth 100000 in
theorem c_Mo_loadJ (l : Launch) (G : va_G) (cB cL cI : ClassId) (Hp : Heap) (m0 : Nat) (vth : Int32) (qt : Nat) (vtp : Int32) (qp : Nat) (vpl : Int32) (qr : Nat) (qm : Nat) (vpc : Int32) (vst : Int32) (vc : Int32) (vd : Int32) (vs : Int32) (vo : Int32) (vi : Int32) (vn : Int32) (gm : Nat → Int32) (a0 : Int64) (a1 : Int32) (hP : va_P G vwCl [(m0, .inr (5, [.int vth, .ref qt, .int vtp, .ref qp, .int vpl, .ref qr, .ref qm, .int vpc, .int vst, .int vc, .int vd, .int vs, .int vo, .int vi, .int vn])), (qm, .inl (cI, 4096, .inl gm))] Hp) (hH : (f_Mo_isThere a0 a1) = true) (hz : 1 ≤ a1.toInt ∧ a1.toInt ≤ 8) : Met l yMo_loadJ wsMo_loadJ ({ frames := 0, cells := 0, slots := 0, locals := 0 }) (va_Pc [.ref m0, .long a0, .int a1] (fun U => U.heap = Hp ∧ va_K G vwCl [(cB, .byte), (cL, .long), (cI, .int)] U)) (va_Ql (fun (r : Int64) (_ : Unit) => r = (f_Mo_loadJ gm a0 a1)) (fun _ t => t.heap = Hp) (fun _ => False)) 0 0 (fun _ => False) := by
  refine Met.ofW (cc := cMo_loadJ) (maxL := 7) (ret := (some .long)) (by decide) rfl ?_
  intro p e s m args below meth c s₁ B hml hv
  obtain ⟨rfl, rfl, hK⟩ := hv
  have hx := B.exec
  have hb := B.bytes
  have hr := B.returns
  have hT : ∀ w ∈ tB, w.before _ s = true := fun w h => atoms_spec (ws := wsMo_loadJ) B.pre w (List.mem_cons_of_mem _ h)
  have hown : s.vm.findClass "CompiledProgramModel" = some m.cls := findClass_of_methodNamed B.named
  have hlocks := B.notSynchronized
  have hA : ∀ q : Nat, (fun _ : Nat => False) q → False := fun _ h => h
  have hS : va_S (fun _ => False) s.heap s.heap [] := va_S.rf
  have hl := lv_entry ([.ref m0, .long a0, .int a1]) (n := 7) (Nat.le_of_ble_eq_true rfl)
  rw [lg_entry_eq]
  generalize (lg_sl ([.ref m0, .long a0, .int a1]) ++ List.replicate (7 - (lg_sl ([.ref m0, .long a0, .int a1])).length) Slot.unset).toArray = ls at hl ⊢
  have hl : lv_has ls 7 [(0, .ref m0), (1, .long a0), (3, .int a1)] := hl
  refine lv_lconst (v := (0 : Int64)) hx hb dMo_loadJ_0 (by decide) ?_
  refine lv_lstore (lv' := [(4, .long (0 : Int64)), (0, .ref m0), (1, .long a0), (3, .int a1)]) hx hb dMo_loadJ_1 hl (by decide) rfl (fun ls hl => ?_)
  refine lv_iload_n hx hb dMo_loadJ_3 rfl (lv_at hl 3 rfl) ?_
  refine lv_iconst (v := (1 : Int32)) hx hb dMo_loadJ_4 (by decide) ?_
  refine lv_isub hx hb dMo_loadJ_5 ?_
  refine lv_istore (lv' := [(6, .int (a1 - (1 : Int32))), (4, .long (0 : Int64)), (0, .ref m0), (1, .long a0), (3, .int a1)]) hx hb dMo_loadJ_6 hl (by decide) rfl (fun ls hl => ?_)
  have loop : ∀ (n : Nat) (k : Int32) (v : Int64), (-1 ≤ k.toInt) → (k.toInt < a1.toInt) → (k.toInt + 1).toNat < n → (f_Mo_loadJ gm a0 a1) = l_Mo_loadJ_8 gm a0 a1 n k v → ∀ (locs : List Loc), va_S (fun _ => False) s.heap s.heap locs → ∀ (ls : Array Slot), lv_has ls 7 [(6, .int k), (4, .long v), (0, .ref m0), (1, .long a0), (3, .int a1)] → W p l e (headSpec wsMo_loadJ ({ frames := 0, cells := 0, slots := 0, locals := 0 })).room s m ([.ref m0, .long a0, .int a1] : List Value).toArray below meth c s.heap locs 0 0 (MQ below (va_Ql (fun (r : Int64) (_ : Unit) => r = (f_Mo_loadJ gm a0 a1)) (fun _ t => t.heap = s.heap) (fun _ => False)) ([.ref m0, .long a0, .int a1] : List Value).toArray s 0 0 (fun _ => False)) (F0 m 8 ls []) := by
    intro n
    induction n with
    | zero =>
      intro k v hk1 hk2 hM
      exact absurd hM (Nat.not_lt_zero _)
    | succ n ih =>
      intro k v hk1 hk2 hM hE locs hS ls hl
      refine lv_iload hx hb dMo_loadJ_8 (lv_at hl 0 rfl) ?_
      refine lv_if_lt (tgt := 43) hx hb dMo_loadJ_10 (by decide) (fun c1 => ?_) (fun c1 => ?_)
      · skip
        refine lv_lload hx hb dMo_loadJ_43 (lv_at hl 1 rfl) ?_
        exact W.lret (v := v) hx hb hr (fun t ht hW => ⟨⟨v, (), rfl, (by rw [hE, l_Mo_loadJ_8, if_pos c1]; try rfl), ht⟩, hS.F ht⟩) hS.2.2 dMo_loadJ_45
      · skip
        refine lv_ldc2 (v := (256 : Int64)) hx hb hown (hT _ mw_724) dMo_loadJ_13 ?_
        refine lv_lload hx hb dMo_loadJ_16 (lv_at hl 1 rfl) ?_
        refine lv_lmul hx hb dMo_loadJ_18 ?_
        refine lv_aload_n hx hb dMo_loadJ_19 rfl (lv_at hl 2 rfl) ?_
        refine va_get (D := G) (ci := 5) (v := .ref qm) (C := RMo) (T := TMo) (N := 15) hx hb hT inMo hown hK hP 0 rfl rfl 6 (by decide) (hT _ mw_571) (fun _ h9 => h9) rfl dMo_loadJ_20 ?_
        refine lv_lload_n hx hb dMo_loadJ_23 rfl (lv_at hl 3 rfl) ?_
        refine lv_ldc2 (v := (2147483648 : Int64)) hx hb hown (hT _ mw_710) dMo_loadJ_24 ?_
        refine lv_lsub hx hb dMo_loadJ_27 ?_
        refine lv_l2i hx hb dMo_loadJ_28 rfl ?_
        refine lv_iload hx hb dMo_loadJ_29 (lv_at hl 0 rfl) ?_
        refine lv_iadd hx hb dMo_loadJ_31 ?_
        refine va_iald hx hb hK hP 1 2 rfl rfl (mt_in hH hz hk2 c1) dMo_loadJ_32 ?_
        refine lv_i2l hx hb dMo_loadJ_33 rfl ?_
        refine lv_ladd hx hb dMo_loadJ_34 ?_
        refine lv_lstore (lv' := [(4, .long (((256 : Int64) * v) + ((gm (((a0 - (2147483648 : Int64)).toInt32) + k).toNatClampNeg).toInt64))), (6, .int k), (0, .ref m0), (1, .long a0), (3, .int a1)]) hx hb dMo_loadJ_35 hl (by decide) rfl (fun ls hl => ?_)
        refine lv_iinc (v := (k + (-1 : Int32))) (lv' := [(6, .int (k + (-1 : Int32))), (4, .long (((256 : Int64) * v) + ((gm (((a0 - (2147483648 : Int64)).toInt32) + k).toNatClampNeg).toInt64))), (0, .ref m0), (1, .long a0), (3, .int a1)]) hx hb dMo_loadJ_37 hl (k := 1) rfl (by first | rfl | decide) (by decide) rfl (fun ls hl => ?_)
        refine lv_goto (tgt := 8) hx hb dMo_loadJ_40 (by decide) ?_
        exact ih (k + (-1 : Int32)) (((256 : Int64) * v) + ((gm (((a0 - (2147483648 : Int64)).toInt32) + k).toNatClampNeg).toInt64)) (rd_b1 c1) (rd_b2 c1 hk2) (rd_b3 c1 hM) (by rw [hE, l_Mo_loadJ_8, if_neg c1]) _ hS ls (lv_sub hl [0, 1, 2, 3, 4] rfl)
  exact loop (a1.toNatClampNeg + 1) (a1 - (1 : Int32)) (0 : Int64) (rd_i1 hz) (rd_i2 hz) (rd_fuel hz) rfl _ hS ls (lv_sub hl [0, 1, 2, 3, 4] rfl)

def l_Mo_store_3 (gm : Nat → Int32) (a0 : Int64) (a1 : Int32) (a2 : Int64) : Nat → (Int32) → (Nat → Int32) → (Nat → Int32)
  | 0, _, _ => default
  | n + 1, k, g =>
    if a1 ≤ k then
      (g)
    else
      l_Mo_store_3 gm a0 a1 a2 n (k + (1 : Int32)) (upd g (((a0 - (2147483648 : Int64)).toInt32) + k).toNatClampNeg (((j_lushr a2 ((8 : Int32) * k)).toInt32) &&& (255 : Int32)))
def f_Mo_store (gm : Nat → Int32) (a0 : Int64) (a1 : Int32) (a2 : Int64) : (Nat → Int32) :=
  l_Mo_store_3 gm a0 a1 a2 (a1.toNatClampNeg + 1) (0 : Int32) gm
set_option maxHeartbeats 4000000 in
set_option maxRecDepth 100000 in
theorem c_Mo_store (l : Launch) (G : va_G) (cB cL cI : ClassId) (Hp : Heap) (m0 : Nat) (vth : Int32) (qt : Nat) (vtp : Int32) (qp : Nat) (vpl : Int32) (qr : Nat) (qm : Nat) (vpc : Int32) (vst : Int32) (vc : Int32) (vd : Int32) (vs : Int32) (vo : Int32) (vi : Int32) (vn : Int32) (gm : Nat → Int32) (a0 : Int64) (a1 : Int32) (a2 : Int64) (hP : va_P G vwCl [(m0, .inr (5, [.int vth, .ref qt, .int vtp, .ref qp, .int vpl, .ref qr, .ref qm, .int vpc, .int vst, .int vc, .int vd, .int vs, .int vo, .int vi, .int vn])), (qm, .inl (cI, 4096, .inl gm))] Hp) (hD : va_D (fun _ => True) [(m0, .inr (5, [.int vth, .ref qt, .int vtp, .ref qp, .int vpl, .ref qr, .ref qm, .int vpc, .int vst, .int vc, .int vd, .int vs, .int vo, .int vi, .int vn])), (qm, .inl (cI, 4096, .inl gm))]) (hH : (f_Mo_isThere a0 a1) = true) (hz : 1 ≤ a1.toInt ∧ a1.toInt ≤ 8) : Met l yMo_store wsMo_store ({ frames := 0, cells := 0, slots := 0, locals := 0 }) (va_Pc [.ref m0, .long a0, .int a1, .long a2] (fun U => U.heap = Hp ∧ va_K G vwCl [(cB, .byte), (cL, .long), (cI, .int)] U)) (va_Qv (fun (u : (Nat → Int32)) => u = (f_Mo_store gm a0 a1 a2)) (fun (u : (Nat → Int32)) t => va_P G vwCl [(m0, .inr (5, [.int vth, .ref qt, .int vtp, .ref qp, .int vpl, .ref qr, .ref qm, .int vpc, .int vst, .int vc, .int vd, .int vs, .int vo, .int vi, .int vn])), (qm, .inl (cI, 4096, .inl (u)))] t.heap ∧ va_D (va_A [(m0, .inr (5, [.int vth, .ref qt, .int vtp, .ref qp, .int vpl, .ref qr, .ref qm, .int vpc, .int vst, .int vc, .int vd, .int vs, .int vo, .int vi, .int vn])), (qm, .inl (cI, 4096, .inl gm))] Hp.size) [(m0, .inr (5, [.int vth, .ref qt, .int vtp, .ref qp, .int vpl, .ref qr, .ref qm, .int vpc, .int vst, .int vc, .int vd, .int vs, .int vo, .int vi, .int vn])), (qm, .inl (cI, 4096, .inl (u)))]) (va_A [(m0, .inr (5, [.int vth, .ref qt, .int vtp, .ref qp, .int vpl, .ref qr, .ref qm, .int vpc, .int vst, .int vc, .int vd, .int vs, .int vo, .int vi, .int vn])), (qm, .inl (cI, 4096, .inl gm))] Hp.size)) 0 0 (va_A [(m0, .inr (5, [.int vth, .ref qt, .int vtp, .ref qp, .int vpl, .ref qr, .ref qm, .int vpc, .int vst, .int vc, .int vd, .int vs, .int vo, .int vi, .int vn])), (qm, .inl (cI, 4096, .inl gm))] Hp.size) := by
  refine Met.ofW (cc := cMo_store) (maxL := 7) (ret := none) (by decide) rfl ?_
  intro p e s m args below meth c s₁ B hml hv
  obtain ⟨rfl, rfl, hK⟩ := hv
  have hx := B.exec
  have hb := B.bytes
  have hr := B.returns
  have hT : ∀ w ∈ tB, w.before _ s = true := fun w h => atoms_spec (ws := wsMo_store) B.pre w (List.mem_cons_of_mem _ h)
  have hown : s.vm.findClass "CompiledProgramModel" = some m.cls := findClass_of_methodNamed B.named
  have hlocks := B.notSynchronized
  have hD := hD.self (sz := s.heap.size)
  generalize hAe : va_A [(m0, .inr (5, [.int vth, .ref qt, .int vtp, .ref qp, .int vpl, .ref qr, .ref qm, .int vpc, .int vst, .int vc, .int vd, .int vs, .int vo, .int vi, .int vn])), (qm, .inl (cI, 4096, .inl gm))] s.heap.size = A at hD ⊢
  have hA : ∀ q : Nat, s.heap.size ≤ q → A q := fun q h => by rw [← hAe]; exact Or.inr h
  have hS : va_S A s.heap s.heap [] := va_S.rf
  have hl := lv_entry ([.ref m0, .long a0, .int a1, .long a2]) (n := 7) (Nat.le_of_ble_eq_true rfl)
  rw [lg_entry_eq]
  generalize (lg_sl ([.ref m0, .long a0, .int a1, .long a2]) ++ List.replicate (7 - (lg_sl ([.ref m0, .long a0, .int a1, .long a2])).length) Slot.unset).toArray = ls at hl ⊢
  have hl : lv_has ls 7 [(0, .ref m0), (1, .long a0), (3, .int a1), (4, .long a2)] := hl
  refine lv_iconst (v := (0 : Int32)) hx hb dMo_store_0 (by decide) ?_
  refine lv_istore (lv' := [(6, .int (0 : Int32)), (0, .ref m0), (1, .long a0), (3, .int a1), (4, .long a2)]) hx hb dMo_store_1 hl (by decide) rfl (fun ls hl => ?_)
  have loop : ∀ (n : Nat) (k : Int32) (g : Nat → Int32), (0 ≤ k.toInt) → (a1.toInt - k.toInt).toNat < n → (f_Mo_store gm a0 a1 a2) = l_Mo_store_3 gm a0 a1 a2 n k g → ∀ (H : Heap), va_P G vwCl [(m0, .inr (5, [.int vth, .ref qt, .int vtp, .ref qp, .int vpl, .ref qr, .ref qm, .int vpc, .int vst, .int vc, .int vd, .int vs, .int vo, .int vi, .int vn])), (qm, .inl (cI, 4096, .inl g))] H → va_D A [(m0, .inr (5, [.int vth, .ref qt, .int vtp, .ref qp, .int vpl, .ref qr, .ref qm, .int vpc, .int vst, .int vc, .int vd, .int vs, .int vo, .int vi, .int vn])), (qm, .inl (cI, 4096, .inl g))] → ∀ (locs : List Loc), va_S A s.heap H locs → ∀ (ls : Array Slot), lv_has ls 7 [(6, .int k), (0, .ref m0), (1, .long a0), (3, .int a1), (4, .long a2)] → W p l e (headSpec wsMo_store ({ frames := 0, cells := 0, slots := 0, locals := 0 })).room s m ([.ref m0, .long a0, .int a1, .long a2] : List Value).toArray below meth c H locs 0 0 (MQ below (va_Qv (fun (u : (Nat → Int32)) => u = (f_Mo_store gm a0 a1 a2)) (fun (u : (Nat → Int32)) t => va_P G vwCl [(m0, .inr (5, [.int vth, .ref qt, .int vtp, .ref qp, .int vpl, .ref qr, .ref qm, .int vpc, .int vst, .int vc, .int vd, .int vs, .int vo, .int vi, .int vn])), (qm, .inl (cI, 4096, .inl (u)))] t.heap ∧ va_D (A) [(m0, .inr (5, [.int vth, .ref qt, .int vtp, .ref qp, .int vpl, .ref qr, .ref qm, .int vpc, .int vst, .int vc, .int vd, .int vs, .int vo, .int vi, .int vn])), (qm, .inl (cI, 4096, .inl (u)))]) (A)) ([.ref m0, .long a0, .int a1, .long a2] : List Value).toArray s 0 0 A) (F0 m 3 ls []) := by
    intro n
    induction n with
    | zero =>
      intro k g hk1 hM
      exact absurd hM (Nat.not_lt_zero _)
    | succ n ih =>
      intro k g hk1 hM hE H hP hD locs hS ls hl
      refine lv_iload hx hb dMo_store_3 (lv_at hl 0 rfl) ?_
      refine lv_iload_n hx hb dMo_store_5 rfl (lv_at hl 3 rfl) ?_
      refine lv_icmp_ge (tgt := 42) hx hb dMo_store_6 (by decide) (fun c1 => ?_) (fun c1 => ?_)
      · skip
        have hP9 := hP.sub (ws' := [(m0, .inr (5, [.int vth, .ref qt, .int vtp, .ref qp, .int vpl, .ref qr, .ref qm, .int vpc, .int vst, .int vc, .int vd, .int vs, .int vo, .int vi, .int vn])), (qm, .inl (cI, 4096, .inl g))]) [0, 1] rfl
        have hD9 := hD.sub (ws' := [(m0, .inr (5, [.int vth, .ref qt, .int vtp, .ref qp, .int vpl, .ref qr, .ref qm, .int vpc, .int vst, .int vc, .int vd, .int vs, .int vo, .int vi, .int vn])), (qm, .inl (cI, 4096, .inl g))]) [0, 1] (by decide) rfl
        exact W.vret hx hb hr (fun t ht hW => ⟨⟨(g), rfl, (by rw [hE, l_Mo_store_3, if_pos c1]; try rfl), by rw [ht]; exact hP9, hD9⟩, hS.F ht⟩) hS.2.2 dMo_store_42
      · skip
        refine lv_aload_n hx hb dMo_store_9 rfl (lv_at hl 1 rfl) ?_
        refine va_get (D := G) (ci := 5) (v := .ref qm) (C := RMo) (T := TMo) (N := 15) hx hb hT inMo hown hK hP 0 rfl rfl 6 (by decide) (hT _ mw_571) (fun _ h9 => h9) rfl dMo_store_10 ?_
        refine lv_lload_n hx hb dMo_store_13 rfl (lv_at hl 2 rfl) ?_
        refine lv_ldc2 (v := (2147483648 : Int64)) hx hb hown (hT _ mw_710) dMo_store_14 ?_
        refine lv_lsub hx hb dMo_store_17 ?_
        refine lv_l2i hx hb dMo_store_18 rfl ?_
        refine lv_iload hx hb dMo_store_19 (lv_at hl 0 rfl) ?_
        refine lv_iadd hx hb dMo_store_21 ?_
        refine lv_lload hx hb dMo_store_22 (lv_at hl 4 rfl) ?_
        refine lv_bipush (v := (8 : Int32)) hx hb dMo_store_24 (by decide) ?_
        refine lv_iload hx hb dMo_store_26 (lv_at hl 0 rfl) ?_
        refine lv_imul hx hb dMo_store_28 ?_
        refine lv_lushr (v := (j_lushr a2 ((8 : Int32) * k))) hx hb dMo_store_29 rfl ?_
        refine lv_l2i hx hb dMo_store_30 rfl ?_
        refine lv_sipush (v := (255 : Int32)) hx hb dMo_store_31 (by decide) ?_
        refine lv_iand hx hb dMo_store_34 ?_
        refine va_iast hx hb hK hP hD hS 1 2 rfl rfl (mt_in2 hH hz hk1 c1) dMo_store_35 (fun H locs hP hD hS => ?_)
        have hP : va_P G vwCl [(m0, .inr (5, [.int vth, .ref qt, .int vtp, .ref qp, .int vpl, .ref qr, .ref qm, .int vpc, .int vst, .int vc, .int vd, .int vs, .int vo, .int vi, .int vn])), (qm, .inl (cI, 4096, .inl (upd g (((a0 - (2147483648 : Int64)).toInt32) + k).toNatClampNeg (((j_lushr a2 ((8 : Int32) * k)).toInt32) &&& (255 : Int32)))))] H := hP
        have hD : va_D A [(m0, .inr (5, [.int vth, .ref qt, .int vtp, .ref qp, .int vpl, .ref qr, .ref qm, .int vpc, .int vst, .int vc, .int vd, .int vs, .int vo, .int vi, .int vn])), (qm, .inl (cI, 4096, .inl (upd g (((a0 - (2147483648 : Int64)).toInt32) + k).toNatClampNeg (((j_lushr a2 ((8 : Int32) * k)).toInt32) &&& (255 : Int32)))))] := hD
        refine lv_iinc (v := (k + (1 : Int32))) (lv' := [(6, .int (k + (1 : Int32))), (0, .ref m0), (1, .long a0), (3, .int a1), (4, .long a2)]) hx hb dMo_store_36 hl (k := 0) rfl (by first | rfl | decide) (by decide) rfl (fun ls hl => ?_)
        refine lv_goto (tgt := 3) hx hb dMo_store_39 (by decide) ?_
        exact ih (k + (1 : Int32)) (upd g (((a0 - (2147483648 : Int64)).toInt32) + k).toNatClampNeg (((j_lushr a2 ((8 : Int32) * k)).toInt32) &&& (255 : Int32))) (wr_b1 hz hk1 c1) (wr_b2 hz hk1 c1 hM) (by rw [hE, l_Mo_store_3, if_neg c1]) _ hP hD _ hS ls (lv_sub hl [0, 1, 2, 3, 4] rfl)
  exact loop (a1.toNatClampNeg + 1) (0 : Int32) gm (by decide) (wr_fuel) rfl _ hP hD _ hS ls (lv_sub hl [0, 1, 2, 3, 4] rfl)
