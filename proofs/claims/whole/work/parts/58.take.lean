theorem mx_ge (a b : Int32) : a.toInt ≤ (f_Jm_max a b).toInt ∧ b.toInt ≤ (f_Jm_max a b).toInt ∧ (f_Jm_max a b = a ∨ f_Jm_max a b = b) := by
  unfold f_Jm_max
  by_cases c : a < b
  · rw [if_pos c]; rw [Int32.lt_iff_toInt_lt] at c; exact ⟨by omega, by omega, Or.inr rfl⟩
  · rw [if_neg c]; have c := i_nlt c; exact ⟨by omega, by omega, Or.inl rfl⟩
theorem tf_2 {pn : Nat} (h : pn ≤ 32768) : ((2 : Int32) * (nI pn)).toInt = 2 * pn := by
  have e : (2 : Int32).toInt = 2 := by decide
  rw [Int32.toInt_mul, e, nI_toInt (by omega), bm32 (by omega) (by omega)]
theorem tf_N {tl : Int32} {pn : Nat} (h0 : 0 ≤ tl.toInt) (h1 : tl.toInt ≤ 32768) (hp : pn ≤ 32768) : 0 ≤ (f_Jm_max (tl / (8 : Int32)) ((2 : Int32) * (nI pn))).toInt ∧ (f_Jm_max (tl / (8 : Int32)) ((2 : Int32) * (nI pn))).toInt ≤ 65536 ∧ (tl / (8 : Int32)).toInt ≤ (f_Jm_max (tl / (8 : Int32)) ((2 : Int32) * (nI pn))).toInt := by
  obtain ⟨g1, g2, g3⟩ := mx_ge (tl / (8 : Int32)) ((2 : Int32) * (nI pn))
  have d := div8 h0
  have t2 := tf_2 hp
  refine ⟨by omega, ?_, g1⟩
  rcases g3 with q | q <;> rw [q] <;> omega
theorem tf_pos {tl : Int32} {pn : Nat} (h0 : 0 ≤ tl.toInt) (h1 : tl.toInt ≤ 32768) (hp : pn ≤ 32768) : ¬ (f_Jm_max (tl / (8 : Int32)) ((2 : Int32) * (nI pn))) < 0 := by
  have := tf_N h0 h1 hp
  rw [Int32.lt_iff_toInt_lt, i_0]; omega
theorem tf_by {tl : Int32} {pn : Nat} (h0 : 0 ≤ tl.toInt) (h1 : tl.toInt ≤ 32768) (hp : pn ≤ 32768) : (f_Jm_max (tl / (8 : Int32)) ((2 : Int32) * (nI pn))).toNatClampNeg * componentBytes .long ≤ 536870912 := by
  have := tf_N h0 h1 hp
  have e : (f_Jm_max (tl / (8 : Int32)) ((2 : Int32) * (nI pn))).toNatClampNeg = (f_Jm_max (tl / (8 : Int32)) ((2 : Int32) * (nI pn))).toInt.toNat := rfl
  show _ * 8 ≤ _
  omega
theorem tf_p {tl p9 : Int32} (h0 : 0 ≤ tl.toInt) (h1 : tl.toInt ≤ 32768) (c : ¬ (tl / (8 : Int32)) ≤ p9) : p9.toInt < 8192 := by
  have c := i_nle c
  have d := div8 h0
  omega
theorem tf_in1 {tl p9 : Int32} {pn : Nat} (h0 : 0 ≤ tl.toInt) (h1 : tl.toInt ≤ 32768) (hpn : pn ≤ 32768) (c1 : (tl / (8 : Int32)) ≤ (nI pn)) (hp : 0 ≤ p9.toInt) (c : ¬ (tl / (8 : Int32)) ≤ p9) : vp_in p9 pn := by
  have c := i_nle c
  rw [Int32.le_iff_toInt_le, nI_toInt (by omega)] at c1
  rw [vp_in_iff]; omega
theorem tf_in2 {tl p9 : Int32} {pn : Nat} (h0 : 0 ≤ tl.toInt) (h1 : tl.toInt ≤ 32768) (hpn : pn ≤ 32768) (c1 : ¬ (tl / (8 : Int32)) ≤ (nI pn)) (hp : 0 ≤ p9.toInt) (c : ¬ (tl / (8 : Int32)) ≤ p9) : vp_in p9 (f_Jm_max (tl / (8 : Int32)) ((2 : Int32) * (nI pn))).toNatClampNeg := by
  have c := i_nle c
  have := tf_N h0 h1 hpn
  have e : (f_Jm_max (tl / (8 : Int32)) ((2 : Int32) * (nI pn))).toNatClampNeg = (f_Jm_max (tl / (8 : Int32)) ((2 : Int32) * (nI pn))).toInt.toNat := rfl
  rw [vp_in_iff, e]; omega
theorem tf_f {tl : Int32} (h0 : 0 ≤ tl.toInt) (h1 : tl.toInt ≤ 32768) : ((tl / (8 : Int32)).toInt - (0 : Int32).toInt).toNat < 4097 := by
  have d := div8 h0
  rw [i_0]; omega
theorem tf_b {tl p9 : Int32} (h0 : 0 ≤ tl.toInt) (h1 : tl.toInt ≤ 32768) (hp : 0 ≤ p9.toInt) (c : ¬ (tl / (8 : Int32)) ≤ p9) : 0 ≤ (p9 + (1 : Int32)).toInt ∧ ((tl / (8 : Int32)).toInt - (p9 + (1 : Int32)).toInt).toNat < ((tl / (8 : Int32)).toInt - p9.toInt).toNat := by
  have c := i_nle c
  have d := div8 h0
  rw [i_add (by rw [i_1]; omega) (by rw [i_1]; omega), i_1]; omega
def l_Pr_takeFrom_45 (pn : Nat) (pf : Nat → Int64) (tf : Nat → Int32) (tl : Int32) : Nat → (Int32) → (Nat → Int64) → (Nat) × (Nat → Int64) × (Int32)
  | 0, _, _ => default
  | n + 1, p9, g =>
    if (tl / (8 : Int32)) ≤ p9 then
      (pn, g, (tl / (8 : Int32)))
    else
      l_Pr_takeFrom_45 pn pf tf tl n (p9 + (1 : Int32)) (vp_updL g p9.toNatClampNeg (f_Ta_placeAt tf tl p9))
def l_Pr_takeFrom_45b (pn : Nat) (pf : Nat → Int64) (tf : Nat → Int32) (tl : Int32) : Nat → (Int32) → (Nat → Int64) → (Nat) × (Nat → Int64) × (Int32)
  | 0, _, _ => default
  | n + 1, p9, g =>
    if (tl / (8 : Int32)) ≤ p9 then
      ((f_Jm_max (tl / (8 : Int32)) ((2 : Int32) * (nI pn))).toNatClampNeg, g, (tl / (8 : Int32)))
    else
      l_Pr_takeFrom_45b pn pf tf tl n (p9 + (1 : Int32)) (vp_updL g p9.toNatClampNeg (f_Ta_placeAt tf tl p9))
def f_Pr_takeFrom (pn : Nat) (pf : Nat → Int64) (tf : Nat → Int32) (tl : Int32) : (Nat) × (Nat → Int64) × (Int32) :=
  if (tl / (8 : Int32)) ≤ (nI pn) then
    l_Pr_takeFrom_45 pn pf tf tl 4097 (0 : Int32) pf
  else
    l_Pr_takeFrom_45b pn pf tf tl 4097 (0 : Int32) (fun _ => 0)
set_option maxHeartbeats 4000000 in
set_option maxRecDepth 100000 in
theorem c_Pr_takeFrom (l : Launch) (G : va_G) (cB cL cI : ClassId) (Hp : Heap) (h0 : Nat) (h1 : Nat) (pn : Nat) (pf : Nat → Int64) (cnt : Int32) (h6 : Nat) (h7 : Nat) (tn : Nat) (tf : Nat → Int32) (tl : Int32) (M9 : Nat) (hP : va_P G vwCl [(h0, .inr (0, [.ref h1, .int cnt])), (h1, .inl (cL, pn, .inr (.inl pf))), (h6, .inr (3, [.ref h7, .int tl])), (h7, .inl (cB, tn, .inl tf))] Hp) (hD : va_D (fun _ => True) [(h0, .inr (0, [.ref h1, .int cnt])), (h1, .inl (cL, pn, .inr (.inl pf))), (h6, .inr (3, [.ref h7, .int tl])), (h7, .inl (cB, tn, .inl tf))]) (ht0 : 0 ≤ tl.toInt) (ht1 : tl.toInt ≤ 32768) (htl : tl.toInt ≤ tn) (htn : tn < 1073741824) (hpn : pn ≤ 32768) (hM9 : ¬ (tl / (8 : Int32)) ≤ (nI pn) → (f_Jm_max (tl / (8 : Int32)) ((2 : Int32) * (nI pn))).toNatClampNeg ≤ M9) : Met l yPr_takeFrom wsPr_takeFrom ({ frames := 1, cells := 1, slots := M9, locals := 25 }) (va_Pc [.ref h0, .ref h6] (fun U => U.heap = Hp ∧ va_K G vwCl [(cB, .byte), (cL, .long), (cI, .int)] U)) (va_Qv (fun (u : (Nat) × (Nat → Int64) × (Int32)) => u = (f_Pr_takeFrom pn pf tf tl)) (fun (u : (Nat) × (Nat → Int64) × (Int32)) t => ∃ (h1x : Nat), va_P G vwCl [(h0, .inr (0, [.ref h1x, .int (u.2.2)])), (h1x, .inl (cL, (u.1), .inr (.inl (u.2.1)))), (h6, .inr (3, [.ref h7, .int tl])), (h7, .inl (cB, tn, .inl tf))] t.heap ∧ va_D (va_A [(h0, .inr (0, [.ref h1, .int cnt])), (h1, .inl (cL, pn, .inr (.inl pf))), (h6, .inr (3, [.ref h7, .int tl])), (h7, .inl (cB, tn, .inl tf))] Hp.size) [(h0, .inr (0, [.ref h1x, .int (u.2.2)])), (h1x, .inl (cL, (u.1), .inr (.inl (u.2.1)))), (h6, .inr (3, [.ref h7, .int tl])), (h7, .inl (cB, tn, .inl tf))]) (va_A [(h0, .inr (0, [.ref h1, .int cnt])), (h1, .inl (cL, pn, .inr (.inl pf))), (h6, .inr (3, [.ref h7, .int tl])), (h7, .inl (cB, tn, .inl tf))] Hp.size)) 1 M9 (va_A [(h0, .inr (0, [.ref h1, .int cnt])), (h1, .inl (cL, pn, .inr (.inl pf))), (h6, .inr (3, [.ref h7, .int tl])), (h7, .inl (cB, tn, .inl tf))] Hp.size) := by
  refine Met.ofW (cc := cPr_takeFrom) (maxL := 3) (ret := none) (by decide) rfl ?_
  intro p e s m args below meth c s₁ B hml hv
  obtain ⟨rfl, rfl, hK⟩ := hv
  have hx := B.exec
  have hb := B.bytes
  have hr := B.returns
  have hT : ∀ w ∈ tB, w.before _ s = true := fun w h => atoms_spec (ws := wsPr_takeFrom) B.pre w (List.mem_cons_of_mem _ h)
  have hown : s.vm.findClass "CompiledProgram$Program" = some m.cls := findClass_of_methodNamed B.named
  have hlocks := B.notSynchronized
  have hD := hD.self (sz := s.heap.size)
  generalize hAe : va_A [(h0, .inr (0, [.ref h1, .int cnt])), (h1, .inl (cL, pn, .inr (.inl pf))), (h6, .inr (3, [.ref h7, .int tl])), (h7, .inl (cB, tn, .inl tf))] s.heap.size = A at hD ⊢
  have hA : ∀ q : Nat, s.heap.size ≤ q → A q := fun q h => by rw [← hAe]; exact Or.inr h
  have hS : va_S A s.heap s.heap [] := va_S.rf
  have hl := lv_entry ([.ref h0, .ref h6]) (n := 3) (Nat.le_of_ble_eq_true rfl)
  rw [lg_entry_eq]
  generalize (lg_sl ([.ref h0, .ref h6]) ++ List.replicate (3 - (lg_sl ([.ref h0, .ref h6])).length) Slot.unset).toArray = ls at hl ⊢
  have hl : lv_has ls 3 [(0, .ref h0), (1, .ref h6)] := hl
  refine lv_aload_n hx hb dPr_takeFrom_0 rfl (lv_at hl 0 rfl) ?_
  refine lv_aload_n hx hb dPr_takeFrom_1 rfl (lv_at hl 1 rfl) ?_
  refine va_get (D := G) (ci := 3) (v := .int tl) (C := RTa) (T := TTa) (N := 2) hx hb hT inTa hown hK hP 2 rfl rfl 1 (by decide) (hT _ mw_37) (fun _ h9 => h9) rfl dPr_takeFrom_2 ?_
  refine lv_bipush (v := (8 : Int32)) hx hb dPr_takeFrom_5 (by decide) ?_
  refine lv_idiv hx hb dPr_takeFrom_7 (by decide) ?_
  refine va_put (D := G) (ci := 0) (v := .int (tl / (8 : Int32))) (ty := .int) (C := RPr) (T := TPr) (N := 2) hx hb hT inPr tyPr tyPr_ok nmPr hown hK hP hD hS 0 rfl rfl 1 (by decide) (hT _ mw_52) (fun _ h9 => h9) rfl (by decide +kernel) rfl rfl (Nat.le_of_ble_eq_true rfl) dPr_takeFrom_8 (fun H locs hP hD hS => ?_)
  have hP : va_P G vwCl [(h0, .inr (0, [.ref h1, .int (tl / (8 : Int32))])), (h1, .inl (cL, pn, .inr (.inl pf))), (h6, .inr (3, [.ref h7, .int tl])), (h7, .inl (cB, tn, .inl tf))] H := hP
  have hD : va_D A [(h0, .inr (0, [.ref h1, .int (tl / (8 : Int32))])), (h1, .inl (cL, pn, .inr (.inl pf))), (h6, .inr (3, [.ref h7, .int tl])), (h7, .inl (cB, tn, .inl tf))] := hD
  refine lv_aload_n hx hb dPr_takeFrom_11 rfl (lv_at hl 0 rfl) ?_
  refine va_get (D := G) (ci := 0) (v := .int (tl / (8 : Int32))) (C := RPr) (T := TPr) (N := 2) hx hb hT inPr hown hK hP 0 rfl rfl 1 (by decide) (hT _ mw_52) (fun _ h9 => h9) rfl dPr_takeFrom_12 ?_
  refine lv_aload_n hx hb dPr_takeFrom_15 rfl (lv_at hl 0 rfl) ?_
  refine va_get (D := G) (ci := 0) (v := .ref h1) (C := RPr) (T := TPr) (N := 2) hx hb hT inPr hown hK hP 0 rfl rfl 0 (by decide) (hT _ mw_51) (fun _ h9 => h9) rfl dPr_takeFrom_16 ?_
  refine va_alen (v := (nI pn)) hx hb hK hP 1 1 rfl rfl rfl dPr_takeFrom_19 ?_
  refine lv_icmp_le (tgt := 43) hx hb dPr_takeFrom_20 (by decide) (fun c1 => ?_) (fun c1 => ?_)
  · skip
    refine lv_iconst (v := (0 : Int32)) hx hb dPr_takeFrom_43 (by decide) ?_
    refine lv_istore_n (lv' := [(2, .int (0 : Int32)), (0, .ref h0), (1, .ref h6)]) hx hb dPr_takeFrom_44 rfl hl (by decide) rfl (fun ls hl => ?_)
    have loop : ∀ (n : Nat) (p9 : Int32) (g : Nat → Int64), (0 ≤ p9.toInt) → ((tl / (8 : Int32)).toInt - p9.toInt).toNat < n → (f_Pr_takeFrom pn pf tf tl) = l_Pr_takeFrom_45 pn pf tf tl n p9 g → ∀ (H : Heap), va_P G vwCl [(h0, .inr (0, [.ref h1, .int (tl / (8 : Int32))])), (h1, .inl (cL, pn, .inr (.inl g))), (h6, .inr (3, [.ref h7, .int tl])), (h7, .inl (cB, tn, .inl tf))] H → va_D A [(h0, .inr (0, [.ref h1, .int (tl / (8 : Int32))])), (h1, .inl (cL, pn, .inr (.inl g))), (h6, .inr (3, [.ref h7, .int tl])), (h7, .inl (cB, tn, .inl tf))] → ∀ (locs : List Loc), va_S A s.heap H locs → ∀ (ls : Array Slot), lv_has ls 3 [(2, .int p9), (0, .ref h0), (1, .ref h6)] → W p l e (headSpec wsPr_takeFrom ({ frames := 1, cells := 1, slots := M9, locals := 25 })).room s m ([.ref h0, .ref h6] : List Value).toArray below meth c H locs 1 M9 (MQ below (va_Qv (fun (u : (Nat) × (Nat → Int64) × (Int32)) => u = (f_Pr_takeFrom pn pf tf tl)) (fun (u : (Nat) × (Nat → Int64) × (Int32)) t => ∃ (h1x : Nat), va_P G vwCl [(h0, .inr (0, [.ref h1x, .int (u.2.2)])), (h1x, .inl (cL, (u.1), .inr (.inl (u.2.1)))), (h6, .inr (3, [.ref h7, .int tl])), (h7, .inl (cB, tn, .inl tf))] t.heap ∧ va_D (A) [(h0, .inr (0, [.ref h1x, .int (u.2.2)])), (h1x, .inl (cL, (u.1), .inr (.inl (u.2.1)))), (h6, .inr (3, [.ref h7, .int tl])), (h7, .inl (cB, tn, .inl tf))]) (A)) ([.ref h0, .ref h6] : List Value).toArray s 1 M9 A) (F0 m 45 ls []) := by
      intro n
      induction n with
      | zero =>
        intro p9 g hp hM
        exact absurd hM (Nat.not_lt_zero _)
      | succ n ih =>
        intro p9 g hp hM hE H hP hD locs hS ls hl
        refine lv_iload_n hx hb dPr_takeFrom_45 rfl (lv_at hl 0 rfl) ?_
        refine lv_aload_n hx hb dPr_takeFrom_46 rfl (lv_at hl 1 rfl) ?_
        refine va_get (D := G) (ci := 0) (v := .int (tl / (8 : Int32))) (C := RPr) (T := TPr) (N := 2) hx hb hT inPr hown hK hP 0 rfl rfl 1 (by decide) (hT _ mw_52) (fun _ h9 => h9) rfl dPr_takeFrom_47 ?_
        refine lv_icmp_ge (tgt := 70) hx hb dPr_takeFrom_50 (by decide) (fun c2 => ?_) (fun c2 => ?_)
        · skip
          have hP9 := hP.sub (ws' := [(h0, .inr (0, [.ref h1, .int (tl / (8 : Int32))])), (h1, .inl (cL, pn, .inr (.inl g))), (h6, .inr (3, [.ref h7, .int tl])), (h7, .inl (cB, tn, .inl tf))]) [0, 1, 2, 3] rfl
          have hD9 := hD.sub (ws' := [(h0, .inr (0, [.ref h1, .int (tl / (8 : Int32))])), (h1, .inl (cL, pn, .inr (.inl g))), (h6, .inr (3, [.ref h7, .int tl])), (h7, .inl (cB, tn, .inl tf))]) [0, 1, 2, 3] (by decide) rfl
          skip
          exact W.vret hx hb hr (fun t ht hW => ⟨⟨(pn, g, (tl / (8 : Int32))), rfl, (by rw [hE, l_Pr_takeFrom_45, if_pos c2]; try rfl), h1, by rw [ht]; exact hP9, hD9⟩, hS.F ht⟩) hS.2.2 dPr_takeFrom_70
        · skip
          refine lv_aload_n hx hb dPr_takeFrom_53 rfl (lv_at hl 1 rfl) ?_
          refine va_get (D := G) (ci := 0) (v := .ref h1) (C := RPr) (T := TPr) (N := 2) hx hb hT inPr hown hK hP 0 rfl rfl 0 (by decide) (hT _ mw_51) (fun _ h9 => h9) rfl dPr_takeFrom_54 ?_
          refine lv_iload_n hx hb dPr_takeFrom_57 rfl (lv_at hl 0 rfl) ?_
          refine lv_aload_n hx hb dPr_takeFrom_58 rfl (lv_at hl 2 rfl) ?_
          refine lv_iload_n hx hb dPr_takeFrom_59 rfl (lv_at hl 0 rfl) ?_
          have hPc := hP.sub (ws' := [(h6, .inr (3, [.ref h7, .int tl])), (h7, .inl (cB, tn, .inl tf))]) [2, 3] rfl
          refine va_calll (va_runV (As := [.int p9]) (rest := [.int p9, .ref h1]) ⟨hx, hb, hml, hown, hT⟩ (c_Ta_placeAt l G cB cL cI H h6 h7 tn tf tl p9 hPc (tf_p ht0 ht1 c2) htl htn) (cwV 1 hT (gB_V mw_113 mw_114 mw_115 mw_2 mw_116) rfl rfl rfl (by decide +kernel) ⟨Nat.le_of_ble_eq_true rfl, Nat.le_of_ble_eq_true rfl⟩) ⟨fun a U g mk q => ⟨q.1, q.2.1, va_K.moved (u := U) (U := U.calling g mk a) (Vm.Alike.refl U.vm) q.2.2⟩, va_recv hK hPc (ci := 3) (q0 := 0) rfl rfl, fun U hU hW => ⟨rfl, hU, va_K.moved hW.alike hK⟩⟩ rfl rfl hl.1 rfl (lv_room (Nat.le_of_ble_eq_true rfl)) dPr_takeFrom_60 ⟨Nat.le_of_ble_eq_true rfl, Nat.le_refl _⟩) hS (fun _ _ h => h.elim) (fun _ h => h.elim) (fun r u t H1 locs ht hvm hw hB hz8 hk8 hS => ?_)
          obtain rfl : H = H1 := hB.symm.trans ht
          subst hw
          refine va_last hx hb hK hP hD hS 1 1 rfl rfl (tf_in1 ht0 ht1 hpn c1 hp c2) dPr_takeFrom_63 (fun H locs hP hD hS => ?_)
          have hP : va_P G vwCl [(h0, .inr (0, [.ref h1, .int (tl / (8 : Int32))])), (h1, .inl (cL, pn, .inr (.inl (vp_updL g p9.toNatClampNeg (f_Ta_placeAt tf tl p9))))), (h6, .inr (3, [.ref h7, .int tl])), (h7, .inl (cB, tn, .inl tf))] H := hP
          have hD : va_D A [(h0, .inr (0, [.ref h1, .int (tl / (8 : Int32))])), (h1, .inl (cL, pn, .inr (.inl (vp_updL g p9.toNatClampNeg (f_Ta_placeAt tf tl p9))))), (h6, .inr (3, [.ref h7, .int tl])), (h7, .inl (cB, tn, .inl tf))] := hD
          refine lv_iinc (v := (p9 + (1 : Int32))) (lv' := [(2, .int (p9 + (1 : Int32))), (0, .ref h0), (1, .ref h6)]) hx hb dPr_takeFrom_64 hl (k := 0) rfl (by first | rfl | decide) (by decide) rfl (fun ls hl => ?_)
          refine lv_goto (tgt := 45) hx hb dPr_takeFrom_67 (by decide) ?_
          exact ih (p9 + (1 : Int32)) (vp_updL g p9.toNatClampNeg (f_Ta_placeAt tf tl p9)) (tf_b ht0 ht1 hp c2).1 (Nat.lt_of_lt_of_le (tf_b ht0 ht1 hp c2).2 (Nat.le_of_lt_succ hM)) (by rw [hE, l_Pr_takeFrom_45, if_neg c2]) _ hP hD _ hS ls (lv_sub hl [0, 1, 2] rfl)
    refine W.widen (k := 1) (n := M9) (Nat.zero_le _) (Nat.zero_le _) ?_
    exact loop 4097 (0 : Int32) pf (by decide) (tf_f ht0 ht1) (by unfold f_Pr_takeFrom; rw [if_pos c1]) _ hP hD _ hS ls (lv_sub hl [0, 1, 2] rfl)
  · skip
    refine lv_aload_n hx hb dPr_takeFrom_23 rfl (lv_at hl 0 rfl) ?_
    refine lv_aload_n hx hb dPr_takeFrom_24 rfl (lv_at hl 0 rfl) ?_
    refine va_get (D := G) (ci := 0) (v := .int (tl / (8 : Int32))) (C := RPr) (T := TPr) (N := 2) hx hb hT inPr hown hK hP 0 rfl rfl 1 (by decide) (hT _ mw_52) (fun _ h9 => h9) rfl dPr_takeFrom_25 ?_
    refine lv_iconst (v := (2 : Int32)) hx hb dPr_takeFrom_28 (by decide) ?_
    refine lv_aload_n hx hb dPr_takeFrom_29 rfl (lv_at hl 0 rfl) ?_
    refine va_get (D := G) (ci := 0) (v := .ref h1) (C := RPr) (T := TPr) (N := 2) hx hb hT inPr hown hK hP 0 rfl rfl 0 (by decide) (hT _ mw_51) (fun _ h9 => h9) rfl dPr_takeFrom_30 ?_
    refine va_alen (v := (nI pn)) hx hb hK hP 1 1 rfl rfl rfl dPr_takeFrom_33 ?_
    refine lv_imul hx hb dPr_takeFrom_34 ?_
    refine va_calli (va_runS (As := [.int (tl / (8 : Int32)), .int ((2 : Int32) * (nI pn))]) (rest := [.ref h0]) ⟨hx, hb, hml, hown, hT⟩ (c_Jm_max l H (tl / (8 : Int32)) ((2 : Int32) * (nI pn))) (va_cwS 2 hT (gB_SV mw_110 mw_111 mw_11 mw_112) rfl rfl rfl (by decide +kernel) ⟨Nat.le_of_ble_eq_true rfl, Nat.le_of_ble_eq_true rfl⟩) ⟨fun _ _ _ _ q => q, fun U hU hW => ⟨rfl, hU⟩⟩ rfl rfl hl.1 rfl (lv_room (Nat.le_of_ble_eq_true rfl)) dPr_takeFrom_35 ⟨Nat.zero_le _, (Nat.zero_le _)⟩) hS (fun _ _ h => h.elim) (fun _ h => h.elim) (fun r u t H1 locs ht hvm hw hB hz8 hk8 hS => ?_)
    obtain rfl : H = H1 := hB.symm.trans ht
    subst hw
    refine va_newa (atype := .long) (ty := .long) (N' := (f_Jm_max (tl / (8 : Int32)) ((2 : Int32) * (nI pn))).toNatClampNeg) (a0 := ((f_Jm_max (tl / (8 : Int32)) ((2 : Int32) * (nI pn))).toNatClampNeg, .inr (.inl (fun _ => 0)))) hx hb (hT _ mw_60) rfl hK hP hD hS hA (fun _ => rfl) (tf_pos ht0 ht1 hpn) rfl (tf_by ht0 ht1 hpn) (Nat.le_of_ble_eq_true rfl) (by have := hM9 c1; show 0 + 0 + (f_Jm_max (tl / (8 : Int32)) ((2 : Int32) * (nI pn))).toNatClampNeg ≤ M9; omega) dPr_takeFrom_38 (fun q3 cA H hK hP hD hS => ?_)
    obtain rfl : cL = cA := (k_long hK).symm
    have hK := hK.sub (tys' := [(cB, .byte), (cL, .long), (cI, .int)]) [0, 1, 2] rfl
    have hP : va_P G vwCl [(h0, .inr (0, [.ref h1, .int (tl / (8 : Int32))])), (h1, .inl (cL, pn, .inr (.inl pf))), (h6, .inr (3, [.ref h7, .int tl])), (h7, .inl (cB, tn, .inl tf)), (q3, .inl (cL, (f_Jm_max (tl / (8 : Int32)) ((2 : Int32) * (nI pn))).toNatClampNeg, .inr (.inl (fun _ => 0))))] H := hP
    have hD : va_D A [(h0, .inr (0, [.ref h1, .int (tl / (8 : Int32))])), (h1, .inl (cL, pn, .inr (.inl pf))), (h6, .inr (3, [.ref h7, .int tl])), (h7, .inl (cB, tn, .inl tf)), (q3, .inl (cL, (f_Jm_max (tl / (8 : Int32)) ((2 : Int32) * (nI pn))).toNatClampNeg, .inr (.inl (fun _ => 0))))] := hD
    refine va_put (D := G) (ci := 0) (v := .ref q3) (ty := (.array .long)) (C := RPr) (T := TPr) (N := 2) hx hb hT inPr tyPr tyPr_ok nmPr hown hK hP hD hS 0 rfl rfl 0 (by decide) (hT _ mw_51) (fun _ h9 => h9) rfl (by decide +kernel) rfl rfl (Nat.le_of_ble_eq_true rfl) dPr_takeFrom_40 (fun H locs hP hD hS => ?_)
    have hP : va_P G vwCl [(h0, .inr (0, [.ref q3, .int (tl / (8 : Int32))])), (h1, .inl (cL, pn, .inr (.inl pf))), (h6, .inr (3, [.ref h7, .int tl])), (h7, .inl (cB, tn, .inl tf)), (q3, .inl (cL, (f_Jm_max (tl / (8 : Int32)) ((2 : Int32) * (nI pn))).toNatClampNeg, .inr (.inl (fun _ => 0))))] H := hP
    have hD : va_D A [(h0, .inr (0, [.ref q3, .int (tl / (8 : Int32))])), (h1, .inl (cL, pn, .inr (.inl pf))), (h6, .inr (3, [.ref h7, .int tl])), (h7, .inl (cB, tn, .inl tf)), (q3, .inl (cL, (f_Jm_max (tl / (8 : Int32)) ((2 : Int32) * (nI pn))).toNatClampNeg, .inr (.inl (fun _ => 0))))] := hD
    refine lv_iconst (v := (0 : Int32)) hx hb dPr_takeFrom_43 (by decide) ?_
    refine lv_istore_n (lv' := [(2, .int (0 : Int32)), (0, .ref h0), (1, .ref h6)]) hx hb dPr_takeFrom_44 rfl hl (by decide) rfl (fun ls hl => ?_)
    have loop : ∀ (n : Nat) (p9 : Int32) (g : Nat → Int64), (0 ≤ p9.toInt) → ((tl / (8 : Int32)).toInt - p9.toInt).toNat < n → (f_Pr_takeFrom pn pf tf tl) = l_Pr_takeFrom_45b pn pf tf tl n p9 g → ∀ (H : Heap), va_P G vwCl [(h0, .inr (0, [.ref q3, .int (tl / (8 : Int32))])), (q3, .inl (cL, (f_Jm_max (tl / (8 : Int32)) ((2 : Int32) * (nI pn))).toNatClampNeg, .inr (.inl g))), (h6, .inr (3, [.ref h7, .int tl])), (h7, .inl (cB, tn, .inl tf))] H → va_D A [(h0, .inr (0, [.ref q3, .int (tl / (8 : Int32))])), (q3, .inl (cL, (f_Jm_max (tl / (8 : Int32)) ((2 : Int32) * (nI pn))).toNatClampNeg, .inr (.inl g))), (h6, .inr (3, [.ref h7, .int tl])), (h7, .inl (cB, tn, .inl tf))] → ∀ (locs : List Loc), va_S A s.heap H locs → ∀ (ls : Array Slot), lv_has ls 3 [(2, .int p9), (0, .ref h0), (1, .ref h6)] → W p l e (headSpec wsPr_takeFrom ({ frames := 1, cells := 1, slots := M9, locals := 25 })).room s m ([.ref h0, .ref h6] : List Value).toArray below meth c H locs 1 M9 (MQ below (va_Qv (fun (u : (Nat) × (Nat → Int64) × (Int32)) => u = (f_Pr_takeFrom pn pf tf tl)) (fun (u : (Nat) × (Nat → Int64) × (Int32)) t => ∃ (h1x : Nat), va_P G vwCl [(h0, .inr (0, [.ref h1x, .int (u.2.2)])), (h1x, .inl (cL, (u.1), .inr (.inl (u.2.1)))), (h6, .inr (3, [.ref h7, .int tl])), (h7, .inl (cB, tn, .inl tf))] t.heap ∧ va_D (A) [(h0, .inr (0, [.ref h1x, .int (u.2.2)])), (h1x, .inl (cL, (u.1), .inr (.inl (u.2.1)))), (h6, .inr (3, [.ref h7, .int tl])), (h7, .inl (cB, tn, .inl tf))]) (A)) ([.ref h0, .ref h6] : List Value).toArray s 1 M9 A) (F0 m 45 ls []) := by
      intro n
      induction n with
      | zero =>
        intro p9 g hp hM
        exact absurd hM (Nat.not_lt_zero _)
      | succ n ih =>
        intro p9 g hp hM hE H hP hD locs hS ls hl
        refine lv_iload_n hx hb dPr_takeFrom_45 rfl (lv_at hl 0 rfl) ?_
        refine lv_aload_n hx hb dPr_takeFrom_46 rfl (lv_at hl 1 rfl) ?_
        refine va_get (D := G) (ci := 0) (v := .int (tl / (8 : Int32))) (C := RPr) (T := TPr) (N := 2) hx hb hT inPr hown hK hP 0 rfl rfl 1 (by decide) (hT _ mw_52) (fun _ h9 => h9) rfl dPr_takeFrom_47 ?_
        refine lv_icmp_ge (tgt := 70) hx hb dPr_takeFrom_50 (by decide) (fun c4 => ?_) (fun c4 => ?_)
        · skip
          have hP9 := hP.sub (ws' := [(h0, .inr (0, [.ref q3, .int (tl / (8 : Int32))])), (q3, .inl (cL, (f_Jm_max (tl / (8 : Int32)) ((2 : Int32) * (nI pn))).toNatClampNeg, .inr (.inl g))), (h6, .inr (3, [.ref h7, .int tl])), (h7, .inl (cB, tn, .inl tf))]) [0, 1, 2, 3] rfl
          have hD9 := hD.sub (ws' := [(h0, .inr (0, [.ref q3, .int (tl / (8 : Int32))])), (q3, .inl (cL, (f_Jm_max (tl / (8 : Int32)) ((2 : Int32) * (nI pn))).toNatClampNeg, .inr (.inl g))), (h6, .inr (3, [.ref h7, .int tl])), (h7, .inl (cB, tn, .inl tf))]) [0, 1, 2, 3] (by decide) rfl
          skip
          exact W.vret hx hb hr (fun t ht hW => ⟨⟨((f_Jm_max (tl / (8 : Int32)) ((2 : Int32) * (nI pn))).toNatClampNeg, g, (tl / (8 : Int32))), rfl, (by rw [hE, l_Pr_takeFrom_45b, if_pos c4]; try rfl), q3, by rw [ht]; exact hP9, hD9⟩, hS.F ht⟩) hS.2.2 dPr_takeFrom_70
        · skip
          refine lv_aload_n hx hb dPr_takeFrom_53 rfl (lv_at hl 1 rfl) ?_
          refine va_get (D := G) (ci := 0) (v := .ref q3) (C := RPr) (T := TPr) (N := 2) hx hb hT inPr hown hK hP 0 rfl rfl 0 (by decide) (hT _ mw_51) (fun _ h9 => h9) rfl dPr_takeFrom_54 ?_
          refine lv_iload_n hx hb dPr_takeFrom_57 rfl (lv_at hl 0 rfl) ?_
          refine lv_aload_n hx hb dPr_takeFrom_58 rfl (lv_at hl 2 rfl) ?_
          refine lv_iload_n hx hb dPr_takeFrom_59 rfl (lv_at hl 0 rfl) ?_
          have hPc := hP.sub (ws' := [(h6, .inr (3, [.ref h7, .int tl])), (h7, .inl (cB, tn, .inl tf))]) [2, 3] rfl
          refine va_calll (va_runV (As := [.int p9]) (rest := [.int p9, .ref q3]) ⟨hx, hb, hml, hown, hT⟩ (c_Ta_placeAt l G cB cL cI H h6 h7 tn tf tl p9 hPc (tf_p ht0 ht1 c4) htl htn) (cwV 1 hT (gB_V mw_113 mw_114 mw_115 mw_2 mw_116) rfl rfl rfl (by decide +kernel) ⟨Nat.le_of_ble_eq_true rfl, Nat.le_of_ble_eq_true rfl⟩) ⟨fun a U g mk q => ⟨q.1, q.2.1, va_K.moved (u := U) (U := U.calling g mk a) (Vm.Alike.refl U.vm) q.2.2⟩, va_recv hK hPc (ci := 3) (q0 := 0) rfl rfl, fun U hU hW => ⟨rfl, hU, va_K.moved hW.alike hK⟩⟩ rfl rfl hl.1 rfl (lv_room (Nat.le_of_ble_eq_true rfl)) dPr_takeFrom_60 ⟨Nat.le_of_ble_eq_true rfl, Nat.le_refl _⟩) hS (fun _ _ h => h.elim) (fun _ h => h.elim) (fun r u t H1 locs ht hvm hw hB hz8 hk8 hS => ?_)
          obtain rfl : H = H1 := hB.symm.trans ht
          subst hw
          refine va_last hx hb hK hP hD hS 1 1 rfl rfl (tf_in2 ht0 ht1 hpn c1 hp c4) dPr_takeFrom_63 (fun H locs hP hD hS => ?_)
          have hP : va_P G vwCl [(h0, .inr (0, [.ref q3, .int (tl / (8 : Int32))])), (q3, .inl (cL, (f_Jm_max (tl / (8 : Int32)) ((2 : Int32) * (nI pn))).toNatClampNeg, .inr (.inl (vp_updL g p9.toNatClampNeg (f_Ta_placeAt tf tl p9))))), (h6, .inr (3, [.ref h7, .int tl])), (h7, .inl (cB, tn, .inl tf))] H := hP
          have hD : va_D A [(h0, .inr (0, [.ref q3, .int (tl / (8 : Int32))])), (q3, .inl (cL, (f_Jm_max (tl / (8 : Int32)) ((2 : Int32) * (nI pn))).toNatClampNeg, .inr (.inl (vp_updL g p9.toNatClampNeg (f_Ta_placeAt tf tl p9))))), (h6, .inr (3, [.ref h7, .int tl])), (h7, .inl (cB, tn, .inl tf))] := hD
          refine lv_iinc (v := (p9 + (1 : Int32))) (lv' := [(2, .int (p9 + (1 : Int32))), (0, .ref h0), (1, .ref h6)]) hx hb dPr_takeFrom_64 hl (k := 0) rfl (by first | rfl | decide) (by decide) rfl (fun ls hl => ?_)
          refine lv_goto (tgt := 45) hx hb dPr_takeFrom_67 (by decide) ?_
          exact ih (p9 + (1 : Int32)) (vp_updL g p9.toNatClampNeg (f_Ta_placeAt tf tl p9)) (tf_b ht0 ht1 hp c4).1 (Nat.lt_of_lt_of_le (tf_b ht0 ht1 hp c4).2 (Nat.le_of_lt_succ hM)) (by rw [hE, l_Pr_takeFrom_45b, if_neg c4]) _ hP hD _ hS ls (lv_sub hl [0, 1, 2] rfl)
    refine W.widen (k := 1) (n := M9) (Nat.le_of_ble_eq_true rfl) (by have := hM9 c1; show 0 + 0 + (f_Jm_max (tl / (8 : Int32)) ((2 : Int32) * (nI pn))).toNatClampNeg ≤ M9; omega) ?_
    exact loop 4097 (0 : Int32) (fun _ => 0) (by decide) (tf_f ht0 ht1) (by unfold f_Pr_takeFrom; rw [if_neg c1]) _ (hP.sub [0, 4, 2, 3] rfl) (hD.sub [0, 4, 2, 3] (by decide) rfl) _ hS ls (lv_sub hl [0, 1, 2] rfl)
