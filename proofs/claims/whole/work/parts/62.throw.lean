-- throws: the words that a 'throw new E(text)' asks for, moved from the law's start to any later state
def thKind : Cond → Bool
  | .castable _ _ => true
  | .declares _ => true
  | .laysStatic _ _ _ => true
  | .isRef (.static _ _ _) => true
  | w => goodWord w
theorem th_lays {s0 U : State} {args0 args : Array Value} (hW : s0.WarmedH U.vm) (hH : ∀ q, q < s0.heap.size → U.heap[q]? = s0.heap[q]?) {C n d : String} (h : (Cond.laysStatic C n d).before args0 s0 = true) : (Cond.laysStatic C n d).before args U = true := by
  have h1 := Cond.laysStatic_setVm (vm' := U.vm) hW.alike h
  obtain ⟨c, k, i, f, a, cell, e1, e2, e3, e4, e5, e6, e7, e8, e9⟩ := Cond.laysStatic_spec h1
  have e5' : U.heap[a]? = some cell := by rw [hH a (Array.getElem?_eq_some_iff.mp e5).1]; exact e5
  exact Cond.laysStatic_of (s := U) e1 e2 e3 e4 e5' e6 e7 e8 e9
theorem th_isRef {s0 U : State} {args0 args : Array Value} (hW : s0.WarmedH U.vm) (hH : ∀ q, q < s0.heap.size → U.heap[q]? = s0.heap[q]?) {C n d : String} (hl : (Cond.laysStatic C n d).before args0 s0 = true) (hi : (Cond.initialized C).before args0 s0 = true) (h : (Cond.isRef (.static C n d)).before args0 s0 = true) : (Cond.isRef (.static C n d)).before args U = true := by
  have z := va_Zqof (A := fun _ => False) hl hi h (fun _ _ q => q)
  have z2 : va_Zq C n d (fun _ => False) U U.heap := (va_Zq.moved (U := U) hW.alike z).kept (fun a ha _ => hH a ha)
  rcases z2 with ⟨cf, kf, fi, f, a, cell, q1, q2, q3, q4, q5, q6, q7, -⟩ | ⟨t, cf, kf, fi, f, a, cell, q1, q2, q3, q4, q5, q6, q7, -⟩
  · have he : (Term.static C n d).eval args U none [] U = some .null := by simp [Term.eval, State.fieldNamed?, q1, q2, q4, q5, q6, q7]
    simp [Cond.before, Cond.holds, Cond.value, he]
  · have he : (Term.static C n d).eval args U none [] U = some (.ref t) := by simp [Term.eval, State.fieldNamed?, q1, q2, q4, q5, q6, q7]
    simp [Cond.before, Cond.holds, Cond.value, he]
theorem th_move {s0 U : State} {args0 args : Array Value} (hW : s0.WarmedH U.vm) (hH : ∀ q, q < s0.heap.size → U.heap[q]? = s0.heap[q]?) {L : List Cond} (hk : ∀ w ∈ L, thKind w = true) (hs : ∀ C n d, Cond.isRef (.static C n d) ∈ L → Cond.laysStatic C n d ∈ L ∧ Cond.initialized C ∈ L) (h : ∀ w ∈ L, w.before args0 s0 = true) : ∀ w ∈ L, w.before args U = true := by
  intro w hw
  have hkw := hk w hw
  cases w with
  | castable a b =>
    have h1 : (Cond.castable a b).before args (s0.setVm U.vm) = true := by
      rw [Cond.castable_setVm hW.alike]
      exact va_tabs rfl rfl (h _ hw)
    exact va_tabs rfl (rfl : (s0.setVm U.vm).vm = U.vm) h1
  | declares x => exact (va_Nw.warmD hW (va_Nw.of rfl (h _ hw))).use rfl
  | laysStatic a b c => exact th_lays hW hH (h _ hw)
  | isRef t =>
    cases t with
    | static C n d => exact th_isRef hW hH (h _ (hs C n d hw).1) (h _ (hs C n d hw).2) (h _ hw)
    | _ => exact word_at hW (good_of_word hkw) (h _ hw)
  | _ => exact word_at hW (good_of_word hkw) (h _ hw)
