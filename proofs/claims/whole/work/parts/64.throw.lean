section THV
variable {p : Program} {l : Launch} {e : Env} {R : Room} {s : State} {m : MethodId} {args : Array Value} {below : List Frame} {meth : Method} {c : Code} {H : Heap} {locs : List Loc} {cells slots : Nat} {Q : State → Prop}
set_option maxHeartbeats 2000000 in
/-- a call of a method that throws an E, caught by a row of the caller's own table -/
theorem th_V {cc : ByteArray} {pc index nL n maxL : Nat} {ls : Array Slot} {y : MethodName} {bytes : ByteArray} {ret : Option FieldType} {ws Ts : List Cond} {rm : Room} {Pc : Array Value → State → Prop} {E own C name : String} {b : Addr} {As rest st0 : List Value}
    (S : CallFix p m c cc nL s args Ts own) (hM : th_Met l y ws rm Pc E) (cw : CallW R s args own C index y bytes maxL ret ws rm 1 6 n) (hp : PreV s H C b Pc As) (hn : As.length = n) (hsize : ls.size = nL) (hst : st0 = As.reverse ++ .ref b :: rest) (hW : 2 * (F0 m pc ls rest).monitorRoom + (rest.map fun v => v.category).sum ≤ 8) (hdg : decode cc pc = .ok (.invokevirtual index, 3)) (hf : cells + 1 ≤ R.cells ∧ slots + 6 ≤ R.slots)
    (pre : List ExceptionTableEntry) (x : ExceptionTableEntry) (suf : List ExceptionTableEntry) (hsplit : c.exceptionTable.toList = pre ++ x :: suf)
    (hpass : ∀ z ∈ pre, covers z pc = false ∨ (z.catchType ≠ 0 ∧ ∃ nm : String, (Cond.classLink own z.catchType nm).before args s = true ∧ ∃ a1 b1 : ClassId, s.vm.findClass E = some a1 ∧ s.vm.findClass nm = some b1 ∧ s.vm.assignable a1 b1 = false))
    (hxc : covers x pc = true) (h0 : x.catchType ≠ 0) (hlink : (Cond.classLink own x.catchType name).before args s = true) (hcast : (Cond.castable E name).before args s = true)
    (kk : ∀ (q : Nat) (H1 : Heap), H.size ≤ H1.size → (∀ a : Nat, a < H.size → H1[a]? = H[a]?) → W p l e R s m args below meth c H1 locs (cells + 1) (slots + 6) Q (F0 m x.handlerPc ls [.ref q])) : W p l e R s m args below meth c H locs cells slots Q (F0 m pc ls st0) := by
  obtain ⟨⟨hrc, hrs, hfr, hlo, hws, hcw, hcode, hini, hy, hlen, hl⟩, hin, hse⟩ := cw
  obtain ⟨hx, hb, hml, ho, -⟩ := S
  obtain ⟨hblind, ⟨cellB, hcB, hoB, hclB⟩, hPc⟩ := hp
  intro T hT X
  have hpl : e.platform.magicAccessors = ({} : Platform).magicAccessors := by rw [X.admits.platform]
  obtain ⟨mk, methM, hnamed, hmethM, hstM, habM⟩ := Cond.instanceMethod_spec hin
  obtain ⟨methM2, cM, hmethM2, -, -, -, -, -, -, hsigM⟩ := Cond.code_spec hnamed hcode
  cases hmethM.symm.trans hmethM2
  obtain ⟨c2, r2, m2, q1, q2, q3, q4, kP, hkP, hkPi⟩ := Cond.selects_spec hse
  cases hclB.symm.trans q1
  cases (State.methodFound?_of_named hnamed hy).symm.trans q2
  cases hnamed.symm.trans q3
  have hselP : selectMethod e.platform s.vm cellB.cls mk = .method mk := by rw [Launch.admits_selectMethod X.admits]; exact q4
  obtain ⟨vm1, X1, hstep1⟩ := X.invokevirtual hx ho hl hnamed hmethM hstM hkP hkPi hy (a := b) (cell := cellB) (by rw [hT]; exact hcB) (fun z h => by rw [h] at hoB; cases hoB) hselP hmethM habM hkP hkPi (g := F0 m pc ls st0) rfl (argsL := As) (rest := rest) (hn.trans (hlen _ hsigM)) hst (by rw [hb]; exact hdg)
  have hdg2 : decode c.code (F0 m pc ls rest).pc = .ok (.invokevirtual index, 3) := by rw [hb]; exact hdg
  have hn1 := X1.named hnamed
  have w1 : (headSpec ws rm).pre.before (Value.ref b :: As).toArray (T.setVm vm1) = true := atoms_intro fun w hw => hws w hw _ _ X1.warmed
  obtain ⟨methY, cY, hmY, hcY, -, hlY, -, -, -, -⟩ := Cond.code_spec hn1 (hws _ hcw (Value.ref b :: As).toArray _ X1.warmed)
  obtain ⟨kY, hkY, -⟩ := className_of_methodNamed hn1
  have w3 : (Cond.initialized y.cls).before (Value.ref b :: As).toArray (T.setVm vm1) = true := word_at X1.warmed (Or.inl (by first | rfl | simp [Cond.onTables, Cond.keeps, Cond.steady])) hini
  have hinitY : kY.init = .initialized := Cond.initialized_spec (findClass_of_methodNamed hn1) hkY w3
  have happ : (headSpec ws rm).appliesLoose y e.platform ((T.setVm vm1).calling (F0 m pc ls rest) mk (Value.ref b :: As).toArray) = true :=
    Spec.appliesLoose_calling (g := F0 m pc ls rest) X1.here hdg2 hn1 hkY hinitY
      (X1.room_calling (g := F0 m pc ls rest) (R' := (headSpec ws rm).room) (hsize.trans hml.symm) hmY hcY hfr (by rw [hlY]; exact Nat.le_trans (Nat.add_le_add_right (Nat.add_le_add_right hW _) _) hlo) (by rw [show (headSpec ws rm).room.cells = 1 from hrc]; exact hf.1) (by rw [show (headSpec ws rm).room.slots = 6 from hrs]; exact hf.2)) w1
  obtain ⟨mid, hmid⟩ := X1.here.above
  have hfr2 : ((T.setVm vm1).setTop (F0 m pc ls rest)).frames = (.java (F0 m pc ls rest) :: mid) ++ below := by rw [State.frames_setTop' _ X1.here.top, hmid]; rfl
  obtain ⟨o, s2, hsteps, -, hend, hq⟩ := Steps.callFree hM p X1.admits X1.cas X1.clock (acts := []) hfr2 happ (hblind _ _ _ _ (hPc (T.setVm vm1) hT X1.warmed)) trivial
  obtain ⟨q, rfl, hW2, hsame2, ce, hce, hv, hcl⟩ := hq
  rw [State.frames_setTop' _ X1.here.top, X1.tail] at hend
  obtain ⟨T2, X2, hWT, hsameT, rfl⟩ := X1.outOfThrown (g := F0 m pc ls rest) rfl hend hW2 hsame2
  have hce2 : T2.heap[q]? = some ce := by rw [← hce]; simp [State.pushFrame, State.setFrames, State.setTop, State.modifyTopJava]
  have hclE : s.vm.findClass E = some ce.cls := by
    have h9 : (T.setVm vm1).vm.findClass E = some ce.cls := hcl
    rw [← h9]; exact (X1.warmed.alike.findClass _ _).symm
  obtain ⟨c3, c4, hc3, hc4, hasg⟩ := Cond.castable_spec hcast
  cases Option.some.inj (hc3.symm.trans hclE)
  obtain ⟨c5, hc5, hcl5⟩ := Cond.classLink_spec ho hlink e.platform hpl
  cases Option.some.inj (hc4.symm.trans hc5)
  obtain ⟨vm2, X3, st3⟩ := th_caught X2 q (g := F0 m pc ls rest) rfl hce2 (by rw [hv]; rfl) (by obtain ⟨k9, h9, -⟩ := Vm.findClass_spec hclE; exact ⟨k9, h9⟩) pre x suf hsplit
    (fun z hz => by
      rcases hpass z hz with h | ⟨hz0, nm, hl1, a1, b1, e1, e2, e3⟩
      · exact Or.inl h
      · obtain ⟨c6, hc6, hcl6⟩ := Cond.classLink_spec ho hl1 e.platform hpl
        cases Option.some.inj (e1.symm.trans hclE)
        cases Option.some.inj (e2.symm.trans hc6)
        exact Or.inr ⟨hz0, _, hcl6, e3⟩) hxc h0 hcl5 hasg
  have hTH : (T.setVm vm1).heap = H := hT
  have hsz : H.size ≤ T2.heap.size := by have := hsameT.2.1; rw [hTH] at this; exact this
  have hold : ∀ a : Nat, a < H.size → T2.heap[a]? = H[a]? := fun a ha => by
    have h8 : (T.setVm vm1).heap[a]? = some H[a] := by rw [hTH]; exact Array.getElem?_eq_getElem ha
    have h9 := hsameT.old_cell h8
    rw [Array.getElem?_eq_getElem ha]; exact h9
  rw [List.append_nil] at X3
  obtain ⟨t, a1, b1⟩ := kk q T2.heap hsz hold (T2.setVm vm2) rfl X3
  exact ⟨t, hstep1 _ fun acts => by rw [doInvoke_state]; exact hsteps.trans (st3.trans a1), b1⟩
end THV
