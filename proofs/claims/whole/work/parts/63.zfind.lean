-- the search through a table whose rows name classes that may not be linked yet
section THG
variable {e : Env} {s0 : State} {f : JFrame} {a : Addr} {cell : Cell}
/-- a row that covers the place: its class is linked, and compared with the thrown object's -/
theorem th_ask {S : State} {y : ExceptionTableEntry} {t : List ExceptionTableEntry} {k : ClassId} (hW : s0.WarmedH S.vm) (hcell : S.heap[a]? = some cell) (hobj : ∀ j, cell.vm ≠ .statics j) (hk0 : ∃ j, s0.vm.classes[cell.cls]? = some j) (hy : covers y f.pc = true) (h0 : y.catchType ≠ 0) (hl : s0.vm.ClassLinks e.platform f.method.cls y.catchType k) : ∃ vm' : Vm, s0.WarmedH vm' ∧ ∀ (Q : Handler → Pre) (E : CtlPost) (d : Bool) (acts : List Action), wp (findHandler.go f a (y :: t)) Q E e d acts S ↔ if s0.vm.assignable cell.cls k = true then Q (.found y.handlerPc) d acts (S.setVm vm') else wp (findHandler.go f a t) Q E e d acts (S.setVm vm') := by
  obtain ⟨dk, cf, nm, kt, hd, hcf, hlo, hnm, hfd, hkt, hac, hopen⟩ := hl.here
  have hW2 := hW.noted hd hopen (State.rightAt_cls hl)
  refine ⟨_, hW2, fun Q E d acts => ?_⟩
  obtain ⟨j, hj⟩ := hk0
  obtain ⟨j1, hj1, -⟩ := hW2.alike.2.2 _ _ hj
  obtain ⟨j2, hj2, -⟩ := hW2.alike.2.2 _ _ hkt
  obtain ⟨r1, r2⟩ := (resolveClass_links e.toSetting (hW.classLinks hl)).op (op := VmOp.resolveClass f.method.cls y.catchType) rfl
  have hasg : (S.vm.noted f.method.cls y.catchType (.cls k)).assignable cell.cls k = s0.vm.assignable cell.cls k := by rw [hW2.alike.assignable]
  simp only [covers] at hy
  cases hc : s0.vm.assignable cell.cls k with
  | true =>
    rw [hc] at hasg
    simp [findHandler.go, hy, h0, r1, r2, hcell, hobj, hj1, hj2, hasg, VmOp.dirties, VmOp.acts]
  | false =>
    rw [hc] at hasg
    simp [findHandler.go, hy, h0, r1, r2, hcell, hobj, hj1, hj2, hasg, VmOp.dirties, VmOp.acts]
/-- rows that do not take the object, then one that does -/
theorem th_go {x : ExceptionTableEntry} {suf : List ExceptionTableEntry} {k : ClassId} (hobj : ∀ j, cell.vm ≠ .statics j) (hk0 : ∃ j, s0.vm.classes[cell.cls]? = some j) (hx : covers x f.pc = true) (h0 : x.catchType ≠ 0) (hl : s0.vm.ClassLinks e.platform f.method.cls x.catchType k) (hfit : s0.vm.assignable cell.cls k = true) :
    ∀ (pre : List ExceptionTableEntry) (S : State), s0.WarmedH S.vm → S.heap[a]? = some cell → (∀ z ∈ pre, covers z f.pc = false ∨ (z.catchType ≠ 0 ∧ ∃ k, s0.vm.ClassLinks e.platform f.method.cls z.catchType k ∧ s0.vm.assignable cell.cls k = false)) →
      ∃ vm' : Vm, s0.WarmedH vm' ∧ ∀ (Q : Handler → Pre) (E : CtlPost) (d : Bool) (acts : List Action), wp (findHandler.go f a (pre ++ x :: suf)) Q E e d acts S ↔ Q (.found x.handlerPc) d acts (S.setVm vm') := by
  intro pre
  induction pre with
  | nil =>
    intro S hW hcell _
    obtain ⟨vm', h1, h2⟩ := th_ask (t := suf) hW hcell hobj hk0 hx h0 hl
    refine ⟨vm', h1, fun Q E d acts => ?_⟩
    have h3 := h2 Q E d acts
    rw [if_pos hfit] at h3
    exact h3
  | cons z zs ih =>
    intro S hW hcell hp
    have hp2 := fun w hw => hp w (List.mem_cons_of_mem z hw)
    rcases hp z List.mem_cons_self with hz | ⟨hz0, kz, hlz, hno⟩
    · obtain ⟨vm', h1, h2⟩ := ih S hW hcell hp2
      exact ⟨vm', h1, fun Q E d acts => (Jvm.W.findHandler_go_skip hz).trans (h2 Q E d acts)⟩
    · cases hz : covers z f.pc with
      | false =>
        obtain ⟨vm', h1, h2⟩ := ih S hW hcell hp2
        exact ⟨vm', h1, fun Q E d acts => (Jvm.W.findHandler_go_skip hz).trans (h2 Q E d acts)⟩
      | true =>
        obtain ⟨vm1, g1, g2⟩ := th_ask (t := zs ++ x :: suf) hW hcell hobj hk0 hz hz0 hlz
        obtain ⟨vm', h1, h2⟩ := ih (S.setVm vm1) g1 hcell hp2
        refine ⟨vm', h1, fun Q E d acts => ?_⟩
        have h3 := g2 Q E d acts
        rw [if_neg (by rw [hno]; decide)] at h3
        exact h3.trans (h2 Q E d acts)
end THG
section THC
variable {p : Program} {l : Launch} {e : Env} {R : Room} {s : State} {m : MethodId} {args : Array Value} {below : List Frame} {meth : Method} {c : Code} {T : State} {locs : List Loc} {cells slots : Nat}
/-- what a callee has thrown is caught by a row of this method's table -/
theorem th_caught (X : Stand p l e R s m args below meth c T locs cells slots) (q : Addr) {g : JFrame} (hg : g.method = m) {cell : Cell} (hcell : T.heap[q]? = some cell) (hobj : cell.vm.isStatics = false) (hk0 : ∃ j, s.vm.classes[cell.cls]? = some j) (pre : List ExceptionTableEntry) (x : ExceptionTableEntry) (suf : List ExceptionTableEntry) (hsplit : c.exceptionTable.toList = pre ++ x :: suf)
    (hpass : ∀ z ∈ pre, covers z g.pc = false ∨ (z.catchType ≠ 0 ∧ ∃ k, s.vm.ClassLinks e.platform m.cls z.catchType k ∧ s.vm.assignable cell.cls k = false)) (hx : covers x g.pc = true) (h0 : x.catchType ≠ 0) {k : ClassId} (hl : s.vm.ClassLinks e.platform m.cls x.catchType k) (hfit : s.vm.assignable cell.cls k = true) :
    ∃ vm' : Vm, Stand p l e R s m args below meth c (T.setVm vm') locs cells slots ∧ Steps p.tables e below ((T.setTop g).pushFrame (.throwing q)) ((T.setVm vm').setTop { g with pc := x.handlerPc, stack := [.ref q] }) := by
  subst hg
  obtain ⟨vm', hW', hf⟩ := th_go (e := e) (s0 := s) (f := g) (a := q) (suf := suf) (VmData.ne_statics_of hobj) hk0 hx h0 hl hfit pre ((T.setTop g).pushFrame (.throwing q)) X.warmed hcell hpass
  refine ⟨vm', X.noted hW', ?_⟩
  have hfind : ∀ (Q : Handler → Pre) (E : CtlPost) (d : Bool) (acts : List Action), wp (findHandler g q) Q E e d acts ((T.setTop g).pushFrame (.throwing q)) ↔ Q (.found x.handlerPc) d acts (((T.setTop g).pushFrame (.throwing q)).setVm vm') := fun Q E d acts => by
    have h3 := hf Q E d acts
    rw [← hsplit] at h3
    exact (Jvm.W.findHandler_eq (s := (T.setTop g).pushFrame (.throwing q)) X.method' X.code).trans h3
  obtain ⟨hgo, hw⟩ := X.here.throwing (g := g) q
  refine Steps.head hgo hw ?_
  obtain ⟨g₀, hg0⟩ := Option.isSome_iff_exists.mp X.here.top
  obtain ⟨r, hr⟩ := State.topJava?_eq_some.mp hg0
  have hS : (stepThrowing e ((T.setTop g).pushFrame (.throwing q)) q (.java g :: T.frames.tail)).1 = (((T.setTop g).pushFrame (.throwing q)).setVm vm').setFrames (.java { g with pc := x.handlerPc, stack := [.ref q] } :: T.frames.tail) := by
    simp only [stepThrowing, searchFrame, vmDo]
    generalize hgo9 : Sem.go _ e false [] ((T.setTop g).pushFrame (.throwing q)) = res
    obtain ⟨as, rfl, -⟩ := Sem.eq_ok_of hgo9 (a := Handler.found x.handlerPc) (s' := ((T.setTop g).pushFrame (.throwing q)).setVm vm') (acts' := []) (by simp [hfind _ _ _ _])
    rfl
  rw [stepThread_throwing (frames_entered X.here.top _), hS, hr, List.tail_cons, State.setTop_of_frames _ (show (T.setVm vm').frames = .java g₀ :: r from hr), State.pushFrame, State.setTop_of_frames _ hr, State.setFrames_setFrames]
  have e9 : ∀ F G : List Frame, ((T.setFrames F).setVm vm').setFrames G = (T.setVm vm').setFrames G := fun F G => State.setFrames_setFrames (T.setVm vm') F G
  rw [e9]
  exact Steps.refl _
end THC
