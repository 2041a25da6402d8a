/-- a method that throws an E: one new object of six slots, nothing else -/
def th_Q (E : String) : Array Value → State → Outcome → State → Prop := fun _ st o t => ∃ q : Addr, o = .threw q ∧ st.WarmedH t.vm ∧ st.sameButNew ({ t with vm := st.vm } : State) [] 1 6 ∧ ∃ ce : Cell, t.heap[q]? = some ce ∧ ce.vm = .none ∧ st.vm.findClass E = some ce.cls
def th_Met (l : Launch) (y : MethodName) (ws : List Cond) (rm : Room) (Pc : Array Value → State → Prop) (E : String) : Prop := MetFree l y (headSpec ws rm) Pc (fun _ _ _ _ _ => True) (th_Q E)
def th_Z (below : List Frame) (E : String) (a : Array Value) (s : State) : State → Prop := fun t => ∃ o, t.status = .running ∧ Ended t below o ∧ th_Q E a s o t
theorem th_ofW {l : Launch} {y : MethodName} {ws ws' : List Cond} {rm : Room} {Pc : Array Value → State → Prop} {E : String} {cc : ByteArray} {maxL : Nat} {ret : Option FieldType} (hy : plainName y.cls = true) (hw : ws = Cond.code y cc maxL ret :: ws')
    (body : ∀ p e s m args below meth c s₁, BodyLoose p l y (headSpec ws rm) cc maxL ret e s m args below meth c s₁ → c.maxLocals = maxL → c.exceptionTable.isEmpty = true → Pc args s → W p l e (headSpec ws rm).room s m args below meth c s.heap [] 0 0 (th_Z below E args s) (entryFrame m args maxL)) : th_Met l y ws rm Pc E := by
  refine MetFree.of_bodyS (code := cc) (maxLocals := maxL) (ret := ret) hy ?_ ?_
  · intro args s m h hn
    obtain ⟨meth, c, h1, h2, h3, h4, h5, h6, -, -⟩ := Cond.code_spec hn (atoms_spec (ws := ws) h _ (by rw [hw]; exact List.mem_cons_self))
    exact ⟨meth, c, h1, h2, h3, h4, h5, h6⟩
  · intro p e s m args below meth c s₁ B hml hP _
    have hh0 : s₁.heap = s.heap := by rw [B.state]; rfl
    have hne := B.noHandlers (atoms_spec (ws := ws) B.pre _ (by rw [hw]; exact List.mem_cons_self))
    obtain ⟨t, a1, o, b1, b2, b3⟩ := body p e s m args below meth c s₁ B hml hne hP s₁ hh0 (Stand.of_body B)
    exact ⟨t, o, a1, b1, b2, b3⟩
section TH
variable {p : Program} {l : Launch} {e : Env} {R : Room} {s : State} {m : MethodId} {args : Array Value} {below : List Frame} {meth : Method} {c : Code} {H : Heap} {locs : List Loc} {Q : State → Prop}
set_option maxHeartbeats 1000000 in
/-- 'throw new E(text)', where nothing was written yet -/
theorem th_throw {cc : ByteArray} {pc : Nat} {ls : Array Slot} (hx : p.tables.exec = Jvm.exec) (hb : c.code = cc) (hl : l.stackTraces = false) {own cls text : String} {names : List String} {ik is ic sa : Nat} (hown : s.vm.findClass own = some m.cls) (hcls : Bundle.fit cls = true) (hnames : ∀ n ∈ names, Bundle.fit n = true)
    (hk : (Cond.classLink own ik cls).before args s = true) (hins : (Cond.instantiable cls 6).before args s = true) (hini : (Cond.initialized cls).before args s = true) (hstr : vk_R own is text sa s) (hat : ∀ w ∈ Bundle.ownAtoms own ic cls names, w.before args s = true)
    (hne : c.exceptionTable.isEmpty = true) (hlocks : meth.locks = false) (hS : va_S (fun _ => False) s.heap H locs) (hsize : ls.size = c.maxLocals)
    (d0 : decode cc pc = .ok (.new ik, 3)) (d3 : decode cc (pc + 3) = .ok (.dup, 1)) (d4 : decode cc (pc + 4) = .ok (.ldc is, 2)) (d6 : decode cc (pc + 6) = .ok (.invokespecial ic, 3)) (d9 : decode cc (pc + 9) = .ok (.athrow, 1))
    (hfr : names.length + 3 < R.frames) (hlo : 8 + (13 * (names.length + 1) + 42) ≤ R.locals) (hc : 0 + 1 ≤ R.cells) (hs : 0 + 6 ≤ R.slots) :
    W p l e R s m args below meth c H locs 0 0 (th_Z below cls args s) (F0 m pc ls []) := by
  obtain rfl : locs = [] := List.eq_nil_iff_forall_not_mem.mpr (fun x hx => hS.2.2 x hx)
  refine W.newc hx hb hown hk hins hini (g := F0 m pc ls []) rfl d0 hc hs (fun cC kC h1 h2 h3 h4 => ?_)
  refine lv_dup hx hb d3 rfl ?_
  refine va_ldcS hx hb hown hstr d4 ?_
  intro T hT X
  have htr : e.platform.stackTraces = false := by rw [X.admits.platform]; exact hl
  have hcell : T.heap[H.size]? = some (freshCell cC kC) := by rw [hT]; simp [freshCell]
  obtain ⟨U, st, hrun, hend, hW, hsame, ce, hce, OC⟩ := X.ctorThrowS hx htr hown hcls hnames hat (fun x h => by cases h) h1 h2 hcell hS.1 (msg := .ref sa) rfl
    (g := F0 m (pc + 3 + 1 + 2) ls [.ref sa, .ref H.size, .ref H.size]) rfl hsize rfl rfl (rest := []) rfl (by rw [hb]; exact d6) (by rw [hb]; exact d9)
    (fun x hx => by rw [Array.isEmpty_iff] at hne; rw [hne] at hx; cases hx) hfr (Nat.le_trans (Nat.add_le_add_right (lv_room (m := m) (pc := pc) (ls := ls) (rest := []) (st := [.ref H.size]) (Nat.le_of_ble_eq_true rfl)) _) hlo) hlocks
  exact ⟨U, st, .threw H.size, hrun, hend, H.size, rfl, hW, hsame, ce, hce, OC.vm, OC.cls⟩
end TH
