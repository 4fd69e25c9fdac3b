/-! The catch: a row of the table whose class is resolved there and then -/
section CA
variable {Q : Handler → Pre} {E : CtlPost} {e : Env} {d : Bool} {acts : List Action} {s : State} {f : JFrame} {a : Addr}
theorem ca_row {x : ExceptionTableEntry} {t : List ExceptionTableEntry} {c : ClassId} {cell : Cell} (hx : covers x f.pc = true) (h0 : x.catchType ≠ 0) (hl : s.vm.ClassLinks e.platform f.method.cls x.catchType c)
    (hcell : s.heap[a]? = some cell) (hvm : cell.vm = .none) (hk : ∃ k, s.vm.classes[cell.cls]? = some k) (hc : ∃ k, s.vm.classes[c]? = some k) :
    wp (findHandler.go f a (x :: t)) Q E e d acts s ↔ if s.vm.assignable cell.cls c = true then Q (.found x.handlerPc) d acts (s.setVm (s.vm.noted f.method.cls x.catchType (.cls c))) else wp (findHandler.go f a t) Q E e d acts (s.setVm (s.vm.noted f.method.cls x.catchType (.cls c))) := by
  obtain ⟨r1, r2⟩ := (resolveClass_links e.toSetting hl).op (op := VmOp.resolveClass f.method.cls x.catchType) rfl
  have al : s.vm.Alike (s.vm.noted f.method.cls x.catchType (.cls c)) := (Vm.Alike.refl s.vm).noted _ _ _
  obtain ⟨k1, hk⟩ := hk
  obtain ⟨k2, hc⟩ := hc
  obtain ⟨k3, hk3, -⟩ := al.2.2 _ _ hk
  obtain ⟨k4, hk4, -⟩ := al.2.2 _ _ hc
  have hs : ∀ k, cell.vm ≠ .statics k := fun k q => by rw [hvm] at q; cases q
  have hx' : (x.startPc ≤ f.pc && f.pc < x.endPc) = true := hx
  by_cases ha : s.vm.assignable cell.cls c = true
  · have ha' : (s.vm.noted f.method.cls x.catchType (.cls c)).assignable cell.cls c = true := by rw [al.assignable]; exact ha
    rw [if_pos ha]
    simp [findHandler.go, hx', h0, r1, r2, hcell, hs, hk3, hk4, ha', VmOp.dirties, VmOp.acts]
  · have ha' : (s.vm.noted f.method.cls x.catchType (.cls c)).assignable cell.cls c = false := by rw [al.assignable]; exact Bool.eq_false_iff.mpr ha
    rw [if_neg ha]
    simp [findHandler.go, hx', h0, r1, r2, hcell, hs, hk3, hk4, ha', VmOp.dirties, VmOp.acts]
/-- the search ends at pc, and the tables are warmer -/
def ca_finds (e : Env) (s : State) (f : JFrame) (a : Addr) (pc : Nat) (vm' : Vm) : Prop :=
  ∀ (Q : Handler → Pre) (E : CtlPost) (d : Bool) (acts : List Action), wp (findHandler f a) Q E e d acts s ↔ Q (.found pc) d acts (s.setVm vm')
theorem ca_step {r : List Frame} {pc : Nat} {vm' : Vm} (h : ca_finds e s f a pc vm') : (stepThrowing e s a (.java f :: r)).Is ((s.setVm vm').setFrames (.java { f with pc := pc, stack := [.ref a] } :: r)) [] := by
  simp only [stepThrowing, searchFrame, vmDo]
  generalize hr : Sem.go _ e false [] s = res
  obtain ⟨as, rfl, ha⟩ := Sem.eq_ok_of hr (a := Handler.found pc) (s' := s.setVm vm') (acts' := []) (by simp [h _ _ _ _])
  exact ⟨rfl, ha⟩
theorem ca_steps {tb : Tables} {T target : State} {g : JFrame} {c : Code} {below : List Frame} {pc : Nat} {vm' : Vm} (h : At T g.method c below) (hf : ca_finds e ((T.setTop g).pushFrame (.throwing a)) g a pc vm')
    (k : Steps tb e below ((T.setVm vm').setTop { g with pc := pc, stack := [.ref a] }) target) : Steps tb e below ((T.setTop g).pushFrame (.throwing a)) target := by
  obtain ⟨h1, h2⟩ := h.throwing a
  refine Steps.head h1 h2 ?_
  rw [stepThread_throwing (frames_entered h.top _), (ca_step (s := (T.setTop g).pushFrame (.throwing a)) hf).1]
  obtain ⟨g0, hg⟩ := Option.isSome_iff_exists.mp h.top
  obtain ⟨r, hr⟩ := State.topJava?_eq_some.mp hg
  have hr' : (T.setVm vm').frames = .java g0 :: r := hr
  rw [State.setTop_of_frames _ hr'] at k
  have e1 : ((T.setTop g).pushFrame (.throwing a)).setVm vm' = ((T.setVm vm').setTop g).pushFrame (.throwing a) := rfl
  rw [e1, State.pushFrame, State.setFrames_setFrames, State.setTop_of_frames _ hr', State.setFrames_setFrames, hr]
  exact k
theorem ca_note {s0 S : State} {x : ExceptionTableEntry} {c : ClassId} (hW : s0.WarmedH S.vm) (hl : s0.vm.ClassLinks e.platform f.method.cls x.catchType c) :
    S.vm.ClassLinks e.platform f.method.cls x.catchType c ∧ s0.WarmedH (S.vm.noted f.method.cls x.catchType (.cls c)) ∧ ∃ k, S.vm.classes[c]? = some k := by
  obtain ⟨dk, _, _, kt, hd, _, _, _, _, hkt, _, hop⟩ := hl.here
  obtain ⟨kt', hkt', -⟩ := hW.alike.2.2 _ _ hkt
  exact ⟨hW.classLinks hl, hW.noted hd hop (State.rightAt_cls hl), kt', hkt'⟩
/-- the first row catches -/
theorem ca_find1 {s0 S : State} {x : ExceptionTableEntry} {rest : List ExceptionTableEntry} {c : ClassId} {cell : Cell} {meth : Method} {code : Code} (hW : s0.WarmedH S.vm) (hm : S.vm.method? f.method = some meth) (hc : meth.code = some code)
    (ht : code.exceptionTable.toList = x :: rest) (hx : covers x f.pc = true) (h0 : x.catchType ≠ 0) (hl : s0.vm.ClassLinks e.platform f.method.cls x.catchType c) (hcell : S.heap[a]? = some cell) (hvm : cell.vm = .none) (hk : ∃ k, s0.vm.classes[cell.cls]? = some k)
    (has : s0.vm.assignable cell.cls c = true) : ∃ vm', s0.WarmedH vm' ∧ ca_finds e S f a x.handlerPc vm' := by
  obtain ⟨hl', hW', hk2⟩ := ca_note hW hl
  obtain ⟨k1, hk1⟩ := hk
  obtain ⟨k3, hk3, -⟩ := hW.alike.2.2 _ _ hk1
  refine ⟨_, hW', fun Q E d acts => ?_⟩
  rw [W.findHandler_eq hm hc, ht, ca_row hx h0 hl' hcell hvm ⟨k3, hk3⟩ hk2, if_pos (by rw [hW.alike.assignable]; exact has)]
/-- the first row passes, the second catches -/
theorem ca_find2 {s0 S : State} {x y : ExceptionTableEntry} {rest : List ExceptionTableEntry} {c c2 : ClassId} {cell : Cell} {meth : Method} {code : Code} (hW : s0.WarmedH S.vm) (hm : S.vm.method? f.method = some meth) (hc : meth.code = some code)
    (ht : code.exceptionTable.toList = x :: y :: rest) (hx : covers x f.pc = true) (h0 : x.catchType ≠ 0) (hl : s0.vm.ClassLinks e.platform f.method.cls x.catchType c) (hy : covers y f.pc = true) (g0 : y.catchType ≠ 0) (gl : s0.vm.ClassLinks e.platform f.method.cls y.catchType c2)
    (hcell : S.heap[a]? = some cell) (hvm : cell.vm = .none) (hk : ∃ k, s0.vm.classes[cell.cls]? = some k) (hno : s0.vm.assignable cell.cls c = false) (has : s0.vm.assignable cell.cls c2 = true) : ∃ vm', s0.WarmedH vm' ∧ ca_finds e S f a y.handlerPc vm' := by
  obtain ⟨hl', hW', hk2⟩ := ca_note hW hl
  obtain ⟨gl', gW', gk2⟩ := ca_note (S := S.setVm (S.vm.noted f.method.cls x.catchType (.cls c))) hW' gl
  obtain ⟨k1, hk1⟩ := hk
  obtain ⟨k3, hk3, -⟩ := hW.alike.2.2 _ _ hk1
  obtain ⟨k4, hk4, -⟩ := hW'.alike.2.2 _ _ hk1
  refine ⟨_, gW', fun Q E d acts => ?_⟩
  rw [W.findHandler_eq hm hc, ht, ca_row hx h0 hl' hcell hvm ⟨k3, hk3⟩ hk2, if_neg (by rw [hW.alike.assignable, hno]; decide), ca_row (s := S.setVm (S.vm.noted f.method.cls x.catchType (.cls c))) hy g0 gl' hcell hvm ⟨k4, hk4⟩ gk2, if_pos (by
    show (S.vm.noted f.method.cls x.catchType (.cls c)).assignable cell.cls c2 = true
    rw [hW'.alike.assignable]; exact has)]
  rfl
end CA
