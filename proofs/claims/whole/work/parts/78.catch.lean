/-! CATCHING: a throw that comes back to a frame whose table has two rows; the first takes it, or it goes past the first and the second takes it. -/
theorem kc_go {Q : Handler → Pre} {E : CtlPost} {e : Env} {d : Bool} {acts : List Action} {s : State} {f : JFrame} {a : Addr} {x : ExceptionTableEntry} {t : List ExceptionTableEntry} {k : ClassId} {cell : Cell} (hx : covers x f.pc = true) (h0 : x.catchType ≠ 0)
    (hl : s.vm.ClassLinks e.platform f.method.cls x.catchType k) (hcell : s.heap[a]? = some cell) (hobj : ∀ k, cell.vm ≠ .statics k) (h1 : ∃ j, s.vm.classes[cell.cls]? = some j) (h2 : ∃ j, s.vm.classes[k]? = some j) :
    wp (findHandler.go f a (x :: t)) Q E e d acts s ↔ if s.vm.assignable cell.cls k = true then Q (.found x.handlerPc) d acts (s.setVm (s.vm.noted f.method.cls x.catchType (.cls k))) else wp (findHandler.go f a t) Q E e d acts (s.setVm (s.vm.noted f.method.cls x.catchType (.cls k))) := by
  simp only [covers] at hx
  have hal : s.vm.Alike (s.vm.noted f.method.cls x.catchType (.cls k)) := (Vm.Alike.refl s.vm).noted _ _ _
  obtain ⟨r1, r2⟩ := (resolveClass_links e.toSetting hl).op (op := VmOp.resolveClass f.method.cls x.catchType) rfl
  obtain ⟨j1, h1⟩ := h1
  obtain ⟨j2, h2⟩ := h2
  obtain ⟨i1, h3, -⟩ := hal.2.2 _ _ h1
  obtain ⟨i2, h4, -⟩ := hal.2.2 _ _ h2
  have hfit : (s.vm.noted f.method.cls x.catchType (.cls k)).assignable cell.cls k = s.vm.assignable cell.cls k := hal.assignable _ _
  cases hb : s.vm.assignable cell.cls k <;> rw [hb] at hfit <;> simp [findHandler.go, hx, h0, r1, r2, hcell, hobj, h3, h4, hfit, VmOp.dirties, VmOp.acts]
/-- the search ends at a handler, the tables warmed -/
def kc_Finds (e : Env) (s0 S : State) (f : JFrame) (a : Addr) (pc : Nat) : Prop := ∃ vm', s0.WarmedH vm' ∧ ∀ (Q : Handler → Pre) (E : CtlPost) (d : Bool) (acts : List Action), wp (findHandler f a) Q E e d acts S ↔ Q (.found pc) d acts (S.setVm vm')
theorem kc_one {e : Env} {s0 S : State} {f : JFrame} {a : Addr} {cell : Cell} {x : ExceptionTableEntry} {k : ClassId} (hW : s0.WarmedH S.vm) (hx : covers x f.pc = true) (h0 : x.catchType ≠ 0) (hl : s0.vm.ClassLinks e.platform f.method.cls x.catchType k) (hcell : S.heap[a]? = some cell) (hobj : ∀ k, cell.vm ≠ .statics k) (h1 : ∃ j, s0.vm.classes[cell.cls]? = some j) :
    s0.WarmedH (S.vm.noted f.method.cls x.catchType (.cls k)) ∧ ∀ (t : List ExceptionTableEntry) (Q : Handler → Pre) (E : CtlPost) (d : Bool) (acts : List Action), wp (findHandler.go f a (x :: t)) Q E e d acts S ↔ if s0.vm.assignable cell.cls k = true then Q (.found x.handlerPc) d acts (S.setVm (S.vm.noted f.method.cls x.catchType (.cls k))) else wp (findHandler.go f a t) Q E e d acts (S.setVm (S.vm.noted f.method.cls x.catchType (.cls k))) := by
  obtain ⟨j1, h1⟩ := h1
  obtain ⟨i1, h3, -⟩ := hW.alike.2.2 _ _ h1
  obtain ⟨dk, _, _, kt, hd, _, _, _, _, hkt, _, hopen⟩ := hl.here
  obtain ⟨i2, h4, -⟩ := hW.alike.2.2 _ _ hkt
  refine ⟨hW.noted hd hopen (State.rightAt_cls hl), fun t Q E d acts => ?_⟩
  rw [kc_go hx h0 (hW.classLinks hl) hcell hobj ⟨i1, h3⟩ ⟨i2, h4⟩, hW.alike.assignable]
theorem kc_first {e : Env} {s0 S : State} {f : JFrame} {a : Addr} {meth : Method} {c : Code} {cell : Cell} {x : ExceptionTableEntry} {r : List ExceptionTableEntry} {k : ClassId} (hm : S.vm.method? f.method = some meth) (hc : meth.code = some c) (ht : c.exceptionTable.toList = x :: r) (hW : s0.WarmedH S.vm) (hcell : S.heap[a]? = some cell) (hobj : ∀ k, cell.vm ≠ .statics k) (h1 : ∃ j, s0.vm.classes[cell.cls]? = some j)
    (hx : covers x f.pc = true) (h0 : x.catchType ≠ 0) (hl : s0.vm.ClassLinks e.platform f.method.cls x.catchType k) (hfit : s0.vm.assignable cell.cls k = true) : kc_Finds e s0 S f a x.handlerPc := by
  obtain ⟨w1, w2⟩ := kc_one hW hx h0 hl hcell hobj h1
  exact ⟨_, w1, fun Q E d acts => by rw [Jvm.W.findHandler_eq hm hc, ht, w2, if_pos hfit]⟩
theorem kc_second {e : Env} {s0 S : State} {f : JFrame} {a : Addr} {meth : Method} {c : Code} {cell : Cell} {x y : ExceptionTableEntry} {r : List ExceptionTableEntry} {k j : ClassId} (hm : S.vm.method? f.method = some meth) (hc : meth.code = some c) (ht : c.exceptionTable.toList = x :: y :: r) (hW : s0.WarmedH S.vm) (hcell : S.heap[a]? = some cell) (hobj : ∀ k, cell.vm ≠ .statics k) (h1 : ∃ j, s0.vm.classes[cell.cls]? = some j)
    (hx : covers x f.pc = true) (h0 : x.catchType ≠ 0) (hl : s0.vm.ClassLinks e.platform f.method.cls x.catchType j) (hno : s0.vm.assignable cell.cls j = false) (hy : covers y f.pc = true) (h0y : y.catchType ≠ 0) (hly : s0.vm.ClassLinks e.platform f.method.cls y.catchType k) (hfit : s0.vm.assignable cell.cls k = true) : kc_Finds e s0 S f a y.handlerPc := by
  obtain ⟨w1, w2⟩ := kc_one hW hx h0 hl hcell hobj h1
  obtain ⟨v1, v2⟩ := kc_one (S := S.setVm (S.vm.noted f.method.cls x.catchType (.cls j))) w1 hy h0y hly hcell hobj h1
  exact ⟨_, v1, fun Q E d acts => by rw [Jvm.W.findHandler_eq hm hc, ht, w2, if_neg (by rw [hno]; exact Bool.false_ne_true), v2, if_pos hfit]; rfl⟩
theorem kc_steps {tb : Tables} {e : Env} {s target : State} {g : JFrame} {c : Code} {below : List Frame} {a : Addr} {pc : Nat} {vm' : Vm} (h : At s g.method c below) (hf : ∀ (Q : Handler → Pre) (E : CtlPost) (d : Bool) (acts : List Action), wp (findHandler g a) Q E e d acts ((s.setTop g).pushFrame (.throwing a)) ↔ Q (.found pc) d acts (((s.setTop g).pushFrame (.throwing a)).setVm vm'))
    (hrest : Steps tb e below ((s.setVm vm').setTop { g with pc := pc, stack := [.ref a] }) target) : Steps tb e below ((s.setTop g).pushFrame (.throwing a)) target := by
  obtain ⟨hgo, hw⟩ := h.throwing a
  have hst : (stepThrowing e ((s.setTop g).pushFrame (.throwing a)) a (.java g :: ((s.setTop g).frames.tail))).Is ((((s.setTop g).pushFrame (.throwing a)).setVm vm').setFrames (.java { g with pc := pc, stack := [.ref a] } :: ((s.setTop g).frames.tail))) [] := by
    simp only [stepThrowing, searchFrame, vmDo]
    generalize hr : Sem.go _ e false [] _ = res
    obtain ⟨as, rfl, ha⟩ := Sem.eq_ok_of hr (a := Handler.found pc) (s' := ((s.setTop g).pushFrame (.throwing a)).setVm vm') (acts' := []) (by simp [hf _ _ _ _])
    exact ⟨rfl, ha⟩
  obtain ⟨g0, hg⟩ := Option.isSome_iff_exists.mp h.top
  obtain ⟨r, hr⟩ := State.topJava?_eq_some.mp hg
  have htl : (s.setTop g).frames.tail = s.frames.tail := by rw [State.frames_setTop _ hr, hr]; rfl
  rw [htl] at hst
  refine Steps.head hgo hw ?_
  rw [stepThread_throwing (frames_entered h.top _), hst.1]
  have hr' : (s.setVm vm').frames = .java g0 :: r := hr
  rw [State.setTop_of_frames _ hr'] at hrest
  have e1 : (((s.setTop g).pushFrame (.throwing a)).setVm vm').setFrames (.java { g with pc := pc, stack := [.ref a] } :: s.frames.tail) = (s.setVm vm').setFrames (.java { g with pc := pc, stack := [.ref a] } :: r) := by
    have kk : ∀ (u : State) (F G : List Frame), ((u.setFrames F).setVm vm').setFrames G = (u.setVm vm').setFrames G := fun u F G => by rw [show (u.setFrames F).setVm vm' = (u.setVm vm').setFrames F from rfl, State.setFrames_setFrames]
    rw [hr, List.tail_cons, State.pushFrame, State.setTop_of_frames _ hr, State.setFrames_setFrames, kk]
  rw [e1]
  exact hrest
