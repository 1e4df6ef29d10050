/-! A THROW AND A CATCH: what a search through a method's table of handlers does where its class isn't resolved yet, and a contract that may end by a throw -/
section TWgo
variable {E : CtlPost} {e : Env} {d : Bool} {acts : List Action} {s : State} {f : JFrame} {a : Addr} {Q : Handler → Pre}
/-- a catch type that is resolved now, and takes the exception -/
theorem tw_go_hit {x : ExceptionTableEntry} {t : List ExceptionTableEntry} {c : ClassId} {cell : Cell} {vm' : Vm} (hx : covers x f.pc = true) (h0 : x.catchType ≠ 0)
    (hg : (Jvm.resolveClass f.method.cls x.catchType).Gives e.toSetting s.vm (.ok c) vm') (hsz : vm'.classes.size ≤ s.vm.classes.size)
    (hcell : s.heap[a]? = some cell) (hobj : ∀ k, cell.vm ≠ .statics k) (hk : ∃ k, vm'.classes[cell.cls]? = some k) (hc : ∃ k, vm'.classes[c]? = some k) (hfit : vm'.assignable cell.cls c = true) :
    wp (findHandler.go f a (x :: t)) Q E e d acts s ↔ Q (.found x.handlerPc) d acts (s.setVm vm') := by
  simp only [covers] at hx
  obtain ⟨ha, ht⟩ := hg.op (op := VmOp.resolveClass f.method.cls x.catchType) rfl
  have hsz' : ((VmOp.resolveClass f.method.cls x.catchType).tables e s.vm).classes.size ≤ s.vm.classes.size := by rw [ht]; exact hsz
  have hcell' : (s.setVm vm').heap[a]? = some cell := hcell
  simp [findHandler.go, hx, h0, ha, ht, hsz, hcell, hobj, hk, hc, hfit, VmOp.dirties, VmOp.acts]
/-- .. and one that doesn't take it: the search goes on -/
theorem tw_go_miss {x : ExceptionTableEntry} {t : List ExceptionTableEntry} {c : ClassId} {cell : Cell} {vm' : Vm} (hx : covers x f.pc = true) (h0 : x.catchType ≠ 0)
    (hg : (Jvm.resolveClass f.method.cls x.catchType).Gives e.toSetting s.vm (.ok c) vm') (hsz : vm'.classes.size ≤ s.vm.classes.size)
    (hcell : s.heap[a]? = some cell) (hobj : ∀ k, cell.vm ≠ .statics k) (hk : ∃ k, vm'.classes[cell.cls]? = some k) (hc : ∃ k, vm'.classes[c]? = some k) (hfit : vm'.assignable cell.cls c = false) :
    wp (findHandler.go f a (x :: t)) Q E e d acts s ↔ wp (findHandler.go f a t) Q E e d acts (s.setVm vm') := by
  simp only [covers] at hx
  obtain ⟨ha, ht⟩ := hg.op (op := VmOp.resolveClass f.method.cls x.catchType) rfl
  have hsz' : ((VmOp.resolveClass f.method.cls x.catchType).tables e s.vm).classes.size ≤ s.vm.classes.size := by rw [ht]; exact hsz
  have hcell' : (s.setVm vm').heap[a]? = some cell := hcell
  simp [findHandler.go, hx, h0, ha, ht, hsz, hcell, hobj, hk, hc, hfit, VmOp.dirties, VmOp.acts]
end TWgo
/-- the search ends at a handler, the tables are vm' then -/
def tw_Finds (e : Env) (s : State) (f : JFrame) (a : Addr) (pc : Nat) (vm' : Vm) : Prop :=
  ∀ (Q : Handler → Pre) (E : CtlPost) (d : Bool) (acts : List Action), wp (findHandler f a) Q E e d acts s ↔ Q (.found pc) d acts (s.setVm vm')
theorem tw_step {e : Env} {s : State} {a : Addr} {f : JFrame} {r : List Frame} {pc : Nat} {vm' : Vm} (hfind : tw_Finds e s f a pc vm') :
    (stepThrowing e s a (.java f :: r)).Is ((s.setVm vm').setFrames (.java { f with pc := pc, stack := [.ref a] } :: r)) [] := by
  simp only [stepThrowing, searchFrame, vmDo]
  generalize hr : Sem.go _ e false [] s = res
  obtain ⟨as, rfl, ha⟩ := Sem.eq_ok_of hr (a := Handler.found pc) (s' := s.setVm vm') (acts' := []) (by simp [hfind _ _ _ _])
  exact ⟨rfl, ha⟩
theorem tw_caught {tb : Tables} {e : Env} {s target : State} {g : JFrame} {c : Code} {below : List Frame} {a : Addr} (h : At s g.method c below) {pc : Nat} {vm' : Vm} (hfind : tw_Finds e ((s.setTop g).pushFrame (.throwing a)) g a pc vm')
    (hrest : Steps tb e below ((s.setVm vm').setTop { g with pc := pc, stack := [.ref a] }) target) :
    Steps tb e below ((s.setTop g).pushFrame (.throwing a)) target := by
  obtain ⟨hgo, hw⟩ := h.throwing a
  refine Steps.head hgo hw ?_
  rw [stepThread_throwing (frames_entered h.top _), (tw_step (s := (s.setTop g).pushFrame (.throwing a)) hfind).1]
  obtain ⟨g₀, hg⟩ := Option.isSome_iff_exists.mp h.top
  obtain ⟨r, hr⟩ := State.topJava?_eq_some.mp hg
  have hr' : (s.setVm vm').frames = .java g₀ :: r := hr
  have e1 : ((((s.setTop g).pushFrame (.throwing a)).setVm vm').setFrames (.java { g with pc := pc, stack := [.ref a] } :: s.frames.tail)) = (s.setVm vm').setTop { g with pc := pc, stack := [.ref a] } := by
    rw [State.setTop_of_frames _ hr', State.pushFrame, State.setTop_of_frames _ hr, State.setFrames_setFrames, hr]
    exact State.setFrames_setFrames (s.setVm vm') _ _
  rw [e1]
  exact hrest
/-- a row of the table that the search passes: it doesn't cover the place, or its class is another one -/
def tw_Pass (s : State) (args : Array Value) (own C : String) (pc : Nat) (x : ExceptionTableEntry) : Prop :=
  covers x pc = false ∨ (covers x pc = true ∧ x.catchType ≠ 0 ∧ ∃ D, (Cond.classLink own x.catchType D).before args s = true ∧ va_Nc C D s)
section TWcatch
variable {p : Program} {l : Launch} {e : Env} {R : Room} {s : State} {m : MethodId} {args : Array Value} {below : List Frame} {meth : Method} {c : Code} {T : State} {locs : List Loc} {cells slots : Nat}
theorem tw_go_pass {own C : String} (hpl : e.platform.magicAccessors = ({} : Platform).magicAccessors) (hown : s.vm.findClass own = some m.cls) {f : JFrame} (hf : f.method = m) {a : Addr} {cell : Cell} (hobj : cell.vm.isStatics = false) (hcls : s.vm.findClass C = some cell.cls) (rest : List ExceptionTableEntry) :
    ∀ (pre : List ExceptionTableEntry) (U : State), s.WarmedH U.vm → U.heap[a]? = some cell → (∀ x ∈ pre, tw_Pass s args own C f.pc x) →
      ∃ vm', s.WarmedH vm' ∧ ∀ (Q : Handler → Pre) (E : CtlPost) (d : Bool) (acts : List Action), wp (findHandler.go f a (pre ++ rest)) Q E e d acts U ↔ wp (findHandler.go f a rest) Q E e d acts (U.setVm vm') := by
  intro pre
  induction pre with
  | nil => intro U hW _ _; exact ⟨U.vm, hW, fun Q E d acts => by rw [State.setVm_self]; rfl⟩
  | cons x t ih =>
    intro U hW hcell hp
    rcases hp x List.mem_cons_self with h | ⟨h, h0, D, hl, hn⟩
    · obtain ⟨vm', hW', k⟩ := ih U hW hcell (fun y hy => hp y (List.mem_cons_of_mem _ hy))
      exact ⟨vm', hW', fun Q E d acts => (Jvm.W.findHandler_go_skip h).trans (k Q E d acts)⟩
    · obtain ⟨cD, hfD, hcl⟩ := Cond.classLink_spec hown hl e.platform hpl
      obtain ⟨hg₁, hwarm₁, -⟩ := State.classEntry (e := e) hW hcl
      obtain ⟨c1, t1, f1, f2, f3⟩ := hn
      cases hcls.symm.trans f1
      cases hfD.symm.trans f2
      obtain ⟨vm', hW', k⟩ := ih (U.setVm (U.vm.noted m.cls x.catchType (.cls cD))) hwarm₁ hcell (fun y hy => hp y (List.mem_cons_of_mem _ hy))
      refine ⟨vm', hW', fun Q E d acts => ?_⟩
      refine (tw_go_miss h h0 (by rw [hf]; exact hg₁) (by simp [Vm.size_noted]) hcell (fun k => VmData.ne_statics_of hobj k) ?_ ?_ ?_).trans (k Q E d acts)
      · obtain ⟨k0, hk0, -⟩ := Vm.findClass_spec hcls
        obtain ⟨k1, hk1, -⟩ := hwarm₁.alike.2.2 _ _ hk0
        exact ⟨k1, hk1⟩
      · obtain ⟨k0, hk0, -⟩ := Vm.findClass_spec hfD
        obtain ⟨k1, hk1, -⟩ := hwarm₁.alike.2.2 _ _ hk0
        exact ⟨k1, hk1⟩
      · rw [hwarm₁.alike.assignable]; exact f3
/-- THE EXCEPTION IS CAUGHT: the rows 'pre' of the table are passed, the row x takes it -/
theorem tw_catch (X : Stand p l e R s m args below meth c T locs cells slots) {own C D : String} (hown : s.vm.findClass own = some m.cls) {g : JFrame} (hg : g.method = m) {a : Addr} {cell : Cell} (hcell : T.heap[a]? = some cell) (hobj : cell.vm.isStatics = false) (hcls : s.vm.findClass C = some cell.cls)
    {pre rest : List ExceptionTableEntry} {x : ExceptionTableEntry} (hsplit : c.exceptionTable.toList = pre ++ x :: rest) (hpre : ∀ y ∈ pre, tw_Pass s args own C g.pc y) (hx : covers x g.pc = true) (h0 : x.catchType ≠ 0)
    (hl : (Cond.classLink own x.catchType D).before args s = true) (hfit : ∀ cD, s.vm.findClass D = some cD → s.vm.assignable cell.cls cD = true) :
    ∃ vm', Stand p l e R s m args below meth c (T.setVm vm') locs cells slots ∧
      ∀ target, Steps p.tables e below ((T.setVm vm').setTop { g with pc := x.handlerPc, stack := [.ref a] }) target → Steps p.tables e below ((T.setTop g).pushFrame (.throwing a)) target := by
  have hpl : e.platform.magicAccessors = ({} : Platform).magicAccessors := by rw [X.admits.platform]
  have hvm : ((T.setTop g).pushFrame (.throwing a)).vm = T.vm := Stand.throwing_vm T g a
  have hhp : ((T.setTop g).pushFrame (.throwing a)).heap = T.heap := Stand.throwing_heap T g a
  obtain ⟨vm1, hW1, k1⟩ := tw_go_pass (e := e) (args := args) hpl hown hg (a := a) hobj hcls (x :: rest) pre ((T.setTop g).pushFrame (.throwing a)) (by rw [hvm]; exact X.warmed) (by rw [hhp]; exact hcell) hpre
  obtain ⟨cD, hfD, hcl⟩ := Cond.classLink_spec hown hl e.platform hpl
  obtain ⟨hg₁, hwarm₁, -⟩ := State.classEntry (e := e) hW1 hcl
  refine ⟨vm1.noted m.cls x.catchType (.cls cD), X.noted hwarm₁, fun target hrest => ?_⟩
  have h : At T g.method c below := by rw [hg]; exact X.here
  refine tw_caught h (vm' := vm1.noted m.cls x.catchType (.cls cD)) ?_ hrest
  intro Q E d acts
  have hm : ((T.setTop g).pushFrame (.throwing a)).vm.method? g.method = some meth := by rw [hvm, hg]; exact X.method'
  rw [Jvm.W.findHandler_eq hm X.code, hsplit, k1]
  refine (tw_go_hit (cell := cell) hx h0 (by rw [hg]; exact hg₁) (by simp [Vm.size_noted]) (by show ((T.setTop g).pushFrame (.throwing a)).heap[a]? = some cell; rw [hhp]; exact hcell) (fun k => VmData.ne_statics_of hobj k) ?_ ?_ ?_).trans ?_
  · obtain ⟨k0, hk0, -⟩ := Vm.findClass_spec hcls
    obtain ⟨k1, hk1, -⟩ := hwarm₁.alike.2.2 _ _ hk0
    exact ⟨k1, hk1⟩
  · obtain ⟨k0, hk0, -⟩ := Vm.findClass_spec hfD
    obtain ⟨k1, hk1, -⟩ := hwarm₁.alike.2.2 _ _ hk0
    exact ⟨k1, hk1⟩
  · rw [hwarm₁.alike.assignable]; exact hfit cD hfD
  · rw [State.setVm_setVm]
end TWcatch
