/-! CONTRACTS THAT MAY END BY A THROW: te_Met, its walk (te_MQ), the four instructions of 'throw new E()', a call that may throw -/
def te_End (st t : State) (L : List Loc) (k n : Nat) : Prop := st.WarmedH t.vm ∧ st.sameButNew ({ t with vm := st.vm } : State) L k n
def te_Met (l : Launch) (y : MethodName) (ws : List Cond) (rm : Room) (Pc : Array Value → State → Prop) (Qc : Array Value → State → Outcome → State → Prop) (mc ms : Nat) (free : Addr → Prop) : Prop :=
  MetFree l y (headSpec ws rm) Pc (fun _ _ _ _ _ => True) (fun a st o t => Qc a st o t ∧ ∃ L, te_End st t L mc ms ∧ ∀ q ∈ L, free q.base)
def te_MQ (below : List Frame) (Qc : Array Value → State → Outcome → State → Prop) (a : Array Value) (s : State) (mc ms : Nat) (free : Addr → Prop) : State → Prop := fun t =>
  ∃ o, t.status = .running ∧ Ended t below o ∧ Qc a s o t ∧ ∃ L, te_End s t L mc ms ∧ ∀ q ∈ L, free q.base
theorem te_tr {l : Launch} {e : Env} (hfl : l.flags = flags0) (ha : l.admits e) : e.platform.stackTraces = false := by
  have h : l.stackTraces = false := by rw [Launch.stackTraces, hfl]; decide +kernel
  rw [ha.platform]; exact h
theorem te_heap {s t : State} {k n : Nat} (h : s.sameButNew ({ t with vm := s.vm } : State) [] k n) : s.heap.size ≤ t.heap.size ∧ ∀ q : Nat, q < s.heap.size → t.heap[q]? = s.heap[q]? := by
  obtain ⟨-, h1, -, -, -, h2⟩ := h
  refine ⟨h1, fun q hq => ?_⟩
  have hc : s.heap[q]? = some (s.heap[q]) := Array.getElem?_eq_getElem hq
  obtain ⟨c', e1, e2, e3, e4⟩ := h2 q _ hc
  have e1' : t.heap[q]? = some c' := e1
  rw [hc, e1']
  have hs : c'.slots = (s.heap[q]).slots := Array.ext_getElem? (fun i => e4 i (by simp))
  rw [e2, hs]
section TEw
variable {p : Program} {l : Launch} {e : Env} {R : Room} {s : State} {m : MethodId} {args : Array Value} {below : List Frame} {meth : Method} {c : Code} {H : Heap} {locs : List Loc} {cells slots : Nat} {Q : State → Prop}
theorem te_of {Qc : Array Value → State → Outcome → State → Prop} {a : Array Value} {mc ms : Nat} {free : Addr → Prop} {g : JFrame} (h : W p l e R s m args below meth c H locs cells slots (MQ below Qc a s mc ms free) g) : W p l e R s m args below meth c H locs cells slots (te_MQ below Qc a s mc ms free) g := by
  intro T hT X
  obtain ⟨t, h1, o, h2, h3, h4, L, h5, h6⟩ := h T hT X
  exact ⟨t, h1, o, h2, h3, h4, L, ⟨h5.2.1, h5.2.2⟩, h6⟩
theorem te_ofW {y : MethodName} {ws ws' : List Cond} {rm : Room} {Pc : Array Value → State → Prop} {Qc : Array Value → State → Outcome → State → Prop} {mc ms : Nat} {free : Addr → Prop} {cc : ByteArray} {maxL : Nat} {ret : Option FieldType}
    (hy : plainName y.cls = true) (hw : ws = Cond.code y cc maxL ret :: ws')
    (body : ∀ p e s m args below meth c s₁, BodyLoose p l y (headSpec ws rm) cc maxL ret e s m args below meth c s₁ → c.maxLocals = maxL → Pc args s →
      W p l e (headSpec ws rm).room s m args below meth c s.heap [] 0 0 (te_MQ below Qc args s mc ms free) (entryFrame m args maxL)) : te_Met l y ws rm Pc Qc mc ms free := by
  refine MetFree.of_bodyS (code := cc) (maxLocals := maxL) (ret := ret) hy ?_ ?_
  · intro args s m h hn
    obtain ⟨meth, c, h1, h2, h3, h4, h5, h6, -, -⟩ := Cond.code_spec hn (atoms_spec (ws := ws) h _ (by rw [hw]; exact List.mem_cons_self))
    exact ⟨meth, c, h1, h2, h3, h4, h5, h6⟩
  · intro p e s m args below meth c s₁ B hml hP _
    have hh0 : s₁.heap = s.heap := by rw [B.state]; rfl
    obtain ⟨t, a1, o, b1, b2, b3⟩ := body p e s m args below meth c s₁ B hml hP s₁ hh0 (Stand.of_body B)
    exact ⟨t, o, a1, b1, b2, b3⟩
/-- what is known behind a throw that nothing was written ahead of -/
def te_Thrown (cls : String) (s : State) (a : Nat) (t : State) : Prop :=
  s.heap.size ≤ a ∧ (∃ ce : Cell, t.heap[a]? = some ce ∧ ce.vm.isStatics = false ∧ s.vm.findClass cls = some ce.cls) ∧ s.heap.size ≤ t.heap.size ∧ (∀ q : Nat, q < s.heap.size → t.heap[q]? = s.heap[q]?) ∧ s.WarmedH t.vm
/-- throw new E(): new, dup, invokespecial, athrow, out of a method without handlers, nothing written before -/
theorem te_throw {cc : ByteArray} {Qc : Array Value → State → Outcome → State → Prop} {free : Addr → Prop} {pc : Nat} {ls : Array Slot} (hexec : p.tables.exec = Jvm.exec) (hb : c.code = cc) (htr : e.platform.stackTraces = false) {own cls : String} {names : List String} {iN ic : Nat} (hown : s.vm.findClass own = some m.cls)
    (hcls : Bundle.fit cls = true) (hnames : ∀ n ∈ names, Bundle.fit n = true) (hW : ∀ w ∈ Bundle.ownAtoms0 own ic cls names, w.before args s = true) (hclink : (Cond.classLink own iN cls).before args s = true) (hinit : (Cond.initialized cls).before args s = true)
    (hh : c.exceptionTable.isEmpty = true) (hml : ls.size = c.maxLocals) (hcells : cells + 1 ≤ R.cells) (hslots : slots + 6 ≤ R.slots) (hfr : names.length + 3 < R.frames) (hlo : 1 + (13 * (names.length + 1) + 41) ≤ R.locals)
    (h0 : decode cc pc = .ok (.new iN, 3)) (h3 : decode cc (pc + 3) = .ok (.dup, 1)) (h4 : decode cc (pc + 4) = .ok (.invokespecial ic, 3)) (h7 : decode cc (pc + 7) = .ok (.athrow, 1)) (hH : s.heap.size ≤ H.size)
    (hq : ∀ (t : State) (a : Nat), te_Thrown cls s a t → Qc args s (.threw a) t) (hlocks : meth.locks = false) :
    W p l e R s m args below meth c H [] cells slots (te_MQ below Qc args s (cells + 1) (slots + 6) free) (F0 m pc ls []) := by
  refine W.newc hexec hb hown hclink (n := 6) (hW (.instantiable cls 6) (by simp [Bundle.ownAtoms0])) hinit rfl h0 hcells hslots (fun cC kC f1 f2 f3 f4 => ?_)
  refine W.eq (g2 := F0 m (pc + 3) ls [.ref H.size]) rfl ?_
  refine lv_dup hexec hb h3 rfl ?_
  intro T hT X
  have hx0 : c.exceptionTable.toList = [] := by
    have h0 : c.exceptionTable.size = 0 := by simpa [Array.isEmpty] using hh
    exact List.eq_nil_of_length_eq_zero (by simpa using h0)
  obtain ⟨U, st, hrun, hend, hwarm, hsame, ce, hce, hoc⟩ := X.ctorThrow0 hexec htr (own := own) (cls := cls) (names := names) (ic := ic) hown hcls hnames hW (fun x hx => by cases hx) (a := H.size) (cX := cC) (kX := kC) f1 f2
    (by rw [hT]; simp) hH (g := F0 m (pc + 3 + 1) ls [.ref H.size, .ref H.size]) rfl hml rfl rfl (rest := []) rfl (by rw [hb]; exact h4) (by rw [hb]; exact h7) (fun x hx => by rw [hx0] at hx; cases hx) hfr (by simpa [JFrame.monitorRoom, Value.category] using hlo) hlocks
  exact ⟨U, st, .threw H.size, hrun, hend, hq U H.size ⟨hH, ⟨ce, hce, by rw [hoc.vm]; rfl, hoc.cls⟩, (te_heap hsame).1, (te_heap hsame).2, hwarm⟩, [], ⟨hwarm, hsame⟩, fun q hq => by cases hq⟩
/-- a callee's contract, at a call: it comes back, or its exception stands over the caller's frame -/
theorem te_back {y : MethodName} {ws : List Cond} {rm : Room} {Pc : Array Value → State → Prop} {Qc : Array Value → State → Outcome → State → Prop} {mc ms : Nat} {free : Addr → Prop} {bytes : ByteArray} {maxL : Nat} {ret : Option FieldType} {len Wd : Nat} {T : State}
    (hM : te_Met l y ws rm Pc Qc mc ms free) (hblind : FrameBlind Pc) (hrc : rm.cells = mc) (hrs : rm.slots = ms) (hframes : rm.frames + 1 ≤ R.frames) (hlocals : Wd + (maxL + 11) + rm.locals ≤ R.locals)
    (hws : ∀ w ∈ ws, ∀ (a' : Array Value) (U : State), s.WarmedH U.vm → w.before a' U = true) (hcode : Cond.code y bytes maxL ret ∈ ws) (hinit : ∀ (a' : Array Value) (U : State), s.WarmedH U.vm → (Cond.initialized y.cls).before a' U = true)
    (X : Stand p l e R s m args below meth c T locs cells slots) {g : JFrame} {ig : Instr} {mk : MethodId} {a : Array Value} (hg : g.method = m) (hsize : g.locals.size = c.maxLocals) (hdg : decode c.code g.pc = .ok (ig, len))
    (hWd : 2 * g.monitorRoom + (g.stack.map fun v => v.category).sum ≤ Wd) (hn : T.methodNamed? y = some mk) (hc1 : cells + mc ≤ R.cells) (hs1 : slots + ms ≤ R.slots) (hp : Pc a T) :
    ∃ (o : Outcome) (t T' : State) (L : List Loc), Qc a (T.calling g mk a) o t ∧ (∀ q ∈ L, free q.base) ∧ T'.heap = t.heap ∧ T'.vm = t.vm ∧ Stand p l e R s m args below meth c T' (locs ++ L) (cells + mc) (slots + ms) ∧
      (∀ v, o = .returned v → Steps p.tables e below (doInvoke e (T.setTop g) [] mk a).1 (T'.setTop { g with pc := g.pc + len, stack := v.toList ++ g.stack })) ∧
      (∀ x, o = .threw x → Steps p.tables e below (doInvoke e (T.setTop g) [] mk a).1 ((T'.setTop g).pushFrame (.throwing x))) := by
  have h2 : (Cond.code y bytes maxL ret).before a T = true := hws _ hcode _ _ X.warmed
  obtain ⟨methY, cY, hmY, hcY, -, hlY, -, -, -, -⟩ := Cond.code_spec hn h2
  obtain ⟨kY, hkY, -⟩ := className_of_methodNamed hn
  have hinitY : kY.init = .initialized := Cond.initialized_spec (findClass_of_methodNamed hn) hkY (hinit a T X.warmed)
  have h : At T g.method c below := by rw [hg]; exact X.here
  have happ : (headSpec ws rm).appliesLoose y e.platform (T.calling g mk a) = true :=
    Spec.appliesLoose_calling (g := g) h hdg hn hkY hinitY
      (X.room_calling (g := g) (R' := (headSpec ws rm).room) hsize hmY hcY hframes (by rw [hlY]; show _ + _ + rm.locals ≤ _; omega) (by rw [show (headSpec ws rm).room.cells = mc from hrc]; exact hc1) (by rw [show (headSpec ws rm).room.slots = ms from hrs]; exact hs1))
      (atoms_intro fun w hw => hws w hw _ _ X.warmed)
  have hfr : (T.setTop g).frames = [.java g] ++ below := by rw [State.frames_setTop' g h.top, X.tail]; rfl
  obtain ⟨o, t, hsteps, -, hend, hq, L, hE, hL⟩ := Steps.callFree hM p X.admits X.cas X.clock (acts := []) hfr happ (hblind _ _ g mk hp) trivial
  have hend' : Ended t (.java g :: below) o := by rw [hfr] at hend; exact hend
  cases o with
  | returned v =>
    obtain ⟨T', X', -, -, ht⟩ := X.outOf hg hdg (mk := mk) (a := a) hend' hE.1 hE.2
    refine ⟨.returned v, t, T', L, hq, hL, ?_, ?_, X', ?_, fun x h => by cases h⟩
    · rw [ht]; simp [State.setTop, State.modifyTopJava]
    · rw [ht]; simp [State.setTop, State.modifyTopJava]
    · intro v' h; cases h; rw [← ht]; exact hsteps
  | threw x =>
    obtain ⟨T', X', -, -, ht⟩ := X.outOfThrown hg (mk := mk) (a := a) hend' hE.1 hE.2
    refine ⟨.threw x, t, T', L, hq, hL, ?_, ?_, X', (fun v h => by cases h), ?_⟩
    · rw [ht]; exact (Stand.throwing_heap T' g x).symm
    · rw [ht]; exact (Stand.throwing_vm T' g x).symm
    · intro x' h; cases h; rw [← ht]; exact hsteps
end TEw
