/-! A CALL THAT MAY THROW, at the caller: te_Run, te_runV; te_Qx: an answer or one of some exceptions; te_calli; te_catch -/
def te_Run (p : Program) (l : Launch) (e : Env) (R : Room) (s : State) (m : MethodId) (args : Array Value) (below : List Frame) (meth : Method) (c : Code) (H : Heap) (locs : List Loc) (cells slots mc ms : Nat) (g : JFrame) (rest : List Value) (Qa : State → Outcome → State → Prop) (free : Addr → Prop) : Prop :=
  ∀ T : State, T.heap = H → Stand p l e R s m args below meth c T locs cells slots → ∃ (o : Outcome) (st₀ t T' : State) (L : List Loc), st₀.heap = H ∧ s.WarmedH st₀.vm ∧ Stand p l e R s m args below meth c T' (locs ++ L) (cells + mc) (slots + ms) ∧ (∀ q ∈ L, free q.base) ∧ T'.heap = t.heap ∧ T'.vm = t.vm ∧ Qa st₀ o t ∧
    (∀ v, o = .returned v → Goes p e below T g T' { g with pc := g.pc + 3, stack := v.toList ++ rest }) ∧
    (∀ x, o = .threw x → ∀ target, Steps p.tables e below ((T'.setTop { g with stack := rest }).pushFrame (.throwing x)) target → Steps p.tables e below (T.setTop g) target)
def te_Qx (ok : Array Value → State → Outcome → State → Prop) (thr : String → Prop) : Array Value → State → Outcome → State → Prop := fun a st o t =>
  (∃ v, o = .returned v ∧ ok a st o t) ∨ ∃ (cls : String) (x : Nat), thr cls ∧ o = .threw x ∧ te_Thrown cls st x t
section TErun
variable {p : Program} {l : Launch} {e : Env} {R : Room} {s : State} {m : MethodId} {args : Array Value} {below : List Frame} {meth : Method} {c : Code} {H H0 : Heap} {locs : List Loc} {cells slots : Nat} {Q : State → Prop}
variable {y : MethodName} {bytes cc : ByteArray} {maxL nL mc ms n index : Nat} {ret : Option FieldType} {ws : List Cond} {rm : Room} {Pc : Array Value → State → Prop} {Qc : Array Value → State → Outcome → State → Prop} {free : Addr → Prop} {Ts : List Cond} {own C : String} {b : Addr} {As rest : List Value} {g : JFrame}
theorem te_runV (S : CallFix p m c cc nL s args Ts own) (hM : te_Met l y ws rm Pc Qc mc ms free) (cw : CallW R s args own C index y bytes maxL ret ws rm mc ms n) (hp : PreV s H C b Pc As)
    (hg : g.method = m) (hn : As.length = n) (hsize : g.locals.size = nL) (hstack : g.stack = As.reverse ++ .ref b :: rest) (hW : 2 * g.monitorRoom + (rest.map fun v => v.category).sum ≤ 8) (hdg : decode cc g.pc = .ok (.invokevirtual index, 3)) (hf : cells + mc ≤ R.cells ∧ slots + ms ≤ R.slots) :
    te_Run p l e R s m args below meth c H locs cells slots mc ms g rest (Qc (Value.ref b :: As).toArray) free := by
  obtain ⟨⟨hrc, hrs, hfr, hlo, hws, hcw, hcode, hini, hy, hlen, hl⟩, hin, hse⟩ := cw
  obtain ⟨hx, hb, hml, ho, -⟩ := S
  obtain ⟨hbl, ⟨cellB, hcB, hoB, hclB⟩, hPc⟩ := hp
  intro T hT X
  obtain ⟨mk, methM, hnamed, hmethM, hstM, habM⟩ := Cond.instanceMethod_spec hin
  obtain ⟨methM', cM, hmethM', -, -, -, -, -, -, hsigM⟩ := Cond.code_spec hnamed hcode
  cases hmethM.symm.trans hmethM'
  obtain ⟨c2, r2, m2, q1, q2, q3, q4, kP, hkP, hkPi⟩ := Cond.selects_spec hse
  cases hclB.symm.trans q1
  cases (State.methodFound?_of_named hnamed hy).symm.trans q2
  cases hnamed.symm.trans q3
  have hselP : selectMethod e.platform s.vm cellB.cls mk = .method mk := by rw [Launch.admits_selectMethod X.admits]; exact q4
  have hdg' : decode c.code g.pc = .ok (.invokevirtual index, 3) := by rw [hb]; exact hdg
  obtain ⟨vm₁, X₁, hstep₁⟩ := X.invokevirtual hx ho hl hnamed hmethM hstM hkP hkPi hy (a := b) (cell := cellB) (by rw [hT]; exact hcB)
    (fun z h => by rw [h] at hoB; cases hoB) hselP hmethM habM hkP hkPi (g := g) hg (argsL := As) (rest := rest) (hn.trans (hlen _ hsigM)) hstack hdg'
  obtain ⟨o, t, T', L, hq, hL, e1, e2, X', kr, kt⟩ := te_back (Wd := 8) (len := 3) (bytes := bytes) (maxL := maxL) (ret := ret) hM hbl hrc hrs hfr hlo hws hcw (fun a' U hW => word_at hW (Or.inl (by first | rfl | simp [Cond.onTables, Cond.keeps, Cond.steady])) hini)
    X₁ (g := { g with stack := rest }) (mk := mk) (a := (Value.ref b :: As).toArray) hg (hsize.trans hml.symm) hdg' hW (X₁.named hnamed) hf.1 hf.2 (hPc (T.setVm vm₁) hT X₁.warmed)
  refine ⟨o, (T.setVm vm₁).calling { g with stack := rest } mk (Value.ref b :: As).toArray, t, T', L, hT, X₁.warmed, X', hL, e1, e2, hq, ?_, ?_⟩
  · intro v hv target h
    exact hstep₁ _ fun acts => by rw [doInvoke_state]; exact (kr v hv).trans h
  · intro x hx target h
    exact hstep₁ _ fun acts => by rw [doInvoke_state]; exact (kt x hx).trans h
variable {A0 A1 : Nat → Prop} {pc : Nat} {ls : Array Slot} {st0 : List Value} {a : Array Value}
theorem te_calli {S : Type} {post : Int32 → S → Prop} {B : S → State → Prop} {thr : String → Prop} (hr : te_Run p l e R s m args below meth c H locs cells slots mc ms (F0 m pc ls st0) rest (te_Qx (va_Qi post B A1) thr a) free) (hS : va_S A0 H0 H locs) (hA : ∀ q, q < H.size → A1 q → A0 q) (hf : ∀ q, free q → A0 q)
    (kk : ∀ (r : Int32) (u : S) (t : State) (H1 : Heap) (locs1 : List Loc), t.heap = H1 → s.vm.Alike t.vm → post r u → B u t → H.size ≤ H1.size → (∀ q : Nat, q < H.size → ¬ A1 q → H1[q]? = H[q]?) → va_S A0 H0 H1 locs1 → W p l e R s m args below meth c H1 locs1 (cells + mc) (slots + ms) Q (F0 m (pc + 3) ls (.int r :: rest)))
    (kx : ∀ (cls : String) (x : Nat) (H1 : Heap) (locs1 : List Loc), thr cls → H.size ≤ x → (∃ ce : Cell, H1[x]? = some ce ∧ ce.vm.isStatics = false ∧ s.vm.findClass cls = some ce.cls) → H.size ≤ H1.size → (∀ q : Nat, q < H.size → H1[q]? = H[q]?) → va_S A0 H0 H1 locs1 →
      ∀ T' : State, T'.heap = H1 → Stand p l e R s m args below meth c T' locs1 (cells + mc) (slots + ms) → ∃ t2, Steps p.tables e below ((T'.setTop (F0 m pc ls rest)).pushFrame (.throwing x)) t2 ∧ Q t2) :
    W p l e R s m args below meth c H locs cells slots Q (F0 m pc ls st0) := by
  intro T hT X
  obtain ⟨o, st₀, t, T', L, h0, hw0, X', hL, e1, e2, hq, kr, kt⟩ := hr T hT X
  have hlocs : ∀ q ∈ locs ++ L, A0 q.base := fun q hq => by
    rcases List.mem_append.mp hq with h | h
    · exact hS.2.2 q h
    · exact hf _ (hL q h)
  rcases hq with ⟨v, hv, hok⟩ | ⟨cls, x, ht, hv, hx⟩
  · obtain ⟨⟨r, u, hv2, hp, hb⟩, hz, hk⟩ := hok
    rw [h0] at hz hk
    have hv3 := hv2
    obtain ⟨t2, a1, b1⟩ := kk r u t T'.heap (locs ++ L) e1.symm (by rw [← e2]; exact X'.warmed.alike) hp hb (by rw [e1]; exact hz) (fun q h1 h2 => by rw [e1]; exact hk q h1 h2)
      ⟨Nat.le_trans hS.1 (by rw [e1]; exact hz), fun q h1 h2 => by rw [e1, hk q (Nat.lt_of_lt_of_le h1 hS.1) (fun z => h2 (hA q (Nat.lt_of_lt_of_le h1 hS.1) z))]; exact hS.2.1 q h1 h2, hlocs⟩ T' rfl X'
    exact ⟨t2, kr _ hv3 t2 a1, b1⟩
  · obtain ⟨g1, ⟨ce, g2, g3, g4⟩, g5, g6, g7⟩ := hx
    rw [h0] at g1 g5 g6
    have hfc : s.vm.findClass cls = some ce.cls := by rw [← hw0.alike.findClass]; exact g4
    obtain ⟨t2, a1, b1⟩ := kx cls x T'.heap (locs ++ L) ht g1 ⟨ce, by rw [e1]; exact g2, g3, hfc⟩ (by rw [e1]; exact g5) (fun q h => by rw [e1]; exact g6 q h)
      ⟨Nat.le_trans hS.1 (by rw [e1]; exact g5), fun q h1 h2 => by rw [e1, g6 q (Nat.lt_of_lt_of_le h1 hS.1)]; exact hS.2.1 q h1 h2, hlocs⟩ T' rfl X'
    exact ⟨t2, kt x hv t2 a1, b1⟩
theorem te_calll {S : Type} {post : Int64 → S → Prop} {B : S → State → Prop} {thr : String → Prop} (hr : te_Run p l e R s m args below meth c H locs cells slots mc ms (F0 m pc ls st0) rest (te_Qx (va_Ql post B A1) thr a) free) (hS : va_S A0 H0 H locs) (hA : ∀ q, q < H.size → A1 q → A0 q) (hf : ∀ q, free q → A0 q)
    (kk : ∀ (r : Int64) (u : S) (t : State) (H1 : Heap) (locs1 : List Loc), t.heap = H1 → s.vm.Alike t.vm → post r u → B u t → H.size ≤ H1.size → (∀ q : Nat, q < H.size → ¬ A1 q → H1[q]? = H[q]?) → va_S A0 H0 H1 locs1 → W p l e R s m args below meth c H1 locs1 (cells + mc) (slots + ms) Q (F0 m (pc + 3) ls (.long r :: rest)))
    (kx : ∀ (cls : String) (x : Nat) (H1 : Heap) (locs1 : List Loc), thr cls → H.size ≤ x → (∃ ce : Cell, H1[x]? = some ce ∧ ce.vm.isStatics = false ∧ s.vm.findClass cls = some ce.cls) → H.size ≤ H1.size → (∀ q : Nat, q < H.size → H1[q]? = H[q]?) → va_S A0 H0 H1 locs1 →
      ∀ T' : State, T'.heap = H1 → Stand p l e R s m args below meth c T' locs1 (cells + mc) (slots + ms) → ∃ t2, Steps p.tables e below ((T'.setTop (F0 m pc ls rest)).pushFrame (.throwing x)) t2 ∧ Q t2) :
    W p l e R s m args below meth c H locs cells slots Q (F0 m pc ls st0) := by
  intro T hT X
  obtain ⟨o, st₀, t, T', L, h0, hw0, X', hL, e1, e2, hq, kr, kt⟩ := hr T hT X
  have hlocs : ∀ q ∈ locs ++ L, A0 q.base := fun q hq => by
    rcases List.mem_append.mp hq with h | h
    · exact hS.2.2 q h
    · exact hf _ (hL q h)
  rcases hq with ⟨v, hv, hok⟩ | ⟨cls, x, ht, hv, hx⟩
  · obtain ⟨⟨r, u, hv2, hp, hb⟩, hz, hk⟩ := hok
    rw [h0] at hz hk
    have hv3 := hv2
    obtain ⟨t2, a1, b1⟩ := kk r u t T'.heap (locs ++ L) e1.symm (by rw [← e2]; exact X'.warmed.alike) hp hb (by rw [e1]; exact hz) (fun q h1 h2 => by rw [e1]; exact hk q h1 h2)
      ⟨Nat.le_trans hS.1 (by rw [e1]; exact hz), fun q h1 h2 => by rw [e1, hk q (Nat.lt_of_lt_of_le h1 hS.1) (fun z => h2 (hA q (Nat.lt_of_lt_of_le h1 hS.1) z))]; exact hS.2.1 q h1 h2, hlocs⟩ T' rfl X'
    exact ⟨t2, kr _ hv3 t2 a1, b1⟩
  · obtain ⟨g1, ⟨ce, g2, g3, g4⟩, g5, g6, g7⟩ := hx
    rw [h0] at g1 g5 g6
    have hfc : s.vm.findClass cls = some ce.cls := by rw [← hw0.alike.findClass]; exact g4
    obtain ⟨t2, a1, b1⟩ := kx cls x T'.heap (locs ++ L) ht g1 ⟨ce, by rw [e1]; exact g2, g3, hfc⟩ (by rw [e1]; exact g5) (fun q h => by rw [e1]; exact g6 q h)
      ⟨Nat.le_trans hS.1 (by rw [e1]; exact g5), fun q h1 h2 => by rw [e1, g6 q (Nat.lt_of_lt_of_le h1 hS.1)]; exact hS.2.1 q h1 h2, hlocs⟩ T' rfl X'
    exact ⟨t2, kt x hv t2 a1, b1⟩
/-- the handler takes it: the walk goes on there -/
theorem te_catch {cls D : String} {x hpc : Nat} {H1 : Heap} {locs1 : List Loc} {pre tl : List ExceptionTableEntry} {en : ExceptionTableEntry} (hown : s.vm.findClass own = some m.cls) (hce : ∃ ce : Cell, H1[x]? = some ce ∧ ce.vm.isStatics = false ∧ s.vm.findClass cls = some ce.cls)
    (hsplit : c.exceptionTable.toList = pre ++ en :: tl) (hpre : ∀ y ∈ pre, tw_Pass s args own cls pc y) (hx : covers en pc = true) (h0 : en.catchType ≠ 0) (hpcs : en.handlerPc = hpc)
    (hl : (Cond.classLink own en.catchType D).before args s = true) (hfit : ∀ cC cD, s.vm.findClass cls = some cC → s.vm.findClass D = some cD → s.vm.assignable cC cD = true)
    (kk : W p l e R s m args below meth c H1 locs1 cells slots Q (F0 m hpc ls [.ref x])) :
    ∀ T' : State, T'.heap = H1 → Stand p l e R s m args below meth c T' locs1 cells slots → ∃ t2, Steps p.tables e below ((T'.setTop (F0 m pc ls rest)).pushFrame (.throwing x)) t2 ∧ Q t2 := by
  intro T' hT X
  obtain ⟨ce, c1, c2, c3⟩ := hce
  obtain ⟨vm', X', st⟩ := tw_catch X hown (g := F0 m pc ls rest) rfl (a := x) (cell := ce) (by rw [hT]; exact c1) c2 c3 hsplit hpre hx h0 hl (fun cD h => hfit _ _ c3 h)
  obtain ⟨t, a1, b1⟩ := kk (T'.setVm vm') hT X'
  subst hpcs
  exact ⟨t, st t a1, b1⟩
end TErun
