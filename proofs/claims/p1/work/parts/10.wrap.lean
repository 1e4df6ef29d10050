/-! A METHOD WITH HANDLERS THAT CALLS ONE THAT MAY THROW -/
section TWR
variable {p : Program} {l : Launch} {e : Env} {s : State} {m : MethodId} {args : Array Value} {below : List Frame} {meth : Method} {c : Code} {s₁ : State}
/-- the table of handlers, out of the word -/
theorem te_tab {y : MethodName} {S : Spec} {cc : ByteArray} {maxL : Nat} {ret : Option FieldType} {hh : List (Nat × Nat × Nat × Nat)} (B : BodyLoose p l y S cc maxL ret e s m args below meth c s₁) (h : (Cond.codeWith y cc maxL ret hh).before args s = true) :
    c.exceptionTable.toList.map (fun h => (h.startPc, h.endPc, h.handlerPc, h.catchType)) = hh := by
  obtain ⟨m9, meth', c', hn9, hm', hc', -, -, he, -⟩ := Cond.codeWith_spec h
  cases B.named.symm.trans hn9
  cases B.method.symm.trans hm'
  cases (Stand.of_body B).code.symm.trans hc'
  exact he
end TWR
theorem te_e1 {α β : Type} {xs : List α} {f : α → β} {a : β} (h : xs.map f = [a]) : ∃ e1, xs = [e1] ∧ f e1 = a := by
  match xs, h with
  | [e1], h => exact ⟨e1, rfl, by simpa using h⟩
theorem te_e2 {α β : Type} {xs : List α} {f : α → β} {a b : β} (h : xs.map f = [a, b]) : ∃ e1 e2, xs = [e1, e2] ∧ f e1 = a ∧ f e2 = b := by
  match xs, h with
  | [e1, e2], h => exact ⟨e1, e2, rfl, by simpa using h⟩
theorem te_e3 {α β : Type} {xs : List α} {f : α → β} {a b d : β} (h : xs.map f = [a, b, d]) : ∃ e1 e2 e3, xs = [e1, e2, e3] ∧ f e1 = a ∧ f e2 = b ∧ f e3 = d := by
  match xs, h with
  | [e1, e2, e3], h => exact ⟨e1, e2, e3, rfl, by simpa using h⟩
theorem te_e4 {α β : Type} {xs : List α} {f : α → β} {a b d g : β} (h : xs.map f = [a, b, d, g]) : ∃ e1 e2 e3 e4, xs = [e1, e2, e3, e4] ∧ f e1 = a ∧ f e2 = b ∧ f e3 = d ∧ f e4 = g := by
  match xs, h with
  | [e1, e2, e3, e4], h => exact ⟨e1, e2, e3, e4, rfl, by simpa using h⟩
theorem te_keep {D : va_G} {cl : List vw_C} {ws : va_W} {H H1 : Heap} (hP : va_P D cl ws H) (hk : ∀ q : Nat, q < H.size → H1[q]? = H[q]?) : va_P D cl ws H1 := hP.kept (fun k q h => hk q.1 (hP k q h).lt)
theorem te_same {s : State} {C : String} : ∀ cC cD, s.vm.findClass C = some cC → s.vm.findClass C = some cD → s.vm.assignable cC cD = true := by
  intro cC cD h1 h2
  cases h1.symm.trans h2
  exact va_asg _ _
def prT (s0 : State) (sz : Nat) (D : va_G) (ws : va_W) (tys : List (ClassId × FieldType)) (U : State) : Prop := U.heap.size = sz ∧ tb U ∧ te_Base s0 U ∧ va_P D classes ws U.heap ∧ va_K D classes tys U ∧ va_D (fun _ => True) ws
theorem prT_blind {av : List Value} {s0 : State} {sz : Nat} {D : va_G} {ws : va_W} {tys : List (ClassId × FieldType)} : FrameBlind (va_Pc av (prT s0 sz D ws tys)) := by
  intro a U g mk h
  obtain ⟨h0, h1, h2, hb, h3, h4, h5⟩ := h
  exact ⟨h0, h1, h2.calling, hb, h3, va_K.moved (u := U) (U := U.calling g mk a) (Vm.Alike.refl U.vm) h4, h5⟩
/-- the start's old cells stand in the heap H -/
def te_BH (s0 s : State) (H : Heap) : Prop := s0.vm.Alike s.vm ∧ ∀ q : Nat, q < s0.heap.size → H[q]? = s0.heap[q]?
theorem prT_pre {av : List Value} {s0 : State} {D : va_G} {ws : va_W} {tys : List (ClassId × FieldType)} {s : State} {H : Heap} {A : Nat → Prop} (hb : tb s) (hB : te_BH s0 s H) (hP : va_P D classes ws H) (hK : va_K D classes tys s) (hD : va_D A ws) : ∀ U : State, U.heap = H → s.WarmedH U.vm → va_Pc av (prT s0 H.size D ws tys) av.toArray U := by
  intro U hU hW
  exact ⟨rfl, by rw [hU], hb.warm hW, ⟨hB.1.trans hW.alike, by rw [hU]; exact hB.2⟩, by rw [hU]; exact hP, va_K.moved hW.alike hK, hD.weaken (fun _ _ _ _ => trivial)⟩
theorem va_P_nil {D : va_G} {cl : List vw_C} {H : Heap} : va_P D cl [] H := fun k q h => by simp at h
theorem va_D_nil {A : Nat → Prop} : va_D A [] := ⟨fun i j p q h => by simp at h, fun k q h => by simp at h⟩
theorem vp_01 : vp_in (0 : Int32) 1 := by unfold vp_in; decide
