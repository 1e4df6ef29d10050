/-! WORDS OF A THROW: those on statics (they stay where the old cells stay), and the lists of each exception -/
def te_Base (s0 U : State) : Prop := s0.vm.Alike U.vm ∧ ∀ q : Nat, q < s0.heap.size → U.heap[q]? = s0.heap[q]?
theorem te_ls {s0 U : State} {args args' : Array Value} {O n d : String} (hB : te_Base s0 U) (h : (Cond.laysStatic O n d).before args s0 = true) : (Cond.laysStatic O n d).before args' U = true := by
  have h1 := Cond.laysStatic_setVm hB.1 h
  obtain ⟨c, k, i, f, a, cell, hc, hi, hst, ha, hcell, hs, hcls, hlt, hty⟩ := Cond.laysStatic_spec h1
  have hcell0 : s0.heap[a]? = some cell := hcell
  have hcell' : U.heap[a]? = some cell := by rw [hB.2 a (Array.getElem?_eq_some_iff.mp hcell0).1]; exact hcell0
  exact Cond.laysStatic_of (s := U) hc hi hst ha hcell' hs hcls hlt hty
theorem te_rf {s0 U : State} {args args' : Array Value} {O n d : String} (hB : te_Base s0 U) (hl : (Cond.laysStatic O n d).before args s0 = true) (h : (Cond.isRef (.static O n d)).before args s0 = true) : (Cond.isRef (.static O n d)).before args' U = true := by
  obtain ⟨c, k, i, f, a, cell, hc, hi, hst, ha, hcell, hs, -, -, -⟩ := Cond.laysStatic_spec hl
  obtain ⟨u, hu⟩ := Cond.staticRefV hi hst ha hcell hs h
  obtain ⟨k', hi', he⟩ := State.fieldFound?_setVm hB.1 hi
  have hi2 : U.fieldFound? O n d = some (c, k', i, f) := hi'
  have ha2 : k'.statics = some a := by rw [he]; exact ha
  have hcell' : U.heap[a]? = some cell := by rw [hB.2 a (Array.getElem?_eq_some_iff.mp hcell).1]; exact hcell
  have ev : (Term.static O n d).eval args' U none [] U = some u.v := by simp [Term.eval, State.fieldNamed?, hi2, hst, ha2, hcell', hs, hu]
  obtain ⟨v, hv⟩ := u
  have ev : (Term.static O n d).eval args' U none [] U = some v := ev
  simp only [Cond.before, Cond.holds, Cond.value, ev]
  cases v <;> first | rfl | cases hv
def te_us : Cond := .isRef (.static Bundle.tN "UNASSIGNED_STACK" Bundle.steD)
def te_ss : Cond := .isRef (.static Bundle.tN "SUPPRESSED_SENTINEL" Bundle.listD)
def te_lu : Cond := .laysStatic Bundle.tN "UNASSIGNED_STACK" Bundle.steD
def te_lss : Cond := .laysStatic Bundle.tN "SUPPRESSED_SENTINEL" Bundle.listD
/-- what the start says of Throwable's two statics -/
def te_S0 (s0 : State) : Prop := te_us.before #[] s0 = true ∧ te_ss.before #[] s0 = true ∧ te_lu.before #[] s0 = true ∧ te_lss.before #[] s0 = true
def te_heapW : Cond → Bool
  | .isRef _ => true
  | .laysStatic .. => true
  | _ => false
theorem te_own {s0 U : State} {args : Array Value} {own cls : String} {ic : Nat} {names : List String} (hS : te_S0 s0) (hB : te_Base s0 U) (hb : tb U) (h1 : ∀ w ∈ (Bundle.ownAtoms0 own ic cls names).filter (fun w => !te_heapW w), w ∈ tt)
    (h2 : (Bundle.ownAtoms0 own ic cls names).filter te_heapW = [te_lu, te_lss, te_us, te_ss]) : ∀ w ∈ Bundle.ownAtoms0 own ic cls names, w.before args U = true := by
  intro w hw
  by_cases hx : te_heapW w = true
  · have hm : w ∈ (Bundle.ownAtoms0 own ic cls names).filter te_heapW := List.mem_filter.mpr ⟨hw, hx⟩
    rw [h2] at hm
    simp only [List.mem_cons, List.not_mem_nil, or_false] at hm
    obtain ⟨q1, q2, q3, q4⟩ := hS
    rcases hm with rfl | rfl | rfl | rfl
    · exact te_ls hB q3
    · exact te_ls hB q4
    · exact te_rf hB q3 q1
    · exact te_rf hB q4 q2
  · exact hb.hts w (h1 w (List.mem_filter.mpr ⟨hw, by simp [hx]⟩))
theorem te_Base.refl (s : State) : te_Base s s := ⟨Vm.Alike.refl s.vm, fun _ _ => rfl⟩
def x_IAE : String := "java/lang/IllegalArgumentException"
abbrev ic_IAE : Nat := 57
abbrev iN_IAE : Nat := 55
theorem xf_IAE : Bundle.fit x_IAE = true := by decide +kernel
theorem xo_IAE : ∀ w ∈ (Bundle.ownAtoms0 "ScholarsPress" 57 x_IAE ["java/lang/RuntimeException", "java/lang/Exception"]).filter (fun w => !te_heapW w), w ∈ tt := tt_in [255, 598, 607, 617, 620, 622, 599, 600, 289, 290, 601, 606, 618, 635, 588, 636, 590, 637, 592, 602, 604, 594, 668, 669, 670, 627, 579, 627, 628, 629, 630, 581, 630, 631, 632, 599, 583, 667, 659, 660, 661, 613, 662, 663, 664, 665, 597, 596, 666] (by decide +kernel) (by decide +kernel)
theorem xh_IAE : (Bundle.ownAtoms0 "ScholarsPress" 57 x_IAE ["java/lang/RuntimeException", "java/lang/Exception"]).filter te_heapW = [te_lu, te_lss, te_us, te_ss] := by decide +kernel
theorem xl_IAE : Cond.classLink "ScholarsPress" 55 x_IAE ∈ tt := tt_mem 658 (by decide +kernel) (by decide +kernel)
theorem xi_IAE : Cond.initialized x_IAE ∈ tt := tt_mem 259 (by decide +kernel) (by decide +kernel)
def x_ISE : String := "java/lang/IllegalStateException"
abbrev ic_ISE : Nat := 146
abbrev iN_ISE : Nat := 144
theorem xf_ISE : Bundle.fit x_ISE = true := by decide +kernel
theorem xo_ISE : ∀ w ∈ (Bundle.ownAtoms0 "ScholarsPress" 146 x_ISE ["java/lang/RuntimeException", "java/lang/Exception"]).filter (fun w => !te_heapW w), w ∈ tt := tt_in [255, 598, 607, 617, 620, 622, 599, 600, 289, 290, 601, 606, 618, 635, 588, 636, 590, 637, 592, 602, 604, 594, 1402, 1403, 1404, 627, 579, 627, 628, 629, 630, 581, 630, 631, 632, 599, 583, 1401, 1393, 1394, 1395, 614, 1396, 1397, 1398, 1399, 597, 596, 1400] (by decide +kernel) (by decide +kernel)
theorem xh_ISE : (Bundle.ownAtoms0 "ScholarsPress" 146 x_ISE ["java/lang/RuntimeException", "java/lang/Exception"]).filter te_heapW = [te_lu, te_lss, te_us, te_ss] := by decide +kernel
theorem xl_ISE : Cond.classLink "ScholarsPress" 144 x_ISE ∈ tt := tt_mem 1392 (by decide +kernel) (by decide +kernel)
theorem xi_ISE : Cond.initialized x_ISE ∈ tt := tt_mem 273 (by decide +kernel) (by decide +kernel)
def x_IOB : String := "java/lang/IndexOutOfBoundsException"
abbrev ic_IOB : Nat := 50
abbrev iN_IOB : Nat := 48
theorem xf_IOB : Bundle.fit x_IOB = true := by decide +kernel
theorem xo_IOB : ∀ w ∈ (Bundle.ownAtoms0 "ScholarsPress" 50 x_IOB ["java/lang/RuntimeException", "java/lang/Exception"]).filter (fun w => !te_heapW w), w ∈ tt := tt_in [255, 598, 607, 617, 620, 622, 599, 600, 289, 290, 601, 606, 618, 635, 588, 636, 590, 637, 592, 602, 604, 594, 624, 625, 626, 627, 579, 627, 628, 629, 630, 581, 630, 631, 632, 599, 583, 623, 577, 578, 585, 586, 587, 589, 591, 593, 597, 596, 595] (by decide +kernel) (by decide +kernel)
theorem xh_IOB : (Bundle.ownAtoms0 "ScholarsPress" 50 x_IOB ["java/lang/RuntimeException", "java/lang/Exception"]).filter te_heapW = [te_lu, te_lss, te_us, te_ss] := by decide +kernel
theorem xl_IOB : Cond.classLink "ScholarsPress" 48 x_IOB ∈ tt := tt_mem 576 (by decide +kernel) (by decide +kernel)
theorem xi_IOB : Cond.initialized x_IOB ∈ tt := tt_mem 258 (by decide +kernel) (by decide +kernel)
theorem xn : ∀ n ∈ ["java/lang/RuntimeException", "java/lang/Exception"], Bundle.fit n = true := by decide +kernel
