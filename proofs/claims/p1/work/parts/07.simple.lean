theorem z_0 : (0 : Int32).toInt = 0 := by decide
theorem z_1 : (1 : Int32).toInt = 1 := by decide
theorem z_5 : (5 : Int32).toInt = 5 := by decide
theorem z_6 : (6 : Int32).toInt = 6 := by decide
theorem z_7 : (7 : Int32).toInt = 7 := by decide
theorem z_9 : (9 : Int32).toInt = 9 := by decide
theorem z_10 : (10 : Int32).toInt = 10 := by decide
theorem z_11 : (11 : Int32).toInt = 11 := by decide
theorem z_13 : (13 : Int32).toInt = 13 := by decide
theorem z_20 : (20 : Int32).toInt = 20 := by decide
theorem z_41 : (41 : Int32).toInt = 41 := by decide
set_option maxHeartbeats 4000000 in
set_option maxRecDepth 100000 in
/-- count on a fresh object -/
theorem c_SP_count {l : Launch} (hfl : l.flags = flags0) {s0 : State} (hS0 : te_S0 s0) (dC : Nat → ClassId) (dI : Nat → Nat → Nat) (x tp sg st ft hy : Nat) (w : Int32) (sz : Nat) : te_Met l y_SP_count [w_SP_count] ({ frames := 6, cells := 1, slots := 6, locals := 200 }) (va_Pc [.ref x, .int w] (fun U => U.heap.size = sz ∧ tb U ∧ te_Base s0 U ∧ va_P (dC, dI) classes [(x, .inr (0, [.ref tp, .int 0, .int ((-1)), .ref sg, .null, .null, .ref st, .null, .ref ft, .null, .ref hy, .null, .null, .int 0, .null, .null, .null, .null, .null, .null, .int 0]))] U.heap ∧ va_K (dC, dI) classes [] U ∧ va_D (fun _ => True) [(x, .inr (0, [.ref tp, .int 0, .int ((-1)), .ref sg, .null, .null, .ref st, .null, .ref ft, .null, .ref hy, .null, .null, .int 0, .null, .null, .null, .null, .null, .null, .int 0]))])) (te_Qx (va_Qi (fun (r : Int32) (_ : Unit) => r = 0 ∧ (0 ≤ w.toInt ∧ w.toInt ≤ 11)) (fun _ _ => True) (va_A [(x, .inr (0, [.ref tp, .int 0, .int ((-1)), .ref sg, .null, .null, .ref st, .null, .ref ft, .null, .ref hy, .null, .null, .int 0, .null, .null, .null, .null, .null, .null, .int 0]))] sz)) (fun cls => cls = x_IAE ∧ ¬ (0 ≤ w.toInt ∧ w.toInt ≤ 11))) 1 6 (va_A [(x, .inr (0, [.ref tp, .int 0, .int ((-1)), .ref sg, .null, .null, .ref st, .null, .ref ft, .null, .ref hy, .null, .null, .int 0, .null, .null, .null, .null, .null, .null, .int 0]))] sz) := by
  refine te_ofW (cc := b_SP_count) (maxL := 2) (ret := (some .int)) (by decide) rfl ?_
  intro p e s m args below meth c s₁ B hml hv
  obtain ⟨rfl, hsz, hb0, hB0, hP, hK, hD0⟩ := hv
  have hx := B.exec
  have hb := B.bytes
  have hr := B.returns
  have hw0 := atoms_spec (ws := [w_SP_count]) B.pre
  have hts : ∀ wq ∈ tt, wq.before ([.ref x, .int w] : List Value).toArray s = true := hb0.hts
  have hown : s.vm.findClass "ScholarsPress" = some m.cls := findClass_of_methodNamed B.named
  have hlocks := B.notSynchronized
  subst hsz
  have hD := hD0.self (sz := s.heap.size)
  generalize hAe : va_A [(x, .inr (0, [.ref tp, .int 0, .int ((-1)), .ref sg, .null, .null, .ref st, .null, .ref ft, .null, .ref hy, .null, .null, .int 0, .null, .null, .null, .null, .null, .null, .int 0]))] s.heap.size = A at hD ⊢
  have hA : ∀ q : Nat, s.heap.size ≤ q → A q := fun q h => by rw [← hAe]; exact Or.inr h
  have hS : va_S A s.heap s.heap [] := va_S.rf
  have hP : va_P (dC, dI) classes [(x, .inr (0, [.ref tp, .int 0, .int ((-1)), .ref sg, .null, .null, .ref st, .null, .ref ft, .null, .ref hy, .null, .null, .int 0, .null, .null, .null, .null, .null, .null, .int 0]))] s.heap := hP
  have hl := lv_entry ([.ref x, .int w]) (n := 2) (Nat.le_of_ble_eq_true rfl)
  rw [lg_entry_eq]
  generalize (lg_sl ([.ref x, .int w]) ++ List.replicate (2 - (lg_sl ([.ref x, .int w])).length) Slot.unset).toArray = ls at hl ⊢
  have hl : lv_has ls 2 [(0, .ref x), (1, .int w)] := hl
  refine lv_iload_n hx hb d_SP_count_0 rfl (lv_at hl 1 rfl) ?_
  refine lv_if_lt (tgt := 10) hx hb d_SP_count_1 (by decide) (fun c_1 => ?_) (fun c_1 => ?_)
  · exact te_throw hx hb (te_tr hfl B.admits) (own := "ScholarsPress") (cls := x_IAE) (names := ["java/lang/RuntimeException", "java/lang/Exception"]) (iN := iN_IAE) (ic := ic_IAE) hown xf_IAE xn (te_own hS0 hB0 hb0 xo_IAE xh_IAE) (hts _ xl_IAE) (hts _ xi_IAE) (BodyLoose.noHandlers B (hw0 _ List.mem_cons_self)) (hl.1.trans hml.symm) (Nat.le_of_ble_eq_true rfl) (Nat.le_of_ble_eq_true rfl) (Nat.lt_of_sub_pos (by decide)) (Nat.le_of_ble_eq_true rfl) d_SP_count_10 d_SP_count_13 d_SP_count_14 d_SP_count_17 (Nat.le_refl _) (fun t a h => Or.inr ⟨x_IAE, a, ⟨rfl, by simp only [Int32.lt_iff_toInt_lt, Int32.le_iff_toInt_le, z_0, z_1, z_5, z_6, z_7, z_9, z_10, z_11, z_13, z_20, z_41] at c_1 ⊢; omega⟩, rfl, h⟩) hlocks
  · refine lv_iload_n hx hb d_SP_count_4 rfl (lv_at hl 1 rfl) ?_
    refine lv_bipush (v := 11) hx hb d_SP_count_5 (by decide) ?_
    refine lv_icmp_le (tgt := 18) hx hb d_SP_count_7 (by decide) (fun c_2 => ?_) (fun c_2 => ?_)
    · refine lv_iload_n hx hb d_SP_count_18 rfl (lv_at hl 1 rfl) ?_
      refine lv_iconst (v := 2) hx hb d_SP_count_19 (by decide) ?_
      refine lv_icmp_gt (tgt := 40) hx hb d_SP_count_20 (by decide) (fun c_3 => ?_) (fun c_3 => ?_)
      · refine lv_aload_n hx hb d_SP_count_40 rfl (lv_at hl 0 rfl) ?_
        refine va_get (D := (dC, dI)) (ci := 0) (v := .null) (C := "ScholarsPress") (T := F_SP) (N := 21) hx hb hts in_SP hown hK hP 0 rfl rfl 14 (by decide) (hts (.fieldLink "ScholarsPress" 172 "ScholarsPress" "pagesNow" "LScholarsPress$Pages;") k_514) (fun _ h9 => h9) rfl d_SP_count_41 ?_
        refine lv_ifnonnullN hx hb d_SP_count_44 ?_
        refine lv_iconst (v := 0) hx hb d_SP_count_47 (by decide) ?_
        refine lv_goto (tgt := 59) hx hb d_SP_count_48 (by decide) ?_
        refine W.widen (k := 1) (n := 6) (by decide) (by decide) ?_
        exact te_of (W.iret (v := 0) hx hb hr (fun t ht hW => Or.inl ⟨_, rfl, ⟨0, (), rfl, ⟨rfl, by simp only [Int32.lt_iff_toInt_lt, Int32.le_iff_toInt_le, z_0, z_1, z_5, z_6, z_7, z_9, z_10, z_11, z_13, z_20, z_41] at c_1 c_2 c_3 ⊢; omega⟩, trivial⟩, hS.F ht⟩) hS.2.2 d_SP_count_59)
      · refine lv_aload_n hx hb d_SP_count_23 rfl (lv_at hl 0 rfl) ?_
        refine va_get (D := (dC, dI)) (ci := 0) (v := .null) (C := "ScholarsPress") (T := F_SP) (N := 21) hx hb hts in_SP hown hK hP 0 rfl rfl 4 (by decide) (hts (.fieldLink "ScholarsPress" 135 "ScholarsPress" "sourceNow" "LScholarsPress$Source;") k_504) (fun _ h9 => h9) rfl d_SP_count_24 ?_
        refine lv_ifnonnullN hx hb d_SP_count_27 ?_
        refine lv_iconst (v := 0) hx hb d_SP_count_30 (by decide) ?_
        refine lv_goto (tgt := 39) hx hb d_SP_count_31 (by decide) ?_
        refine W.widen (k := 1) (n := 6) (by decide) (by decide) ?_
        exact te_of (W.iret (v := 0) hx hb hr (fun t ht hW => Or.inl ⟨_, rfl, ⟨0, (), rfl, ⟨rfl, by simp only [Int32.lt_iff_toInt_lt, Int32.le_iff_toInt_le, z_0, z_1, z_5, z_6, z_7, z_9, z_10, z_11, z_13, z_20, z_41] at c_1 c_2 c_3 ⊢; omega⟩, trivial⟩, hS.F ht⟩) hS.2.2 d_SP_count_39)
    · exact te_throw hx hb (te_tr hfl B.admits) (own := "ScholarsPress") (cls := x_IAE) (names := ["java/lang/RuntimeException", "java/lang/Exception"]) (iN := iN_IAE) (ic := ic_IAE) hown xf_IAE xn (te_own hS0 hB0 hb0 xo_IAE xh_IAE) (hts _ xl_IAE) (hts _ xi_IAE) (BodyLoose.noHandlers B (hw0 _ List.mem_cons_self)) (hl.1.trans hml.symm) (Nat.le_of_ble_eq_true rfl) (Nat.le_of_ble_eq_true rfl) (Nat.lt_of_sub_pos (by decide)) (Nat.le_of_ble_eq_true rfl) d_SP_count_10 d_SP_count_13 d_SP_count_14 d_SP_count_17 (Nat.le_refl _) (fun t a h => Or.inr ⟨x_IAE, a, ⟨rfl, by simp only [Int32.lt_iff_toInt_lt, Int32.le_iff_toInt_le, z_0, z_1, z_5, z_6, z_7, z_9, z_10, z_11, z_13, z_20, z_41] at c_1 c_2 ⊢; omega⟩, rfl, h⟩) hlocks
set_option maxHeartbeats 4000000 in
set_option maxRecDepth 100000 in
/-- set: there is no SOURCE -/
theorem c_SP_set {l : Launch} (hfl : l.flags = flags0) {s0 : State} (hS0 : te_S0 s0) (dC : Nat → ClassId) (dI : Nat → Nat → Nat) (x tp sg st ft hy : Nat) (n : Int32) (sz : Nat) : te_Met l y_SP_set [w_SP_set] ({ frames := 6, cells := 1, slots := 6, locals := 200 }) (va_Pc [.ref x, .int n] (fun U => U.heap.size = sz ∧ tb U ∧ te_Base s0 U ∧ va_P (dC, dI) classes [(x, .inr (0, [.ref tp, .int 0, .int ((-1)), .ref sg, .null, .null, .ref st, .null, .ref ft, .null, .ref hy, .null, .null, .int 0, .null, .null, .null, .null, .null, .null, .int 0]))] U.heap ∧ va_K (dC, dI) classes [] U ∧ va_D (fun _ => True) [(x, .inr (0, [.ref tp, .int 0, .int ((-1)), .ref sg, .null, .null, .ref st, .null, .ref ft, .null, .ref hy, .null, .null, .int 0, .null, .null, .null, .null, .null, .null, .int 0]))])) (te_Qx (va_Qi (fun (r : Int32) (_ : Unit) => False) (fun _ _ => True) (va_A [(x, .inr (0, [.ref tp, .int 0, .int ((-1)), .ref sg, .null, .null, .ref st, .null, .ref ft, .null, .ref hy, .null, .null, .int 0, .null, .null, .null, .null, .null, .null, .int 0]))] sz)) (fun cls => (cls = x_IAE ∧ ¬ (1 ≤ n.toInt ∧ n.toInt ≤ 9)) ∨ (cls = x_ISE ∧ (1 ≤ n.toInt ∧ n.toInt ≤ 9)))) 1 6 (va_A [(x, .inr (0, [.ref tp, .int 0, .int ((-1)), .ref sg, .null, .null, .ref st, .null, .ref ft, .null, .ref hy, .null, .null, .int 0, .null, .null, .null, .null, .null, .null, .int 0]))] sz) := by
  refine te_ofW (cc := b_SP_set) (maxL := 6) (ret := (some .int)) (by decide) rfl ?_
  intro p e s m args below meth c s₁ B hml hv
  obtain ⟨rfl, hsz, hb0, hB0, hP, hK, hD0⟩ := hv
  have hx := B.exec
  have hb := B.bytes
  have hr := B.returns
  have hw0 := atoms_spec (ws := [w_SP_set]) B.pre
  have hts : ∀ wq ∈ tt, wq.before ([.ref x, .int n] : List Value).toArray s = true := hb0.hts
  have hown : s.vm.findClass "ScholarsPress" = some m.cls := findClass_of_methodNamed B.named
  have hlocks := B.notSynchronized
  subst hsz
  have hD := hD0.self (sz := s.heap.size)
  generalize hAe : va_A [(x, .inr (0, [.ref tp, .int 0, .int ((-1)), .ref sg, .null, .null, .ref st, .null, .ref ft, .null, .ref hy, .null, .null, .int 0, .null, .null, .null, .null, .null, .null, .int 0]))] s.heap.size = A at hD ⊢
  have hA : ∀ q : Nat, s.heap.size ≤ q → A q := fun q h => by rw [← hAe]; exact Or.inr h
  have hS : va_S A s.heap s.heap [] := va_S.rf
  have hP : va_P (dC, dI) classes [(x, .inr (0, [.ref tp, .int 0, .int ((-1)), .ref sg, .null, .null, .ref st, .null, .ref ft, .null, .ref hy, .null, .null, .int 0, .null, .null, .null, .null, .null, .null, .int 0]))] s.heap := hP
  have hl := lv_entry ([.ref x, .int n]) (n := 6) (Nat.le_of_ble_eq_true rfl)
  rw [lg_entry_eq]
  generalize (lg_sl ([.ref x, .int n]) ++ List.replicate (6 - (lg_sl ([.ref x, .int n])).length) Slot.unset).toArray = ls at hl ⊢
  have hl : lv_has ls 6 [(0, .ref x), (1, .int n)] := hl
  refine lv_iload_n hx hb d_SP_set_0 rfl (lv_at hl 1 rfl) ?_
  refine lv_iconst (v := 1) hx hb d_SP_set_1 (by decide) ?_
  refine lv_icmp_lt (tgt := 11) hx hb d_SP_set_2 (by decide) (fun c_1 => ?_) (fun c_1 => ?_)
  · exact te_throw hx hb (te_tr hfl B.admits) (own := "ScholarsPress") (cls := x_IAE) (names := ["java/lang/RuntimeException", "java/lang/Exception"]) (iN := iN_IAE) (ic := ic_IAE) hown xf_IAE xn (te_own hS0 hB0 hb0 xo_IAE xh_IAE) (hts _ xl_IAE) (hts _ xi_IAE) (BodyLoose.noHandlers B (hw0 _ List.mem_cons_self)) (hl.1.trans hml.symm) (Nat.le_of_ble_eq_true rfl) (Nat.le_of_ble_eq_true rfl) (Nat.lt_of_sub_pos (by decide)) (Nat.le_of_ble_eq_true rfl) d_SP_set_11 d_SP_set_14 d_SP_set_15 d_SP_set_18 (Nat.le_refl _) (fun t a h => Or.inr ⟨x_IAE, a, Or.inl ⟨rfl, by simp only [Int32.lt_iff_toInt_lt, Int32.le_iff_toInt_le, z_0, z_1, z_5, z_6, z_7, z_9, z_10, z_11, z_13, z_20, z_41] at c_1 ⊢; omega⟩, rfl, h⟩) hlocks
  · refine lv_iload_n hx hb d_SP_set_5 rfl (lv_at hl 1 rfl) ?_
    refine lv_bipush (v := 9) hx hb d_SP_set_6 (by decide) ?_
    refine lv_icmp_le (tgt := 19) hx hb d_SP_set_8 (by decide) (fun c_2 => ?_) (fun c_2 => ?_)
    · refine lv_aload_n hx hb d_SP_set_19 rfl (lv_at hl 0 rfl) ?_
      refine va_get (D := (dC, dI)) (ci := 0) (v := .null) (C := "ScholarsPress") (T := F_SP) (N := 21) hx hb hts in_SP hown hK hP 0 rfl rfl 4 (by decide) (hts (.fieldLink "ScholarsPress" 135 "ScholarsPress" "sourceNow" "LScholarsPress$Source;") k_504) (fun _ h9 => h9) rfl d_SP_set_20 ?_
      refine lv_ifnonnullN hx hb d_SP_set_23 ?_
      exact te_throw hx hb (te_tr hfl B.admits) (own := "ScholarsPress") (cls := x_ISE) (names := ["java/lang/RuntimeException", "java/lang/Exception"]) (iN := iN_ISE) (ic := ic_ISE) hown xf_ISE xn (te_own hS0 hB0 hb0 xo_ISE xh_ISE) (hts _ xl_ISE) (hts _ xi_ISE) (BodyLoose.noHandlers B (hw0 _ List.mem_cons_self)) (hl.1.trans hml.symm) (Nat.le_of_ble_eq_true rfl) (Nat.le_of_ble_eq_true rfl) (Nat.lt_of_sub_pos (by decide)) (Nat.le_of_ble_eq_true rfl) d_SP_set_26 d_SP_set_29 d_SP_set_30 d_SP_set_33 (Nat.le_refl _) (fun t a h => Or.inr ⟨x_ISE, a, Or.inr (⟨rfl, by simp only [Int32.lt_iff_toInt_lt, Int32.le_iff_toInt_le, z_0, z_1, z_5, z_6, z_7, z_9, z_10, z_11, z_13, z_20, z_41] at c_1 c_2 ⊢; omega⟩), rfl, h⟩) hlocks
    · exact te_throw hx hb (te_tr hfl B.admits) (own := "ScholarsPress") (cls := x_IAE) (names := ["java/lang/RuntimeException", "java/lang/Exception"]) (iN := iN_IAE) (ic := ic_IAE) hown xf_IAE xn (te_own hS0 hB0 hb0 xo_IAE xh_IAE) (hts _ xl_IAE) (hts _ xi_IAE) (BodyLoose.noHandlers B (hw0 _ List.mem_cons_self)) (hl.1.trans hml.symm) (Nat.le_of_ble_eq_true rfl) (Nat.le_of_ble_eq_true rfl) (Nat.lt_of_sub_pos (by decide)) (Nat.le_of_ble_eq_true rfl) d_SP_set_11 d_SP_set_14 d_SP_set_15 d_SP_set_18 (Nat.le_refl _) (fun t a h => Or.inr ⟨x_IAE, a, Or.inl ⟨rfl, by simp only [Int32.lt_iff_toInt_lt, Int32.le_iff_toInt_le, z_0, z_1, z_5, z_6, z_7, z_9, z_10, z_11, z_13, z_20, z_41] at c_1 c_2 ⊢; omega⟩, rfl, h⟩) hlocks
set_option maxHeartbeats 4000000 in
set_option maxRecDepth 100000 in
/-- element: there is no SOURCE -/
theorem c_SP_element {l : Launch} (hfl : l.flags = flags0) {s0 : State} (hS0 : te_S0 s0) (dC : Nat → ClassId) (dI : Nat → Nat → Nat) (x tp sg st ft hy : Nat) (a w : Int32) (sz : Nat) : te_Met l y_SP_element [w_SP_element] ({ frames := 6, cells := 1, slots := 6, locals := 200 }) (va_Pc [.ref x, .int a, .int w] (fun U => U.heap.size = sz ∧ tb U ∧ te_Base s0 U ∧ va_P (dC, dI) classes [(x, .inr (0, [.ref tp, .int 0, .int ((-1)), .ref sg, .null, .null, .ref st, .null, .ref ft, .null, .ref hy, .null, .null, .int 0, .null, .null, .null, .null, .null, .null, .int 0]))] U.heap ∧ va_K (dC, dI) classes [] U ∧ va_D (fun _ => True) [(x, .inr (0, [.ref tp, .int 0, .int ((-1)), .ref sg, .null, .null, .ref st, .null, .ref ft, .null, .ref hy, .null, .null, .int 0, .null, .null, .null, .null, .null, .null, .int 0]))])) (te_Qx (va_Qi (fun (r : Int32) (_ : Unit) => False) (fun _ _ => True) (va_A [(x, .inr (0, [.ref tp, .int 0, .int ((-1)), .ref sg, .null, .null, .ref st, .null, .ref ft, .null, .ref hy, .null, .null, .int 0, .null, .null, .null, .null, .null, .null, .int 0]))] sz)) (fun cls => (cls = x_IAE ∧ ¬ (0 ≤ a.toInt ∧ ((0 ≤ w.toInt ∧ w.toInt ≤ 7) ∨ (20 ≤ w.toInt ∧ w.toInt ≤ 41)))) ∨ (cls = x_ISE ∧ (0 ≤ a.toInt ∧ ((0 ≤ w.toInt ∧ w.toInt ≤ 7) ∨ (20 ≤ w.toInt ∧ w.toInt ≤ 41)))))) 1 6 (va_A [(x, .inr (0, [.ref tp, .int 0, .int ((-1)), .ref sg, .null, .null, .ref st, .null, .ref ft, .null, .ref hy, .null, .null, .int 0, .null, .null, .null, .null, .null, .null, .int 0]))] sz) := by
  refine te_ofW (cc := b_SP_element) (maxL := 4) (ret := (some .int)) (by decide) rfl ?_
  intro p e s m args below meth c s₁ B hml hv
  obtain ⟨rfl, hsz, hb0, hB0, hP, hK, hD0⟩ := hv
  have hx := B.exec
  have hb := B.bytes
  have hr := B.returns
  have hw0 := atoms_spec (ws := [w_SP_element]) B.pre
  have hts : ∀ wq ∈ tt, wq.before ([.ref x, .int a, .int w] : List Value).toArray s = true := hb0.hts
  have hown : s.vm.findClass "ScholarsPress" = some m.cls := findClass_of_methodNamed B.named
  have hlocks := B.notSynchronized
  subst hsz
  have hD := hD0.self (sz := s.heap.size)
  generalize hAe : va_A [(x, .inr (0, [.ref tp, .int 0, .int ((-1)), .ref sg, .null, .null, .ref st, .null, .ref ft, .null, .ref hy, .null, .null, .int 0, .null, .null, .null, .null, .null, .null, .int 0]))] s.heap.size = A at hD ⊢
  have hA : ∀ q : Nat, s.heap.size ≤ q → A q := fun q h => by rw [← hAe]; exact Or.inr h
  have hS : va_S A s.heap s.heap [] := va_S.rf
  have hP : va_P (dC, dI) classes [(x, .inr (0, [.ref tp, .int 0, .int ((-1)), .ref sg, .null, .null, .ref st, .null, .ref ft, .null, .ref hy, .null, .null, .int 0, .null, .null, .null, .null, .null, .null, .int 0]))] s.heap := hP
  have hl := lv_entry ([.ref x, .int a, .int w]) (n := 4) (Nat.le_of_ble_eq_true rfl)
  rw [lg_entry_eq]
  generalize (lg_sl ([.ref x, .int a, .int w]) ++ List.replicate (4 - (lg_sl ([.ref x, .int a, .int w])).length) Slot.unset).toArray = ls at hl ⊢
  have hl : lv_has ls 4 [(0, .ref x), (1, .int a), (2, .int w)] := hl
  refine lv_iload_n hx hb d_SP_element_0 rfl (lv_at hl 2 rfl) ?_
  refine lv_if_lt (tgt := 10) hx hb d_SP_element_1 (by decide) (fun c_1 => ?_) (fun c_1 => ?_)
  · refine lv_iload_n hx hb d_SP_element_10 rfl (lv_at hl 2 rfl) ?_
    refine lv_bipush (v := 20) hx hb d_SP_element_11 (by decide) ?_
    refine lv_icmp_lt (tgt := 26) hx hb d_SP_element_13 (by decide) (fun c_2 => ?_) (fun c_2 => ?_)
    · refine lv_iconst (v := 0) hx hb d_SP_element_26 (by decide) ?_
      refine lv_istore_n (lv' := [(3, .int 0), (0, .ref x), (1, .int a), (2, .int w)]) hx hb d_SP_element_27 rfl hl (by decide) rfl (fun ls hl => ?_)
      refine lv_iload_n hx hb d_SP_element_28 rfl (lv_at hl 0 rfl) ?_
      refine lv_if_eq (tgt := 54) hx hb d_SP_element_29 (by decide) (fun c_3 => ?_) (fun c_3 => ?_)
      · exact te_throw hx hb (te_tr hfl B.admits) (own := "ScholarsPress") (cls := x_IAE) (names := ["java/lang/RuntimeException", "java/lang/Exception"]) (iN := iN_IAE) (ic := ic_IAE) hown xf_IAE xn (te_own hS0 hB0 hb0 xo_IAE xh_IAE) (hts _ xl_IAE) (hts _ xi_IAE) (BodyLoose.noHandlers B (hw0 _ List.mem_cons_self)) (hl.1.trans hml.symm) (Nat.le_of_ble_eq_true rfl) (Nat.le_of_ble_eq_true rfl) (Nat.lt_of_sub_pos (by decide)) (Nat.le_of_ble_eq_true rfl) d_SP_element_54 d_SP_element_57 d_SP_element_58 d_SP_element_61 (Nat.le_refl _) (fun t a h => Or.inr ⟨x_IAE, a, Or.inl ⟨rfl, by simp only [Int32.lt_iff_toInt_lt, Int32.le_iff_toInt_le, z_0, z_1, z_5, z_6, z_7, z_9, z_10, z_11, z_13, z_20, z_41] at c_1 c_2 ⊢; omega⟩, rfl, h⟩) hlocks
      · exact absurd c_3 (by decide)
    · refine lv_iload_n hx hb d_SP_element_16 rfl (lv_at hl 2 rfl) ?_
      refine lv_bipush (v := 41) hx hb d_SP_element_17 (by decide) ?_
      refine lv_icmp_gt (tgt := 26) hx hb d_SP_element_19 (by decide) (fun c_4 => ?_) (fun c_4 => ?_)
      · refine lv_iconst (v := 0) hx hb d_SP_element_26 (by decide) ?_
        refine lv_istore_n (lv' := [(3, .int 0), (0, .ref x), (1, .int a), (2, .int w)]) hx hb d_SP_element_27 rfl hl (by decide) rfl (fun ls hl => ?_)
        refine lv_iload_n hx hb d_SP_element_28 rfl (lv_at hl 0 rfl) ?_
        refine lv_if_eq (tgt := 54) hx hb d_SP_element_29 (by decide) (fun c_5 => ?_) (fun c_5 => ?_)
        · exact te_throw hx hb (te_tr hfl B.admits) (own := "ScholarsPress") (cls := x_IAE) (names := ["java/lang/RuntimeException", "java/lang/Exception"]) (iN := iN_IAE) (ic := ic_IAE) hown xf_IAE xn (te_own hS0 hB0 hb0 xo_IAE xh_IAE) (hts _ xl_IAE) (hts _ xi_IAE) (BodyLoose.noHandlers B (hw0 _ List.mem_cons_self)) (hl.1.trans hml.symm) (Nat.le_of_ble_eq_true rfl) (Nat.le_of_ble_eq_true rfl) (Nat.lt_of_sub_pos (by decide)) (Nat.le_of_ble_eq_true rfl) d_SP_element_54 d_SP_element_57 d_SP_element_58 d_SP_element_61 (Nat.le_refl _) (fun t a h => Or.inr ⟨x_IAE, a, Or.inl ⟨rfl, by simp only [Int32.lt_iff_toInt_lt, Int32.le_iff_toInt_le, z_0, z_1, z_5, z_6, z_7, z_9, z_10, z_11, z_13, z_20, z_41] at c_1 c_2 c_4 ⊢; omega⟩, rfl, h⟩) hlocks
        · exact absurd c_5 (by decide)
      · refine lv_iconst (v := 1) hx hb d_SP_element_22 (by decide) ?_
        refine lv_goto (tgt := 27) hx hb d_SP_element_23 (by decide) ?_
        refine lv_istore_n (lv' := [(3, .int 1), (0, .ref x), (1, .int a), (2, .int w)]) hx hb d_SP_element_27 rfl hl (by decide) rfl (fun ls hl => ?_)
        refine lv_iload_n hx hb d_SP_element_28 rfl (lv_at hl 0 rfl) ?_
        refine lv_if_eq (tgt := 54) hx hb d_SP_element_29 (by decide) (fun c_6 => ?_) (fun c_6 => ?_)
        · exact absurd c_6 (by decide)
        · refine lv_iload_n hx hb d_SP_element_32 rfl (lv_at hl 2 rfl) ?_
          refine lv_if_lt (tgt := 54) hx hb d_SP_element_33 (by decide) (fun c_7 => ?_) (fun c_7 => ?_)
          · exact te_throw hx hb (te_tr hfl B.admits) (own := "ScholarsPress") (cls := x_IAE) (names := ["java/lang/RuntimeException", "java/lang/Exception"]) (iN := iN_IAE) (ic := ic_IAE) hown xf_IAE xn (te_own hS0 hB0 hb0 xo_IAE xh_IAE) (hts _ xl_IAE) (hts _ xi_IAE) (BodyLoose.noHandlers B (hw0 _ List.mem_cons_self)) (hl.1.trans hml.symm) (Nat.le_of_ble_eq_true rfl) (Nat.le_of_ble_eq_true rfl) (Nat.lt_of_sub_pos (by decide)) (Nat.le_of_ble_eq_true rfl) d_SP_element_54 d_SP_element_57 d_SP_element_58 d_SP_element_61 (Nat.le_refl _) (fun t a h => Or.inr ⟨x_IAE, a, Or.inl ⟨rfl, by simp only [Int32.lt_iff_toInt_lt, Int32.le_iff_toInt_le, z_0, z_1, z_5, z_6, z_7, z_9, z_10, z_11, z_13, z_20, z_41] at c_1 c_2 c_4 c_7 ⊢; omega⟩, rfl, h⟩) hlocks
          · refine lv_aload_n hx hb d_SP_element_36 rfl (lv_at hl 1 rfl) ?_
            refine va_get (D := (dC, dI)) (ci := 0) (v := .null) (C := "ScholarsPress") (T := F_SP) (N := 21) hx hb hts in_SP hown hK hP 0 rfl rfl 4 (by decide) (hts (.fieldLink "ScholarsPress" 135 "ScholarsPress" "sourceNow" "LScholarsPress$Source;") k_504) (fun _ h9 => h9) rfl d_SP_element_37 ?_
            refine lv_ifnullN (tgt := 62) hx hb d_SP_element_40 (by decide) ?_
            refine lv_aload_n hx hb d_SP_element_62 rfl (lv_at hl 1 rfl) ?_
            refine va_get (D := (dC, dI)) (ci := 0) (v := .null) (C := "ScholarsPress") (T := F_SP) (N := 21) hx hb hts in_SP hown hK hP 0 rfl rfl 4 (by decide) (hts (.fieldLink "ScholarsPress" 135 "ScholarsPress" "sourceNow" "LScholarsPress$Source;") k_504) (fun _ h9 => h9) rfl d_SP_element_63 ?_
            refine lv_ifnonnullN hx hb d_SP_element_66 ?_
            exact te_throw hx hb (te_tr hfl B.admits) (own := "ScholarsPress") (cls := x_ISE) (names := ["java/lang/RuntimeException", "java/lang/Exception"]) (iN := iN_ISE) (ic := ic_ISE) hown xf_ISE xn (te_own hS0 hB0 hb0 xo_ISE xh_ISE) (hts _ xl_ISE) (hts _ xi_ISE) (BodyLoose.noHandlers B (hw0 _ List.mem_cons_self)) (hl.1.trans hml.symm) (Nat.le_of_ble_eq_true rfl) (Nat.le_of_ble_eq_true rfl) (Nat.lt_of_sub_pos (by decide)) (Nat.le_of_ble_eq_true rfl) d_SP_element_69 d_SP_element_72 d_SP_element_73 d_SP_element_76 (Nat.le_refl _) (fun t a h => Or.inr ⟨x_ISE, a, Or.inr (⟨rfl, by simp only [Int32.lt_iff_toInt_lt, Int32.le_iff_toInt_le, z_0, z_1, z_5, z_6, z_7, z_9, z_10, z_11, z_13, z_20, z_41] at c_1 c_2 c_4 c_7 ⊢; omega⟩), rfl, h⟩) hlocks
  · refine lv_iload_n hx hb d_SP_element_4 rfl (lv_at hl 2 rfl) ?_
    refine lv_bipush (v := 7) hx hb d_SP_element_5 (by decide) ?_
    refine lv_icmp_le (tgt := 22) hx hb d_SP_element_7 (by decide) (fun c_8 => ?_) (fun c_8 => ?_)
    · refine lv_iconst (v := 1) hx hb d_SP_element_22 (by decide) ?_
      refine lv_goto (tgt := 27) hx hb d_SP_element_23 (by decide) ?_
      refine lv_istore_n (lv' := [(3, .int 1), (0, .ref x), (1, .int a), (2, .int w)]) hx hb d_SP_element_27 rfl hl (by decide) rfl (fun ls hl => ?_)
      refine lv_iload_n hx hb d_SP_element_28 rfl (lv_at hl 0 rfl) ?_
      refine lv_if_eq (tgt := 54) hx hb d_SP_element_29 (by decide) (fun c_9 => ?_) (fun c_9 => ?_)
      · exact absurd c_9 (by decide)
      · refine lv_iload_n hx hb d_SP_element_32 rfl (lv_at hl 2 rfl) ?_
        refine lv_if_lt (tgt := 54) hx hb d_SP_element_33 (by decide) (fun c_10 => ?_) (fun c_10 => ?_)
        · exact te_throw hx hb (te_tr hfl B.admits) (own := "ScholarsPress") (cls := x_IAE) (names := ["java/lang/RuntimeException", "java/lang/Exception"]) (iN := iN_IAE) (ic := ic_IAE) hown xf_IAE xn (te_own hS0 hB0 hb0 xo_IAE xh_IAE) (hts _ xl_IAE) (hts _ xi_IAE) (BodyLoose.noHandlers B (hw0 _ List.mem_cons_self)) (hl.1.trans hml.symm) (Nat.le_of_ble_eq_true rfl) (Nat.le_of_ble_eq_true rfl) (Nat.lt_of_sub_pos (by decide)) (Nat.le_of_ble_eq_true rfl) d_SP_element_54 d_SP_element_57 d_SP_element_58 d_SP_element_61 (Nat.le_refl _) (fun t a h => Or.inr ⟨x_IAE, a, Or.inl ⟨rfl, by simp only [Int32.lt_iff_toInt_lt, Int32.le_iff_toInt_le, z_0, z_1, z_5, z_6, z_7, z_9, z_10, z_11, z_13, z_20, z_41] at c_1 c_8 c_10 ⊢; omega⟩, rfl, h⟩) hlocks
        · refine lv_aload_n hx hb d_SP_element_36 rfl (lv_at hl 1 rfl) ?_
          refine va_get (D := (dC, dI)) (ci := 0) (v := .null) (C := "ScholarsPress") (T := F_SP) (N := 21) hx hb hts in_SP hown hK hP 0 rfl rfl 4 (by decide) (hts (.fieldLink "ScholarsPress" 135 "ScholarsPress" "sourceNow" "LScholarsPress$Source;") k_504) (fun _ h9 => h9) rfl d_SP_element_37 ?_
          refine lv_ifnullN (tgt := 62) hx hb d_SP_element_40 (by decide) ?_
          refine lv_aload_n hx hb d_SP_element_62 rfl (lv_at hl 1 rfl) ?_
          refine va_get (D := (dC, dI)) (ci := 0) (v := .null) (C := "ScholarsPress") (T := F_SP) (N := 21) hx hb hts in_SP hown hK hP 0 rfl rfl 4 (by decide) (hts (.fieldLink "ScholarsPress" 135 "ScholarsPress" "sourceNow" "LScholarsPress$Source;") k_504) (fun _ h9 => h9) rfl d_SP_element_63 ?_
          refine lv_ifnonnullN hx hb d_SP_element_66 ?_
          exact te_throw hx hb (te_tr hfl B.admits) (own := "ScholarsPress") (cls := x_ISE) (names := ["java/lang/RuntimeException", "java/lang/Exception"]) (iN := iN_ISE) (ic := ic_ISE) hown xf_ISE xn (te_own hS0 hB0 hb0 xo_ISE xh_ISE) (hts _ xl_ISE) (hts _ xi_ISE) (BodyLoose.noHandlers B (hw0 _ List.mem_cons_self)) (hl.1.trans hml.symm) (Nat.le_of_ble_eq_true rfl) (Nat.le_of_ble_eq_true rfl) (Nat.lt_of_sub_pos (by decide)) (Nat.le_of_ble_eq_true rfl) d_SP_element_69 d_SP_element_72 d_SP_element_73 d_SP_element_76 (Nat.le_refl _) (fun t a h => Or.inr ⟨x_ISE, a, Or.inr (⟨rfl, by simp only [Int32.lt_iff_toInt_lt, Int32.le_iff_toInt_le, z_0, z_1, z_5, z_6, z_7, z_9, z_10, z_11, z_13, z_20, z_41] at c_1 c_8 c_10 ⊢; omega⟩), rfl, h⟩) hlocks
    · refine lv_iload_n hx hb d_SP_element_10 rfl (lv_at hl 2 rfl) ?_
      refine lv_bipush (v := 20) hx hb d_SP_element_11 (by decide) ?_
      refine lv_icmp_lt (tgt := 26) hx hb d_SP_element_13 (by decide) (fun c_11 => ?_) (fun c_11 => ?_)
      · refine lv_iconst (v := 0) hx hb d_SP_element_26 (by decide) ?_
        refine lv_istore_n (lv' := [(3, .int 0), (0, .ref x), (1, .int a), (2, .int w)]) hx hb d_SP_element_27 rfl hl (by decide) rfl (fun ls hl => ?_)
        refine lv_iload_n hx hb d_SP_element_28 rfl (lv_at hl 0 rfl) ?_
        refine lv_if_eq (tgt := 54) hx hb d_SP_element_29 (by decide) (fun c_12 => ?_) (fun c_12 => ?_)
        · exact te_throw hx hb (te_tr hfl B.admits) (own := "ScholarsPress") (cls := x_IAE) (names := ["java/lang/RuntimeException", "java/lang/Exception"]) (iN := iN_IAE) (ic := ic_IAE) hown xf_IAE xn (te_own hS0 hB0 hb0 xo_IAE xh_IAE) (hts _ xl_IAE) (hts _ xi_IAE) (BodyLoose.noHandlers B (hw0 _ List.mem_cons_self)) (hl.1.trans hml.symm) (Nat.le_of_ble_eq_true rfl) (Nat.le_of_ble_eq_true rfl) (Nat.lt_of_sub_pos (by decide)) (Nat.le_of_ble_eq_true rfl) d_SP_element_54 d_SP_element_57 d_SP_element_58 d_SP_element_61 (Nat.le_refl _) (fun t a h => Or.inr ⟨x_IAE, a, Or.inl ⟨rfl, by simp only [Int32.lt_iff_toInt_lt, Int32.le_iff_toInt_le, z_0, z_1, z_5, z_6, z_7, z_9, z_10, z_11, z_13, z_20, z_41] at c_1 c_8 c_11 ⊢; omega⟩, rfl, h⟩) hlocks
        · exact absurd c_12 (by decide)
      · refine lv_iload_n hx hb d_SP_element_16 rfl (lv_at hl 2 rfl) ?_
        refine lv_bipush (v := 41) hx hb d_SP_element_17 (by decide) ?_
        refine lv_icmp_gt (tgt := 26) hx hb d_SP_element_19 (by decide) (fun c_13 => ?_) (fun c_13 => ?_)
        · refine lv_iconst (v := 0) hx hb d_SP_element_26 (by decide) ?_
          refine lv_istore_n (lv' := [(3, .int 0), (0, .ref x), (1, .int a), (2, .int w)]) hx hb d_SP_element_27 rfl hl (by decide) rfl (fun ls hl => ?_)
          refine lv_iload_n hx hb d_SP_element_28 rfl (lv_at hl 0 rfl) ?_
          refine lv_if_eq (tgt := 54) hx hb d_SP_element_29 (by decide) (fun c_14 => ?_) (fun c_14 => ?_)
          · exact te_throw hx hb (te_tr hfl B.admits) (own := "ScholarsPress") (cls := x_IAE) (names := ["java/lang/RuntimeException", "java/lang/Exception"]) (iN := iN_IAE) (ic := ic_IAE) hown xf_IAE xn (te_own hS0 hB0 hb0 xo_IAE xh_IAE) (hts _ xl_IAE) (hts _ xi_IAE) (BodyLoose.noHandlers B (hw0 _ List.mem_cons_self)) (hl.1.trans hml.symm) (Nat.le_of_ble_eq_true rfl) (Nat.le_of_ble_eq_true rfl) (Nat.lt_of_sub_pos (by decide)) (Nat.le_of_ble_eq_true rfl) d_SP_element_54 d_SP_element_57 d_SP_element_58 d_SP_element_61 (Nat.le_refl _) (fun t a h => Or.inr ⟨x_IAE, a, Or.inl ⟨rfl, by simp only [Int32.lt_iff_toInt_lt, Int32.le_iff_toInt_le, z_0, z_1, z_5, z_6, z_7, z_9, z_10, z_11, z_13, z_20, z_41] at c_1 c_8 c_11 c_13 ⊢; omega⟩, rfl, h⟩) hlocks
          · exact absurd c_14 (by decide)
        · refine lv_iconst (v := 1) hx hb d_SP_element_22 (by decide) ?_
          refine lv_goto (tgt := 27) hx hb d_SP_element_23 (by decide) ?_
          refine lv_istore_n (lv' := [(3, .int 1), (0, .ref x), (1, .int a), (2, .int w)]) hx hb d_SP_element_27 rfl hl (by decide) rfl (fun ls hl => ?_)
          refine lv_iload_n hx hb d_SP_element_28 rfl (lv_at hl 0 rfl) ?_
          refine lv_if_eq (tgt := 54) hx hb d_SP_element_29 (by decide) (fun c_15 => ?_) (fun c_15 => ?_)
          · exact absurd c_15 (by decide)
          · refine lv_iload_n hx hb d_SP_element_32 rfl (lv_at hl 2 rfl) ?_
            refine lv_if_lt (tgt := 54) hx hb d_SP_element_33 (by decide) (fun c_16 => ?_) (fun c_16 => ?_)
            · exact te_throw hx hb (te_tr hfl B.admits) (own := "ScholarsPress") (cls := x_IAE) (names := ["java/lang/RuntimeException", "java/lang/Exception"]) (iN := iN_IAE) (ic := ic_IAE) hown xf_IAE xn (te_own hS0 hB0 hb0 xo_IAE xh_IAE) (hts _ xl_IAE) (hts _ xi_IAE) (BodyLoose.noHandlers B (hw0 _ List.mem_cons_self)) (hl.1.trans hml.symm) (Nat.le_of_ble_eq_true rfl) (Nat.le_of_ble_eq_true rfl) (Nat.lt_of_sub_pos (by decide)) (Nat.le_of_ble_eq_true rfl) d_SP_element_54 d_SP_element_57 d_SP_element_58 d_SP_element_61 (Nat.le_refl _) (fun t a h => Or.inr ⟨x_IAE, a, Or.inl ⟨rfl, by simp only [Int32.lt_iff_toInt_lt, Int32.le_iff_toInt_le, z_0, z_1, z_5, z_6, z_7, z_9, z_10, z_11, z_13, z_20, z_41] at c_1 c_8 c_11 c_13 c_16 ⊢; omega⟩, rfl, h⟩) hlocks
            · refine lv_aload_n hx hb d_SP_element_36 rfl (lv_at hl 1 rfl) ?_
              refine va_get (D := (dC, dI)) (ci := 0) (v := .null) (C := "ScholarsPress") (T := F_SP) (N := 21) hx hb hts in_SP hown hK hP 0 rfl rfl 4 (by decide) (hts (.fieldLink "ScholarsPress" 135 "ScholarsPress" "sourceNow" "LScholarsPress$Source;") k_504) (fun _ h9 => h9) rfl d_SP_element_37 ?_
              refine lv_ifnullN (tgt := 62) hx hb d_SP_element_40 (by decide) ?_
              refine lv_aload_n hx hb d_SP_element_62 rfl (lv_at hl 1 rfl) ?_
              refine va_get (D := (dC, dI)) (ci := 0) (v := .null) (C := "ScholarsPress") (T := F_SP) (N := 21) hx hb hts in_SP hown hK hP 0 rfl rfl 4 (by decide) (hts (.fieldLink "ScholarsPress" 135 "ScholarsPress" "sourceNow" "LScholarsPress$Source;") k_504) (fun _ h9 => h9) rfl d_SP_element_63 ?_
              refine lv_ifnonnullN hx hb d_SP_element_66 ?_
              exact te_throw hx hb (te_tr hfl B.admits) (own := "ScholarsPress") (cls := x_ISE) (names := ["java/lang/RuntimeException", "java/lang/Exception"]) (iN := iN_ISE) (ic := ic_ISE) hown xf_ISE xn (te_own hS0 hB0 hb0 xo_ISE xh_ISE) (hts _ xl_ISE) (hts _ xi_ISE) (BodyLoose.noHandlers B (hw0 _ List.mem_cons_self)) (hl.1.trans hml.symm) (Nat.le_of_ble_eq_true rfl) (Nat.le_of_ble_eq_true rfl) (Nat.lt_of_sub_pos (by decide)) (Nat.le_of_ble_eq_true rfl) d_SP_element_69 d_SP_element_72 d_SP_element_73 d_SP_element_76 (Nat.le_refl _) (fun t a h => Or.inr ⟨x_ISE, a, Or.inr (⟨rfl, by simp only [Int32.lt_iff_toInt_lt, Int32.le_iff_toInt_le, z_0, z_1, z_5, z_6, z_7, z_9, z_10, z_11, z_13, z_20, z_41] at c_1 c_8 c_11 c_13 c_16 ⊢; omega⟩), rfl, h⟩) hlocks
set_option maxHeartbeats 4000000 in
set_option maxRecDepth 100000 in
/-- line: nothing is SET -/
theorem c_SP_line {l : Launch} (hfl : l.flags = flags0) {s0 : State} (hS0 : te_S0 s0) (dC : Nat → ClassId) (dI : Nat → Nat → Nat) (x tp sg st ft hy : Nat) (a w : Int32) (sz : Nat) : te_Met l y_SP_line [w_SP_line] ({ frames := 6, cells := 1, slots := 6, locals := 200 }) (va_Pc [.ref x, .int a, .int w] (fun U => U.heap.size = sz ∧ tb U ∧ te_Base s0 U ∧ va_P (dC, dI) classes [(x, .inr (0, [.ref tp, .int 0, .int ((-1)), .ref sg, .null, .null, .ref st, .null, .ref ft, .null, .ref hy, .null, .null, .int 0, .null, .null, .null, .null, .null, .null, .int 0]))] U.heap ∧ va_K (dC, dI) classes [] U ∧ va_D (fun _ => True) [(x, .inr (0, [.ref tp, .int 0, .int ((-1)), .ref sg, .null, .null, .ref st, .null, .ref ft, .null, .ref hy, .null, .null, .int 0, .null, .null, .null, .null, .null, .null, .int 0]))])) (te_Qx (va_Qi (fun (r : Int32) (_ : Unit) => False) (fun _ _ => True) (va_A [(x, .inr (0, [.ref tp, .int 0, .int ((-1)), .ref sg, .null, .null, .ref st, .null, .ref ft, .null, .ref hy, .null, .null, .int 0, .null, .null, .null, .null, .null, .null, .int 0]))] sz)) (fun cls => (cls = x_IAE ∧ ¬ (0 ≤ w.toInt ∧ w.toInt ≤ 6)) ∨ (cls = x_ISE ∧ (0 ≤ w.toInt ∧ w.toInt ≤ 6)))) 1 6 (va_A [(x, .inr (0, [.ref tp, .int 0, .int ((-1)), .ref sg, .null, .null, .ref st, .null, .ref ft, .null, .ref hy, .null, .null, .int 0, .null, .null, .null, .null, .null, .null, .int 0]))] sz) := by
  refine te_ofW (cc := b_SP_line) (maxL := 6) (ret := (some .int)) (by decide) rfl ?_
  intro p e s m args below meth c s₁ B hml hv
  obtain ⟨rfl, hsz, hb0, hB0, hP, hK, hD0⟩ := hv
  have hx := B.exec
  have hb := B.bytes
  have hr := B.returns
  have hw0 := atoms_spec (ws := [w_SP_line]) B.pre
  have hts : ∀ wq ∈ tt, wq.before ([.ref x, .int a, .int w] : List Value).toArray s = true := hb0.hts
  have hown : s.vm.findClass "ScholarsPress" = some m.cls := findClass_of_methodNamed B.named
  have hlocks := B.notSynchronized
  subst hsz
  have hD := hD0.self (sz := s.heap.size)
  generalize hAe : va_A [(x, .inr (0, [.ref tp, .int 0, .int ((-1)), .ref sg, .null, .null, .ref st, .null, .ref ft, .null, .ref hy, .null, .null, .int 0, .null, .null, .null, .null, .null, .null, .int 0]))] s.heap.size = A at hD ⊢
  have hA : ∀ q : Nat, s.heap.size ≤ q → A q := fun q h => by rw [← hAe]; exact Or.inr h
  have hS : va_S A s.heap s.heap [] := va_S.rf
  have hP : va_P (dC, dI) classes [(x, .inr (0, [.ref tp, .int 0, .int ((-1)), .ref sg, .null, .null, .ref st, .null, .ref ft, .null, .ref hy, .null, .null, .int 0, .null, .null, .null, .null, .null, .null, .int 0]))] s.heap := hP
  have hl := lv_entry ([.ref x, .int a, .int w]) (n := 6) (Nat.le_of_ble_eq_true rfl)
  rw [lg_entry_eq]
  generalize (lg_sl ([.ref x, .int a, .int w]) ++ List.replicate (6 - (lg_sl ([.ref x, .int a, .int w])).length) Slot.unset).toArray = ls at hl ⊢
  have hl : lv_has ls 6 [(0, .ref x), (1, .int a), (2, .int w)] := hl
  refine lv_iload_n hx hb d_SP_line_0 rfl (lv_at hl 2 rfl) ?_
  refine lv_if_lt (tgt := 10) hx hb d_SP_line_1 (by decide) (fun c_1 => ?_) (fun c_1 => ?_)
  · exact te_throw hx hb (te_tr hfl B.admits) (own := "ScholarsPress") (cls := x_IAE) (names := ["java/lang/RuntimeException", "java/lang/Exception"]) (iN := iN_IAE) (ic := ic_IAE) hown xf_IAE xn (te_own hS0 hB0 hb0 xo_IAE xh_IAE) (hts _ xl_IAE) (hts _ xi_IAE) (BodyLoose.noHandlers B (hw0 _ List.mem_cons_self)) (hl.1.trans hml.symm) (Nat.le_of_ble_eq_true rfl) (Nat.le_of_ble_eq_true rfl) (Nat.lt_of_sub_pos (by decide)) (Nat.le_of_ble_eq_true rfl) d_SP_line_10 d_SP_line_13 d_SP_line_14 d_SP_line_17 (Nat.le_refl _) (fun t a h => Or.inr ⟨x_IAE, a, Or.inl ⟨rfl, by simp only [Int32.lt_iff_toInt_lt, Int32.le_iff_toInt_le, z_0, z_1, z_5, z_6, z_7, z_9, z_10, z_11, z_13, z_20, z_41] at c_1 ⊢; omega⟩, rfl, h⟩) hlocks
  · refine lv_iload_n hx hb d_SP_line_4 rfl (lv_at hl 2 rfl) ?_
    refine lv_bipush (v := 6) hx hb d_SP_line_5 (by decide) ?_
    refine lv_icmp_le (tgt := 18) hx hb d_SP_line_7 (by decide) (fun c_2 => ?_) (fun c_2 => ?_)
    · refine lv_aload_n hx hb d_SP_line_18 rfl (lv_at hl 0 rfl) ?_
      refine va_get (D := (dC, dI)) (ci := 0) (v := .null) (C := "ScholarsPress") (T := F_SP) (N := 21) hx hb hts in_SP hown hK hP 0 rfl rfl 14 (by decide) (hts (.fieldLink "ScholarsPress" 172 "ScholarsPress" "pagesNow" "LScholarsPress$Pages;") k_514) (fun _ h9 => h9) rfl d_SP_line_19 ?_
      refine lv_ifnonnullN hx hb d_SP_line_22 ?_
      exact te_throw hx hb (te_tr hfl B.admits) (own := "ScholarsPress") (cls := x_ISE) (names := ["java/lang/RuntimeException", "java/lang/Exception"]) (iN := iN_ISE) (ic := ic_ISE) hown xf_ISE xn (te_own hS0 hB0 hb0 xo_ISE xh_ISE) (hts _ xl_ISE) (hts _ xi_ISE) (BodyLoose.noHandlers B (hw0 _ List.mem_cons_self)) (hl.1.trans hml.symm) (Nat.le_of_ble_eq_true rfl) (Nat.le_of_ble_eq_true rfl) (Nat.lt_of_sub_pos (by decide)) (Nat.le_of_ble_eq_true rfl) d_SP_line_25 d_SP_line_28 d_SP_line_29 d_SP_line_32 (Nat.le_refl _) (fun t a h => Or.inr ⟨x_ISE, a, Or.inr (⟨rfl, by simp only [Int32.lt_iff_toInt_lt, Int32.le_iff_toInt_le, z_0, z_1, z_5, z_6, z_7, z_9, z_10, z_11, z_13, z_20, z_41] at c_1 c_2 ⊢; omega⟩), rfl, h⟩) hlocks
    · exact te_throw hx hb (te_tr hfl B.admits) (own := "ScholarsPress") (cls := x_IAE) (names := ["java/lang/RuntimeException", "java/lang/Exception"]) (iN := iN_IAE) (ic := ic_IAE) hown xf_IAE xn (te_own hS0 hB0 hb0 xo_IAE xh_IAE) (hts _ xl_IAE) (hts _ xi_IAE) (BodyLoose.noHandlers B (hw0 _ List.mem_cons_self)) (hl.1.trans hml.symm) (Nat.le_of_ble_eq_true rfl) (Nat.le_of_ble_eq_true rfl) (Nat.lt_of_sub_pos (by decide)) (Nat.le_of_ble_eq_true rfl) d_SP_line_10 d_SP_line_13 d_SP_line_14 d_SP_line_17 (Nat.le_refl _) (fun t a h => Or.inr ⟨x_IAE, a, Or.inl ⟨rfl, by simp only [Int32.lt_iff_toInt_lt, Int32.le_iff_toInt_le, z_0, z_1, z_5, z_6, z_7, z_9, z_10, z_11, z_13, z_20, z_41] at c_1 c_2 ⊢; omega⟩, rfl, h⟩) hlocks
set_option maxHeartbeats 4000000 in
set_option maxRecDepth 100000 in
/-- spot: nothing is SET -/
theorem c_SP_spot {l : Launch} (hfl : l.flags = flags0) {s0 : State} (hS0 : te_S0 s0) (dC : Nat → ClassId) (dI : Nat → Nat → Nat) (x tp sg st ft hy : Nat) (a w : Int32) (sz : Nat) : te_Met l y_SP_spot [w_SP_spot] ({ frames := 6, cells := 1, slots := 6, locals := 200 }) (va_Pc [.ref x, .int a, .int w] (fun U => U.heap.size = sz ∧ tb U ∧ te_Base s0 U ∧ va_P (dC, dI) classes [(x, .inr (0, [.ref tp, .int 0, .int ((-1)), .ref sg, .null, .null, .ref st, .null, .ref ft, .null, .ref hy, .null, .null, .int 0, .null, .null, .null, .null, .null, .null, .int 0]))] U.heap ∧ va_K (dC, dI) classes [] U ∧ va_D (fun _ => True) [(x, .inr (0, [.ref tp, .int 0, .int ((-1)), .ref sg, .null, .null, .ref st, .null, .ref ft, .null, .ref hy, .null, .null, .int 0, .null, .null, .null, .null, .null, .null, .int 0]))])) (te_Qx (va_Ql (fun (r : Int64) (_ : Unit) => False) (fun _ _ => True) (va_A [(x, .inr (0, [.ref tp, .int 0, .int ((-1)), .ref sg, .null, .null, .ref st, .null, .ref ft, .null, .ref hy, .null, .null, .int 0, .null, .null, .null, .null, .null, .null, .int 0]))] sz)) (fun cls => cls = x_ISE ∧ True)) 1 6 (va_A [(x, .inr (0, [.ref tp, .int 0, .int ((-1)), .ref sg, .null, .null, .ref st, .null, .ref ft, .null, .ref hy, .null, .null, .int 0, .null, .null, .null, .null, .null, .null, .int 0]))] sz) := by
  refine te_ofW (cc := b_SP_spot) (maxL := 5) (ret := (some .long)) (by decide) rfl ?_
  intro p e s m args below meth c s₁ B hml hv
  obtain ⟨rfl, hsz, hb0, hB0, hP, hK, hD0⟩ := hv
  have hx := B.exec
  have hb := B.bytes
  have hr := B.returns
  have hw0 := atoms_spec (ws := [w_SP_spot]) B.pre
  have hts : ∀ wq ∈ tt, wq.before ([.ref x, .int a, .int w] : List Value).toArray s = true := hb0.hts
  have hown : s.vm.findClass "ScholarsPress" = some m.cls := findClass_of_methodNamed B.named
  have hlocks := B.notSynchronized
  subst hsz
  have hD := hD0.self (sz := s.heap.size)
  generalize hAe : va_A [(x, .inr (0, [.ref tp, .int 0, .int ((-1)), .ref sg, .null, .null, .ref st, .null, .ref ft, .null, .ref hy, .null, .null, .int 0, .null, .null, .null, .null, .null, .null, .int 0]))] s.heap.size = A at hD ⊢
  have hA : ∀ q : Nat, s.heap.size ≤ q → A q := fun q h => by rw [← hAe]; exact Or.inr h
  have hS : va_S A s.heap s.heap [] := va_S.rf
  have hP : va_P (dC, dI) classes [(x, .inr (0, [.ref tp, .int 0, .int ((-1)), .ref sg, .null, .null, .ref st, .null, .ref ft, .null, .ref hy, .null, .null, .int 0, .null, .null, .null, .null, .null, .null, .int 0]))] s.heap := hP
  have hl := lv_entry ([.ref x, .int a, .int w]) (n := 5) (Nat.le_of_ble_eq_true rfl)
  rw [lg_entry_eq]
  generalize (lg_sl ([.ref x, .int a, .int w]) ++ List.replicate (5 - (lg_sl ([.ref x, .int a, .int w])).length) Slot.unset).toArray = ls at hl ⊢
  have hl : lv_has ls 5 [(0, .ref x), (1, .int a), (2, .int w)] := hl
  refine lv_aload_n hx hb d_SP_spot_0 rfl (lv_at hl 0 rfl) ?_
  refine va_get (D := (dC, dI)) (ci := 0) (v := .null) (C := "ScholarsPress") (T := F_SP) (N := 21) hx hb hts in_SP hown hK hP 0 rfl rfl 14 (by decide) (hts (.fieldLink "ScholarsPress" 172 "ScholarsPress" "pagesNow" "LScholarsPress$Pages;") k_514) (fun _ h9 => h9) rfl d_SP_spot_1 ?_
  refine lv_ifnonnullN hx hb d_SP_spot_4 ?_
  exact te_throw hx hb (te_tr hfl B.admits) (own := "ScholarsPress") (cls := x_ISE) (names := ["java/lang/RuntimeException", "java/lang/Exception"]) (iN := iN_ISE) (ic := ic_ISE) hown xf_ISE xn (te_own hS0 hB0 hb0 xo_ISE xh_ISE) (hts _ xl_ISE) (hts _ xi_ISE) (BodyLoose.noHandlers B (hw0 _ List.mem_cons_self)) (hl.1.trans hml.symm) (Nat.le_of_ble_eq_true rfl) (Nat.le_of_ble_eq_true rfl) (Nat.lt_of_sub_pos (by decide)) (Nat.le_of_ble_eq_true rfl) d_SP_spot_7 d_SP_spot_10 d_SP_spot_11 d_SP_spot_14 (Nat.le_refl _) (fun t a h => Or.inr ⟨x_ISE, a, ⟨rfl, trivial⟩, rfl, h⟩) hlocks
set_option maxHeartbeats 4000000 in
set_option maxRecDepth 100000 in
/-- paragraph: nothing is SET -/
theorem c_SP_paragraph {l : Launch} (hfl : l.flags = flags0) {s0 : State} (hS0 : te_S0 s0) (dC : Nat → ClassId) (dI : Nat → Nat → Nat) (x tp sg st ft hy : Nat) (a w : Int32) (sz : Nat) : te_Met l y_SP_paragraph [w_SP_paragraph] ({ frames := 6, cells := 1, slots := 6, locals := 200 }) (va_Pc [.ref x, .int a, .int w] (fun U => U.heap.size = sz ∧ tb U ∧ te_Base s0 U ∧ va_P (dC, dI) classes [(x, .inr (0, [.ref tp, .int 0, .int ((-1)), .ref sg, .null, .null, .ref st, .null, .ref ft, .null, .ref hy, .null, .null, .int 0, .null, .null, .null, .null, .null, .null, .int 0]))] U.heap ∧ va_K (dC, dI) classes [] U ∧ va_D (fun _ => True) [(x, .inr (0, [.ref tp, .int 0, .int ((-1)), .ref sg, .null, .null, .ref st, .null, .ref ft, .null, .ref hy, .null, .null, .int 0, .null, .null, .null, .null, .null, .null, .int 0]))])) (te_Qx (va_Ql (fun (r : Int64) (_ : Unit) => False) (fun _ _ => True) (va_A [(x, .inr (0, [.ref tp, .int 0, .int ((-1)), .ref sg, .null, .null, .ref st, .null, .ref ft, .null, .ref hy, .null, .null, .int 0, .null, .null, .null, .null, .null, .null, .int 0]))] sz)) (fun cls => (cls = x_IAE ∧ ¬ (0 ≤ w.toInt ∧ w.toInt ≤ 6)) ∨ (cls = x_ISE ∧ (0 ≤ w.toInt ∧ w.toInt ≤ 6)))) 1 6 (va_A [(x, .inr (0, [.ref tp, .int 0, .int ((-1)), .ref sg, .null, .null, .ref st, .null, .ref ft, .null, .ref hy, .null, .null, .int 0, .null, .null, .null, .null, .null, .null, .int 0]))] sz) := by
  refine te_ofW (cc := b_SP_paragraph) (maxL := 4) (ret := (some .long)) (by decide) rfl ?_
  intro p e s m args below meth c s₁ B hml hv
  obtain ⟨rfl, hsz, hb0, hB0, hP, hK, hD0⟩ := hv
  have hx := B.exec
  have hb := B.bytes
  have hr := B.returns
  have hw0 := atoms_spec (ws := [w_SP_paragraph]) B.pre
  have hts : ∀ wq ∈ tt, wq.before ([.ref x, .int a, .int w] : List Value).toArray s = true := hb0.hts
  have hown : s.vm.findClass "ScholarsPress" = some m.cls := findClass_of_methodNamed B.named
  have hlocks := B.notSynchronized
  subst hsz
  have hD := hD0.self (sz := s.heap.size)
  generalize hAe : va_A [(x, .inr (0, [.ref tp, .int 0, .int ((-1)), .ref sg, .null, .null, .ref st, .null, .ref ft, .null, .ref hy, .null, .null, .int 0, .null, .null, .null, .null, .null, .null, .int 0]))] s.heap.size = A at hD ⊢
  have hA : ∀ q : Nat, s.heap.size ≤ q → A q := fun q h => by rw [← hAe]; exact Or.inr h
  have hS : va_S A s.heap s.heap [] := va_S.rf
  have hP : va_P (dC, dI) classes [(x, .inr (0, [.ref tp, .int 0, .int ((-1)), .ref sg, .null, .null, .ref st, .null, .ref ft, .null, .ref hy, .null, .null, .int 0, .null, .null, .null, .null, .null, .null, .int 0]))] s.heap := hP
  have hl := lv_entry ([.ref x, .int a, .int w]) (n := 4) (Nat.le_of_ble_eq_true rfl)
  rw [lg_entry_eq]
  generalize (lg_sl ([.ref x, .int a, .int w]) ++ List.replicate (4 - (lg_sl ([.ref x, .int a, .int w])).length) Slot.unset).toArray = ls at hl ⊢
  have hl : lv_has ls 4 [(0, .ref x), (1, .int a), (2, .int w)] := hl
  refine lv_iload_n hx hb d_SP_paragraph_0 rfl (lv_at hl 2 rfl) ?_
  refine lv_if_lt (tgt := 10) hx hb d_SP_paragraph_1 (by decide) (fun c_1 => ?_) (fun c_1 => ?_)
  · exact te_throw hx hb (te_tr hfl B.admits) (own := "ScholarsPress") (cls := x_IAE) (names := ["java/lang/RuntimeException", "java/lang/Exception"]) (iN := iN_IAE) (ic := ic_IAE) hown xf_IAE xn (te_own hS0 hB0 hb0 xo_IAE xh_IAE) (hts _ xl_IAE) (hts _ xi_IAE) (BodyLoose.noHandlers B (hw0 _ List.mem_cons_self)) (hl.1.trans hml.symm) (Nat.le_of_ble_eq_true rfl) (Nat.le_of_ble_eq_true rfl) (Nat.lt_of_sub_pos (by decide)) (Nat.le_of_ble_eq_true rfl) d_SP_paragraph_10 d_SP_paragraph_13 d_SP_paragraph_14 d_SP_paragraph_17 (Nat.le_refl _) (fun t a h => Or.inr ⟨x_IAE, a, Or.inl ⟨rfl, by simp only [Int32.lt_iff_toInt_lt, Int32.le_iff_toInt_le, z_0, z_1, z_5, z_6, z_7, z_9, z_10, z_11, z_13, z_20, z_41] at c_1 ⊢; omega⟩, rfl, h⟩) hlocks
  · refine lv_iload_n hx hb d_SP_paragraph_4 rfl (lv_at hl 2 rfl) ?_
    refine lv_bipush (v := 6) hx hb d_SP_paragraph_5 (by decide) ?_
    refine lv_icmp_le (tgt := 18) hx hb d_SP_paragraph_7 (by decide) (fun c_2 => ?_) (fun c_2 => ?_)
    · refine lv_aload_n hx hb d_SP_paragraph_18 rfl (lv_at hl 0 rfl) ?_
      refine va_get (D := (dC, dI)) (ci := 0) (v := .null) (C := "ScholarsPress") (T := F_SP) (N := 21) hx hb hts in_SP hown hK hP 0 rfl rfl 14 (by decide) (hts (.fieldLink "ScholarsPress" 172 "ScholarsPress" "pagesNow" "LScholarsPress$Pages;") k_514) (fun _ h9 => h9) rfl d_SP_paragraph_19 ?_
      refine lv_ifnonnullN hx hb d_SP_paragraph_22 ?_
      exact te_throw hx hb (te_tr hfl B.admits) (own := "ScholarsPress") (cls := x_ISE) (names := ["java/lang/RuntimeException", "java/lang/Exception"]) (iN := iN_ISE) (ic := ic_ISE) hown xf_ISE xn (te_own hS0 hB0 hb0 xo_ISE xh_ISE) (hts _ xl_ISE) (hts _ xi_ISE) (BodyLoose.noHandlers B (hw0 _ List.mem_cons_self)) (hl.1.trans hml.symm) (Nat.le_of_ble_eq_true rfl) (Nat.le_of_ble_eq_true rfl) (Nat.lt_of_sub_pos (by decide)) (Nat.le_of_ble_eq_true rfl) d_SP_paragraph_25 d_SP_paragraph_28 d_SP_paragraph_29 d_SP_paragraph_32 (Nat.le_refl _) (fun t a h => Or.inr ⟨x_ISE, a, Or.inr (⟨rfl, by simp only [Int32.lt_iff_toInt_lt, Int32.le_iff_toInt_le, z_0, z_1, z_5, z_6, z_7, z_9, z_10, z_11, z_13, z_20, z_41] at c_1 c_2 ⊢; omega⟩), rfl, h⟩) hlocks
    · exact te_throw hx hb (te_tr hfl B.admits) (own := "ScholarsPress") (cls := x_IAE) (names := ["java/lang/RuntimeException", "java/lang/Exception"]) (iN := iN_IAE) (ic := ic_IAE) hown xf_IAE xn (te_own hS0 hB0 hb0 xo_IAE xh_IAE) (hts _ xl_IAE) (hts _ xi_IAE) (BodyLoose.noHandlers B (hw0 _ List.mem_cons_self)) (hl.1.trans hml.symm) (Nat.le_of_ble_eq_true rfl) (Nat.le_of_ble_eq_true rfl) (Nat.lt_of_sub_pos (by decide)) (Nat.le_of_ble_eq_true rfl) d_SP_paragraph_10 d_SP_paragraph_13 d_SP_paragraph_14 d_SP_paragraph_17 (Nat.le_refl _) (fun t a h => Or.inr ⟨x_IAE, a, Or.inl ⟨rfl, by simp only [Int32.lt_iff_toInt_lt, Int32.le_iff_toInt_le, z_0, z_1, z_5, z_6, z_7, z_9, z_10, z_11, z_13, z_20, z_41] at c_1 c_2 ⊢; omega⟩, rfl, h⟩) hlocks
set_option maxHeartbeats 4000000 in
set_option maxRecDepth 100000 in
/-- judge: nothing is SET -/
theorem c_SP_judge {l : Launch} (hfl : l.flags = flags0) {s0 : State} (hS0 : te_S0 s0) (dC : Nat → ClassId) (dI : Nat → Nat → Nat) (x tp sg st ft hy : Nat) (a : Int32) (sz : Nat) : te_Met l y_SP_judge [w_SP_judge] ({ frames := 6, cells := 1, slots := 6, locals := 200 }) (va_Pc [.ref x, .int a] (fun U => U.heap.size = sz ∧ tb U ∧ te_Base s0 U ∧ va_P (dC, dI) classes [(x, .inr (0, [.ref tp, .int 0, .int ((-1)), .ref sg, .null, .null, .ref st, .null, .ref ft, .null, .ref hy, .null, .null, .int 0, .null, .null, .null, .null, .null, .null, .int 0]))] U.heap ∧ va_K (dC, dI) classes [] U ∧ va_D (fun _ => True) [(x, .inr (0, [.ref tp, .int 0, .int ((-1)), .ref sg, .null, .null, .ref st, .null, .ref ft, .null, .ref hy, .null, .null, .int 0, .null, .null, .null, .null, .null, .null, .int 0]))])) (te_Qx (va_Ql (fun (r : Int64) (_ : Unit) => False) (fun _ _ => True) (va_A [(x, .inr (0, [.ref tp, .int 0, .int ((-1)), .ref sg, .null, .null, .ref st, .null, .ref ft, .null, .ref hy, .null, .null, .int 0, .null, .null, .null, .null, .null, .null, .int 0]))] sz)) (fun cls => cls = x_ISE ∧ True)) 1 6 (va_A [(x, .inr (0, [.ref tp, .int 0, .int ((-1)), .ref sg, .null, .null, .ref st, .null, .ref ft, .null, .ref hy, .null, .null, .int 0, .null, .null, .null, .null, .null, .null, .int 0]))] sz) := by
  refine te_ofW (cc := b_SP_judge) (maxL := 3) (ret := (some .long)) (by decide) rfl ?_
  intro p e s m args below meth c s₁ B hml hv
  obtain ⟨rfl, hsz, hb0, hB0, hP, hK, hD0⟩ := hv
  have hx := B.exec
  have hb := B.bytes
  have hr := B.returns
  have hw0 := atoms_spec (ws := [w_SP_judge]) B.pre
  have hts : ∀ wq ∈ tt, wq.before ([.ref x, .int a] : List Value).toArray s = true := hb0.hts
  have hown : s.vm.findClass "ScholarsPress" = some m.cls := findClass_of_methodNamed B.named
  have hlocks := B.notSynchronized
  subst hsz
  have hD := hD0.self (sz := s.heap.size)
  generalize hAe : va_A [(x, .inr (0, [.ref tp, .int 0, .int ((-1)), .ref sg, .null, .null, .ref st, .null, .ref ft, .null, .ref hy, .null, .null, .int 0, .null, .null, .null, .null, .null, .null, .int 0]))] s.heap.size = A at hD ⊢
  have hA : ∀ q : Nat, s.heap.size ≤ q → A q := fun q h => by rw [← hAe]; exact Or.inr h
  have hS : va_S A s.heap s.heap [] := va_S.rf
  have hP : va_P (dC, dI) classes [(x, .inr (0, [.ref tp, .int 0, .int ((-1)), .ref sg, .null, .null, .ref st, .null, .ref ft, .null, .ref hy, .null, .null, .int 0, .null, .null, .null, .null, .null, .null, .int 0]))] s.heap := hP
  have hl := lv_entry ([.ref x, .int a]) (n := 3) (Nat.le_of_ble_eq_true rfl)
  rw [lg_entry_eq]
  generalize (lg_sl ([.ref x, .int a]) ++ List.replicate (3 - (lg_sl ([.ref x, .int a])).length) Slot.unset).toArray = ls at hl ⊢
  have hl : lv_has ls 3 [(0, .ref x), (1, .int a)] := hl
  refine lv_aload_n hx hb d_SP_judge_0 rfl (lv_at hl 0 rfl) ?_
  refine va_get (D := (dC, dI)) (ci := 0) (v := .null) (C := "ScholarsPress") (T := F_SP) (N := 21) hx hb hts in_SP hown hK hP 0 rfl rfl 14 (by decide) (hts (.fieldLink "ScholarsPress" 172 "ScholarsPress" "pagesNow" "LScholarsPress$Pages;") k_514) (fun _ h9 => h9) rfl d_SP_judge_1 ?_
  refine lv_ifnonnullN hx hb d_SP_judge_4 ?_
  exact te_throw hx hb (te_tr hfl B.admits) (own := "ScholarsPress") (cls := x_ISE) (names := ["java/lang/RuntimeException", "java/lang/Exception"]) (iN := iN_ISE) (ic := ic_ISE) hown xf_ISE xn (te_own hS0 hB0 hb0 xo_ISE xh_ISE) (hts _ xl_ISE) (hts _ xi_ISE) (BodyLoose.noHandlers B (hw0 _ List.mem_cons_self)) (hl.1.trans hml.symm) (Nat.le_of_ble_eq_true rfl) (Nat.le_of_ble_eq_true rfl) (Nat.lt_of_sub_pos (by decide)) (Nat.le_of_ble_eq_true rfl) d_SP_judge_7 d_SP_judge_10 d_SP_judge_11 d_SP_judge_14 (Nat.le_refl _) (fun t a h => Or.inr ⟨x_ISE, a, ⟨rfl, trivial⟩, rfl, h⟩) hlocks
set_option maxHeartbeats 4000000 in
set_option maxRecDepth 100000 in
/-- where: nothing is SET -/
theorem c_SP_where {l : Launch} (hfl : l.flags = flags0) {s0 : State} (hS0 : te_S0 s0) (dC : Nat → ClassId) (dI : Nat → Nat → Nat) (x tp sg st ft hy : Nat) (w : Int32) (sz : Nat) : te_Met l y_SP_where [w_SP_where] ({ frames := 6, cells := 1, slots := 6, locals := 200 }) (va_Pc [.ref x, .int w] (fun U => U.heap.size = sz ∧ tb U ∧ te_Base s0 U ∧ va_P (dC, dI) classes [(x, .inr (0, [.ref tp, .int 0, .int ((-1)), .ref sg, .null, .null, .ref st, .null, .ref ft, .null, .ref hy, .null, .null, .int 0, .null, .null, .null, .null, .null, .null, .int 0]))] U.heap ∧ va_K (dC, dI) classes [] U ∧ va_D (fun _ => True) [(x, .inr (0, [.ref tp, .int 0, .int ((-1)), .ref sg, .null, .null, .ref st, .null, .ref ft, .null, .ref hy, .null, .null, .int 0, .null, .null, .null, .null, .null, .null, .int 0]))])) (te_Qx (va_Qi (fun (r : Int32) (_ : Unit) => False) (fun _ _ => True) (va_A [(x, .inr (0, [.ref tp, .int 0, .int ((-1)), .ref sg, .null, .null, .ref st, .null, .ref ft, .null, .ref hy, .null, .null, .int 0, .null, .null, .null, .null, .null, .null, .int 0]))] sz)) (fun cls => (cls = x_IAE ∧ ¬ (0 ≤ w.toInt ∧ w.toInt ≤ 5)) ∨ (cls = x_ISE ∧ (0 ≤ w.toInt ∧ w.toInt ≤ 5)))) 1 6 (va_A [(x, .inr (0, [.ref tp, .int 0, .int ((-1)), .ref sg, .null, .null, .ref st, .null, .ref ft, .null, .ref hy, .null, .null, .int 0, .null, .null, .null, .null, .null, .null, .int 0]))] sz) := by
  refine te_ofW (cc := b_SP_where) (maxL := 4) (ret := (some .int)) (by decide) rfl ?_
  intro p e s m args below meth c s₁ B hml hv
  obtain ⟨rfl, hsz, hb0, hB0, hP, hK, hD0⟩ := hv
  have hx := B.exec
  have hb := B.bytes
  have hr := B.returns
  have hw0 := atoms_spec (ws := [w_SP_where]) B.pre
  have hts : ∀ wq ∈ tt, wq.before ([.ref x, .int w] : List Value).toArray s = true := hb0.hts
  have hown : s.vm.findClass "ScholarsPress" = some m.cls := findClass_of_methodNamed B.named
  have hlocks := B.notSynchronized
  subst hsz
  have hD := hD0.self (sz := s.heap.size)
  generalize hAe : va_A [(x, .inr (0, [.ref tp, .int 0, .int ((-1)), .ref sg, .null, .null, .ref st, .null, .ref ft, .null, .ref hy, .null, .null, .int 0, .null, .null, .null, .null, .null, .null, .int 0]))] s.heap.size = A at hD ⊢
  have hA : ∀ q : Nat, s.heap.size ≤ q → A q := fun q h => by rw [← hAe]; exact Or.inr h
  have hS : va_S A s.heap s.heap [] := va_S.rf
  have hP : va_P (dC, dI) classes [(x, .inr (0, [.ref tp, .int 0, .int ((-1)), .ref sg, .null, .null, .ref st, .null, .ref ft, .null, .ref hy, .null, .null, .int 0, .null, .null, .null, .null, .null, .null, .int 0]))] s.heap := hP
  have hl := lv_entry ([.ref x, .int w]) (n := 4) (Nat.le_of_ble_eq_true rfl)
  rw [lg_entry_eq]
  generalize (lg_sl ([.ref x, .int w]) ++ List.replicate (4 - (lg_sl ([.ref x, .int w])).length) Slot.unset).toArray = ls at hl ⊢
  have hl : lv_has ls 4 [(0, .ref x), (1, .int w)] := hl
  refine lv_iload_n hx hb d_SP_where_0 rfl (lv_at hl 1 rfl) ?_
  refine lv_if_lt (tgt := 9) hx hb d_SP_where_1 (by decide) (fun c_1 => ?_) (fun c_1 => ?_)
  · exact te_throw hx hb (te_tr hfl B.admits) (own := "ScholarsPress") (cls := x_IAE) (names := ["java/lang/RuntimeException", "java/lang/Exception"]) (iN := iN_IAE) (ic := ic_IAE) hown xf_IAE xn (te_own hS0 hB0 hb0 xo_IAE xh_IAE) (hts _ xl_IAE) (hts _ xi_IAE) (BodyLoose.noHandlers B (hw0 _ List.mem_cons_self)) (hl.1.trans hml.symm) (Nat.le_of_ble_eq_true rfl) (Nat.le_of_ble_eq_true rfl) (Nat.lt_of_sub_pos (by decide)) (Nat.le_of_ble_eq_true rfl) d_SP_where_9 d_SP_where_12 d_SP_where_13 d_SP_where_16 (Nat.le_refl _) (fun t a h => Or.inr ⟨x_IAE, a, Or.inl ⟨rfl, by simp only [Int32.lt_iff_toInt_lt, Int32.le_iff_toInt_le, z_0, z_1, z_5, z_6, z_7, z_9, z_10, z_11, z_13, z_20, z_41] at c_1 ⊢; omega⟩, rfl, h⟩) hlocks
  · refine lv_iload_n hx hb d_SP_where_4 rfl (lv_at hl 1 rfl) ?_
    refine lv_iconst (v := 5) hx hb d_SP_where_5 (by decide) ?_
    refine lv_icmp_le (tgt := 17) hx hb d_SP_where_6 (by decide) (fun c_2 => ?_) (fun c_2 => ?_)
    · refine lv_aload_n hx hb d_SP_where_17 rfl (lv_at hl 0 rfl) ?_
      refine va_get (D := (dC, dI)) (ci := 0) (v := .null) (C := "ScholarsPress") (T := F_SP) (N := 21) hx hb hts in_SP hown hK hP 0 rfl rfl 14 (by decide) (hts (.fieldLink "ScholarsPress" 172 "ScholarsPress" "pagesNow" "LScholarsPress$Pages;") k_514) (fun _ h9 => h9) rfl d_SP_where_18 ?_
      refine lv_ifnonnullN hx hb d_SP_where_21 ?_
      exact te_throw hx hb (te_tr hfl B.admits) (own := "ScholarsPress") (cls := x_ISE) (names := ["java/lang/RuntimeException", "java/lang/Exception"]) (iN := iN_ISE) (ic := ic_ISE) hown xf_ISE xn (te_own hS0 hB0 hb0 xo_ISE xh_ISE) (hts _ xl_ISE) (hts _ xi_ISE) (BodyLoose.noHandlers B (hw0 _ List.mem_cons_self)) (hl.1.trans hml.symm) (Nat.le_of_ble_eq_true rfl) (Nat.le_of_ble_eq_true rfl) (Nat.lt_of_sub_pos (by decide)) (Nat.le_of_ble_eq_true rfl) d_SP_where_24 d_SP_where_27 d_SP_where_28 d_SP_where_31 (Nat.le_refl _) (fun t a h => Or.inr ⟨x_ISE, a, Or.inr (⟨rfl, by simp only [Int32.lt_iff_toInt_lt, Int32.le_iff_toInt_le, z_0, z_1, z_5, z_6, z_7, z_9, z_10, z_11, z_13, z_20, z_41] at c_1 c_2 ⊢; omega⟩), rfl, h⟩) hlocks
    · exact te_throw hx hb (te_tr hfl B.admits) (own := "ScholarsPress") (cls := x_IAE) (names := ["java/lang/RuntimeException", "java/lang/Exception"]) (iN := iN_IAE) (ic := ic_IAE) hown xf_IAE xn (te_own hS0 hB0 hb0 xo_IAE xh_IAE) (hts _ xl_IAE) (hts _ xi_IAE) (BodyLoose.noHandlers B (hw0 _ List.mem_cons_self)) (hl.1.trans hml.symm) (Nat.le_of_ble_eq_true rfl) (Nat.le_of_ble_eq_true rfl) (Nat.lt_of_sub_pos (by decide)) (Nat.le_of_ble_eq_true rfl) d_SP_where_9 d_SP_where_12 d_SP_where_13 d_SP_where_16 (Nat.le_refl _) (fun t a h => Or.inr ⟨x_IAE, a, Or.inl ⟨rfl, by simp only [Int32.lt_iff_toInt_lt, Int32.le_iff_toInt_le, z_0, z_1, z_5, z_6, z_7, z_9, z_10, z_11, z_13, z_20, z_41] at c_1 c_2 ⊢; omega⟩, rfl, h⟩) hlocks
set_option maxHeartbeats 4000000 in
set_option maxRecDepth 100000 in
/-- note: nothing is SET -/
theorem c_SP_note {l : Launch} (hfl : l.flags = flags0) {s0 : State} (hS0 : te_S0 s0) (dC : Nat → ClassId) (dI : Nat → Nat → Nat) (x tp sg st ft hy : Nat) (a w : Int32) (sz : Nat) : te_Met l y_SP_note [w_SP_note] ({ frames := 6, cells := 1, slots := 6, locals := 200 }) (va_Pc [.ref x, .int a, .int w] (fun U => U.heap.size = sz ∧ tb U ∧ te_Base s0 U ∧ va_P (dC, dI) classes [(x, .inr (0, [.ref tp, .int 0, .int ((-1)), .ref sg, .null, .null, .ref st, .null, .ref ft, .null, .ref hy, .null, .null, .int 0, .null, .null, .null, .null, .null, .null, .int 0]))] U.heap ∧ va_K (dC, dI) classes [] U ∧ va_D (fun _ => True) [(x, .inr (0, [.ref tp, .int 0, .int ((-1)), .ref sg, .null, .null, .ref st, .null, .ref ft, .null, .ref hy, .null, .null, .int 0, .null, .null, .null, .null, .null, .null, .int 0]))])) (te_Qx (va_Qi (fun (r : Int32) (_ : Unit) => False) (fun _ _ => True) (va_A [(x, .inr (0, [.ref tp, .int 0, .int ((-1)), .ref sg, .null, .null, .ref st, .null, .ref ft, .null, .ref hy, .null, .null, .int 0, .null, .null, .null, .null, .null, .null, .int 0]))] sz)) (fun cls => (cls = x_IAE ∧ ¬ ((0 ≤ w.toInt ∧ w.toInt ≤ 5) ∨ (10 ≤ w.toInt ∧ w.toInt ≤ 13))) ∨ (cls = x_ISE ∧ ((0 ≤ w.toInt ∧ w.toInt ≤ 5) ∨ (10 ≤ w.toInt ∧ w.toInt ≤ 13))))) 1 6 (va_A [(x, .inr (0, [.ref tp, .int 0, .int ((-1)), .ref sg, .null, .null, .ref st, .null, .ref ft, .null, .ref hy, .null, .null, .int 0, .null, .null, .null, .null, .null, .null, .int 0]))] sz) := by
  refine te_ofW (cc := b_SP_note) (maxL := 4) (ret := (some .int)) (by decide) rfl ?_
  intro p e s m args below meth c s₁ B hml hv
  obtain ⟨rfl, hsz, hb0, hB0, hP, hK, hD0⟩ := hv
  have hx := B.exec
  have hb := B.bytes
  have hr := B.returns
  have hw0 := atoms_spec (ws := [w_SP_note]) B.pre
  have hts : ∀ wq ∈ tt, wq.before ([.ref x, .int a, .int w] : List Value).toArray s = true := hb0.hts
  have hown : s.vm.findClass "ScholarsPress" = some m.cls := findClass_of_methodNamed B.named
  have hlocks := B.notSynchronized
  subst hsz
  have hD := hD0.self (sz := s.heap.size)
  generalize hAe : va_A [(x, .inr (0, [.ref tp, .int 0, .int ((-1)), .ref sg, .null, .null, .ref st, .null, .ref ft, .null, .ref hy, .null, .null, .int 0, .null, .null, .null, .null, .null, .null, .int 0]))] s.heap.size = A at hD ⊢
  have hA : ∀ q : Nat, s.heap.size ≤ q → A q := fun q h => by rw [← hAe]; exact Or.inr h
  have hS : va_S A s.heap s.heap [] := va_S.rf
  have hP : va_P (dC, dI) classes [(x, .inr (0, [.ref tp, .int 0, .int ((-1)), .ref sg, .null, .null, .ref st, .null, .ref ft, .null, .ref hy, .null, .null, .int 0, .null, .null, .null, .null, .null, .null, .int 0]))] s.heap := hP
  have hl := lv_entry ([.ref x, .int a, .int w]) (n := 4) (Nat.le_of_ble_eq_true rfl)
  rw [lg_entry_eq]
  generalize (lg_sl ([.ref x, .int a, .int w]) ++ List.replicate (4 - (lg_sl ([.ref x, .int a, .int w])).length) Slot.unset).toArray = ls at hl ⊢
  have hl : lv_has ls 4 [(0, .ref x), (1, .int a), (2, .int w)] := hl
  refine lv_iload_n hx hb d_SP_note_0 rfl (lv_at hl 2 rfl) ?_
  refine lv_if_lt (tgt := 13) hx hb d_SP_note_1 (by decide) (fun c_1 => ?_) (fun c_1 => ?_)
  · refine lv_iconst (v := 0) hx hb d_SP_note_13 (by decide) ?_
    refine lv_istore_n (lv' := [(3, .int 0), (0, .ref x), (1, .int a), (2, .int w)]) hx hb d_SP_note_14 rfl hl (by decide) rfl (fun ls hl => ?_)
    refine lv_iload_n hx hb d_SP_note_15 rfl (lv_at hl 0 rfl) ?_
    refine lv_if_ne (tgt := 39) hx hb d_SP_note_16 (by decide) (fun c_2 => ?_) (fun c_2 => ?_)
    · exact absurd c_2 (by decide)
    · refine lv_iload_n hx hb d_SP_note_19 rfl (lv_at hl 3 rfl) ?_
      refine lv_bipush (v := 10) hx hb d_SP_note_20 (by decide) ?_
      refine lv_icmp_lt (tgt := 31) hx hb d_SP_note_22 (by decide) (fun c_3 => ?_) (fun c_3 => ?_)
      · exact te_throw hx hb (te_tr hfl B.admits) (own := "ScholarsPress") (cls := x_IAE) (names := ["java/lang/RuntimeException", "java/lang/Exception"]) (iN := iN_IAE) (ic := ic_IAE) hown xf_IAE xn (te_own hS0 hB0 hb0 xo_IAE xh_IAE) (hts _ xl_IAE) (hts _ xi_IAE) (BodyLoose.noHandlers B (hw0 _ List.mem_cons_self)) (hl.1.trans hml.symm) (Nat.le_of_ble_eq_true rfl) (Nat.le_of_ble_eq_true rfl) (Nat.lt_of_sub_pos (by decide)) (Nat.le_of_ble_eq_true rfl) d_SP_note_31 d_SP_note_34 d_SP_note_35 d_SP_note_38 (Nat.le_refl _) (fun t a h => Or.inr ⟨x_IAE, a, Or.inl ⟨rfl, by simp only [Int32.lt_iff_toInt_lt, Int32.le_iff_toInt_le, z_0, z_1, z_5, z_6, z_7, z_9, z_10, z_11, z_13, z_20, z_41] at c_1 c_3 ⊢; omega⟩, rfl, h⟩) hlocks
      · refine lv_iload_n hx hb d_SP_note_25 rfl (lv_at hl 3 rfl) ?_
        refine lv_bipush (v := 13) hx hb d_SP_note_26 (by decide) ?_
        refine lv_icmp_le (tgt := 39) hx hb d_SP_note_28 (by decide) (fun c_4 => ?_) (fun c_4 => ?_)
        · refine lv_aload_n hx hb d_SP_note_39 rfl (lv_at hl 1 rfl) ?_
          refine va_get (D := (dC, dI)) (ci := 0) (v := .null) (C := "ScholarsPress") (T := F_SP) (N := 21) hx hb hts in_SP hown hK hP 0 rfl rfl 14 (by decide) (hts (.fieldLink "ScholarsPress" 172 "ScholarsPress" "pagesNow" "LScholarsPress$Pages;") k_514) (fun _ h9 => h9) rfl d_SP_note_40 ?_
          refine lv_ifnonnullN hx hb d_SP_note_43 ?_
          exact te_throw hx hb (te_tr hfl B.admits) (own := "ScholarsPress") (cls := x_ISE) (names := ["java/lang/RuntimeException", "java/lang/Exception"]) (iN := iN_ISE) (ic := ic_ISE) hown xf_ISE xn (te_own hS0 hB0 hb0 xo_ISE xh_ISE) (hts _ xl_ISE) (hts _ xi_ISE) (BodyLoose.noHandlers B (hw0 _ List.mem_cons_self)) (hl.1.trans hml.symm) (Nat.le_of_ble_eq_true rfl) (Nat.le_of_ble_eq_true rfl) (Nat.lt_of_sub_pos (by decide)) (Nat.le_of_ble_eq_true rfl) d_SP_note_46 d_SP_note_49 d_SP_note_50 d_SP_note_53 (Nat.le_refl _) (fun t a h => Or.inr ⟨x_ISE, a, Or.inr (⟨rfl, by simp only [Int32.lt_iff_toInt_lt, Int32.le_iff_toInt_le, z_0, z_1, z_5, z_6, z_7, z_9, z_10, z_11, z_13, z_20, z_41] at c_1 c_3 c_4 ⊢; omega⟩), rfl, h⟩) hlocks
        · exact te_throw hx hb (te_tr hfl B.admits) (own := "ScholarsPress") (cls := x_IAE) (names := ["java/lang/RuntimeException", "java/lang/Exception"]) (iN := iN_IAE) (ic := ic_IAE) hown xf_IAE xn (te_own hS0 hB0 hb0 xo_IAE xh_IAE) (hts _ xl_IAE) (hts _ xi_IAE) (BodyLoose.noHandlers B (hw0 _ List.mem_cons_self)) (hl.1.trans hml.symm) (Nat.le_of_ble_eq_true rfl) (Nat.le_of_ble_eq_true rfl) (Nat.lt_of_sub_pos (by decide)) (Nat.le_of_ble_eq_true rfl) d_SP_note_31 d_SP_note_34 d_SP_note_35 d_SP_note_38 (Nat.le_refl _) (fun t a h => Or.inr ⟨x_IAE, a, Or.inl ⟨rfl, by simp only [Int32.lt_iff_toInt_lt, Int32.le_iff_toInt_le, z_0, z_1, z_5, z_6, z_7, z_9, z_10, z_11, z_13, z_20, z_41] at c_1 c_3 c_4 ⊢; omega⟩, rfl, h⟩) hlocks
  · refine lv_iload_n hx hb d_SP_note_4 rfl (lv_at hl 2 rfl) ?_
    refine lv_iconst (v := 5) hx hb d_SP_note_5 (by decide) ?_
    refine lv_icmp_gt (tgt := 13) hx hb d_SP_note_6 (by decide) (fun c_5 => ?_) (fun c_5 => ?_)
    · refine lv_iconst (v := 0) hx hb d_SP_note_13 (by decide) ?_
      refine lv_istore_n (lv' := [(3, .int 0), (0, .ref x), (1, .int a), (2, .int w)]) hx hb d_SP_note_14 rfl hl (by decide) rfl (fun ls hl => ?_)
      refine lv_iload_n hx hb d_SP_note_15 rfl (lv_at hl 0 rfl) ?_
      refine lv_if_ne (tgt := 39) hx hb d_SP_note_16 (by decide) (fun c_6 => ?_) (fun c_6 => ?_)
      · exact absurd c_6 (by decide)
      · refine lv_iload_n hx hb d_SP_note_19 rfl (lv_at hl 3 rfl) ?_
        refine lv_bipush (v := 10) hx hb d_SP_note_20 (by decide) ?_
        refine lv_icmp_lt (tgt := 31) hx hb d_SP_note_22 (by decide) (fun c_7 => ?_) (fun c_7 => ?_)
        · exact te_throw hx hb (te_tr hfl B.admits) (own := "ScholarsPress") (cls := x_IAE) (names := ["java/lang/RuntimeException", "java/lang/Exception"]) (iN := iN_IAE) (ic := ic_IAE) hown xf_IAE xn (te_own hS0 hB0 hb0 xo_IAE xh_IAE) (hts _ xl_IAE) (hts _ xi_IAE) (BodyLoose.noHandlers B (hw0 _ List.mem_cons_self)) (hl.1.trans hml.symm) (Nat.le_of_ble_eq_true rfl) (Nat.le_of_ble_eq_true rfl) (Nat.lt_of_sub_pos (by decide)) (Nat.le_of_ble_eq_true rfl) d_SP_note_31 d_SP_note_34 d_SP_note_35 d_SP_note_38 (Nat.le_refl _) (fun t a h => Or.inr ⟨x_IAE, a, Or.inl ⟨rfl, by simp only [Int32.lt_iff_toInt_lt, Int32.le_iff_toInt_le, z_0, z_1, z_5, z_6, z_7, z_9, z_10, z_11, z_13, z_20, z_41] at c_1 c_5 c_7 ⊢; omega⟩, rfl, h⟩) hlocks
        · refine lv_iload_n hx hb d_SP_note_25 rfl (lv_at hl 3 rfl) ?_
          refine lv_bipush (v := 13) hx hb d_SP_note_26 (by decide) ?_
          refine lv_icmp_le (tgt := 39) hx hb d_SP_note_28 (by decide) (fun c_8 => ?_) (fun c_8 => ?_)
          · refine lv_aload_n hx hb d_SP_note_39 rfl (lv_at hl 1 rfl) ?_
            refine va_get (D := (dC, dI)) (ci := 0) (v := .null) (C := "ScholarsPress") (T := F_SP) (N := 21) hx hb hts in_SP hown hK hP 0 rfl rfl 14 (by decide) (hts (.fieldLink "ScholarsPress" 172 "ScholarsPress" "pagesNow" "LScholarsPress$Pages;") k_514) (fun _ h9 => h9) rfl d_SP_note_40 ?_
            refine lv_ifnonnullN hx hb d_SP_note_43 ?_
            exact te_throw hx hb (te_tr hfl B.admits) (own := "ScholarsPress") (cls := x_ISE) (names := ["java/lang/RuntimeException", "java/lang/Exception"]) (iN := iN_ISE) (ic := ic_ISE) hown xf_ISE xn (te_own hS0 hB0 hb0 xo_ISE xh_ISE) (hts _ xl_ISE) (hts _ xi_ISE) (BodyLoose.noHandlers B (hw0 _ List.mem_cons_self)) (hl.1.trans hml.symm) (Nat.le_of_ble_eq_true rfl) (Nat.le_of_ble_eq_true rfl) (Nat.lt_of_sub_pos (by decide)) (Nat.le_of_ble_eq_true rfl) d_SP_note_46 d_SP_note_49 d_SP_note_50 d_SP_note_53 (Nat.le_refl _) (fun t a h => Or.inr ⟨x_ISE, a, Or.inr (⟨rfl, by simp only [Int32.lt_iff_toInt_lt, Int32.le_iff_toInt_le, z_0, z_1, z_5, z_6, z_7, z_9, z_10, z_11, z_13, z_20, z_41] at c_1 c_5 c_7 c_8 ⊢; omega⟩), rfl, h⟩) hlocks
          · exact te_throw hx hb (te_tr hfl B.admits) (own := "ScholarsPress") (cls := x_IAE) (names := ["java/lang/RuntimeException", "java/lang/Exception"]) (iN := iN_IAE) (ic := ic_IAE) hown xf_IAE xn (te_own hS0 hB0 hb0 xo_IAE xh_IAE) (hts _ xl_IAE) (hts _ xi_IAE) (BodyLoose.noHandlers B (hw0 _ List.mem_cons_self)) (hl.1.trans hml.symm) (Nat.le_of_ble_eq_true rfl) (Nat.le_of_ble_eq_true rfl) (Nat.lt_of_sub_pos (by decide)) (Nat.le_of_ble_eq_true rfl) d_SP_note_31 d_SP_note_34 d_SP_note_35 d_SP_note_38 (Nat.le_refl _) (fun t a h => Or.inr ⟨x_IAE, a, Or.inl ⟨rfl, by simp only [Int32.lt_iff_toInt_lt, Int32.le_iff_toInt_le, z_0, z_1, z_5, z_6, z_7, z_9, z_10, z_11, z_13, z_20, z_41] at c_1 c_5 c_7 c_8 ⊢; omega⟩, rfl, h⟩) hlocks
    · refine lv_iconst (v := 1) hx hb d_SP_note_9 (by decide) ?_
      refine lv_goto (tgt := 14) hx hb d_SP_note_10 (by decide) ?_
      refine lv_istore_n (lv' := [(3, .int 1), (0, .ref x), (1, .int a), (2, .int w)]) hx hb d_SP_note_14 rfl hl (by decide) rfl (fun ls hl => ?_)
      refine lv_iload_n hx hb d_SP_note_15 rfl (lv_at hl 0 rfl) ?_
      refine lv_if_ne (tgt := 39) hx hb d_SP_note_16 (by decide) (fun c_9 => ?_) (fun c_9 => ?_)
      · refine lv_aload_n hx hb d_SP_note_39 rfl (lv_at hl 1 rfl) ?_
        refine va_get (D := (dC, dI)) (ci := 0) (v := .null) (C := "ScholarsPress") (T := F_SP) (N := 21) hx hb hts in_SP hown hK hP 0 rfl rfl 14 (by decide) (hts (.fieldLink "ScholarsPress" 172 "ScholarsPress" "pagesNow" "LScholarsPress$Pages;") k_514) (fun _ h9 => h9) rfl d_SP_note_40 ?_
        refine lv_ifnonnullN hx hb d_SP_note_43 ?_
        exact te_throw hx hb (te_tr hfl B.admits) (own := "ScholarsPress") (cls := x_ISE) (names := ["java/lang/RuntimeException", "java/lang/Exception"]) (iN := iN_ISE) (ic := ic_ISE) hown xf_ISE xn (te_own hS0 hB0 hb0 xo_ISE xh_ISE) (hts _ xl_ISE) (hts _ xi_ISE) (BodyLoose.noHandlers B (hw0 _ List.mem_cons_self)) (hl.1.trans hml.symm) (Nat.le_of_ble_eq_true rfl) (Nat.le_of_ble_eq_true rfl) (Nat.lt_of_sub_pos (by decide)) (Nat.le_of_ble_eq_true rfl) d_SP_note_46 d_SP_note_49 d_SP_note_50 d_SP_note_53 (Nat.le_refl _) (fun t a h => Or.inr ⟨x_ISE, a, Or.inr (⟨rfl, by simp only [Int32.lt_iff_toInt_lt, Int32.le_iff_toInt_le, z_0, z_1, z_5, z_6, z_7, z_9, z_10, z_11, z_13, z_20, z_41] at c_1 c_5 ⊢; omega⟩), rfl, h⟩) hlocks
      · exact absurd c_9 (by decide)
set_option maxHeartbeats 4000000 in
set_option maxRecDepth 100000 in
/-- wavering: nothing is SET -/
theorem c_SP_wavering {l : Launch} (hfl : l.flags = flags0) {s0 : State} (hS0 : te_S0 s0) (dC : Nat → ClassId) (dI : Nat → Nat → Nat) (x tp sg st ft hy : Nat) (a : Int32) (sz : Nat) : te_Met l y_SP_wavering [w_SP_wavering] ({ frames := 6, cells := 1, slots := 6, locals := 200 }) (va_Pc [.ref x, .int a] (fun U => U.heap.size = sz ∧ tb U ∧ te_Base s0 U ∧ va_P (dC, dI) classes [(x, .inr (0, [.ref tp, .int 0, .int ((-1)), .ref sg, .null, .null, .ref st, .null, .ref ft, .null, .ref hy, .null, .null, .int 0, .null, .null, .null, .null, .null, .null, .int 0]))] U.heap ∧ va_K (dC, dI) classes [] U ∧ va_D (fun _ => True) [(x, .inr (0, [.ref tp, .int 0, .int ((-1)), .ref sg, .null, .null, .ref st, .null, .ref ft, .null, .ref hy, .null, .null, .int 0, .null, .null, .null, .null, .null, .null, .int 0]))])) (te_Qx (va_Qi (fun (r : Int32) (_ : Unit) => False) (fun _ _ => True) (va_A [(x, .inr (0, [.ref tp, .int 0, .int ((-1)), .ref sg, .null, .null, .ref st, .null, .ref ft, .null, .ref hy, .null, .null, .int 0, .null, .null, .null, .null, .null, .null, .int 0]))] sz)) (fun cls => cls = x_ISE ∧ True)) 1 6 (va_A [(x, .inr (0, [.ref tp, .int 0, .int ((-1)), .ref sg, .null, .null, .ref st, .null, .ref ft, .null, .ref hy, .null, .null, .int 0, .null, .null, .null, .null, .null, .null, .int 0]))] sz) := by
  refine te_ofW (cc := b_SP_wavering) (maxL := 2) (ret := (some .int)) (by decide) rfl ?_
  intro p e s m args below meth c s₁ B hml hv
  obtain ⟨rfl, hsz, hb0, hB0, hP, hK, hD0⟩ := hv
  have hx := B.exec
  have hb := B.bytes
  have hr := B.returns
  have hw0 := atoms_spec (ws := [w_SP_wavering]) B.pre
  have hts : ∀ wq ∈ tt, wq.before ([.ref x, .int a] : List Value).toArray s = true := hb0.hts
  have hown : s.vm.findClass "ScholarsPress" = some m.cls := findClass_of_methodNamed B.named
  have hlocks := B.notSynchronized
  subst hsz
  have hD := hD0.self (sz := s.heap.size)
  generalize hAe : va_A [(x, .inr (0, [.ref tp, .int 0, .int ((-1)), .ref sg, .null, .null, .ref st, .null, .ref ft, .null, .ref hy, .null, .null, .int 0, .null, .null, .null, .null, .null, .null, .int 0]))] s.heap.size = A at hD ⊢
  have hA : ∀ q : Nat, s.heap.size ≤ q → A q := fun q h => by rw [← hAe]; exact Or.inr h
  have hS : va_S A s.heap s.heap [] := va_S.rf
  have hP : va_P (dC, dI) classes [(x, .inr (0, [.ref tp, .int 0, .int ((-1)), .ref sg, .null, .null, .ref st, .null, .ref ft, .null, .ref hy, .null, .null, .int 0, .null, .null, .null, .null, .null, .null, .int 0]))] s.heap := hP
  have hl := lv_entry ([.ref x, .int a]) (n := 2) (Nat.le_of_ble_eq_true rfl)
  rw [lg_entry_eq]
  generalize (lg_sl ([.ref x, .int a]) ++ List.replicate (2 - (lg_sl ([.ref x, .int a])).length) Slot.unset).toArray = ls at hl ⊢
  have hl : lv_has ls 2 [(0, .ref x), (1, .int a)] := hl
  refine lv_aload_n hx hb d_SP_wavering_0 rfl (lv_at hl 0 rfl) ?_
  refine va_get (D := (dC, dI)) (ci := 0) (v := .null) (C := "ScholarsPress") (T := F_SP) (N := 21) hx hb hts in_SP hown hK hP 0 rfl rfl 14 (by decide) (hts (.fieldLink "ScholarsPress" 172 "ScholarsPress" "pagesNow" "LScholarsPress$Pages;") k_514) (fun _ h9 => h9) rfl d_SP_wavering_1 ?_
  refine lv_ifnonnullN hx hb d_SP_wavering_4 ?_
  exact te_throw hx hb (te_tr hfl B.admits) (own := "ScholarsPress") (cls := x_ISE) (names := ["java/lang/RuntimeException", "java/lang/Exception"]) (iN := iN_ISE) (ic := ic_ISE) hown xf_ISE xn (te_own hS0 hB0 hb0 xo_ISE xh_ISE) (hts _ xl_ISE) (hts _ xi_ISE) (BodyLoose.noHandlers B (hw0 _ List.mem_cons_self)) (hl.1.trans hml.symm) (Nat.le_of_ble_eq_true rfl) (Nat.le_of_ble_eq_true rfl) (Nat.lt_of_sub_pos (by decide)) (Nat.le_of_ble_eq_true rfl) d_SP_wavering_7 d_SP_wavering_10 d_SP_wavering_11 d_SP_wavering_14 (Nat.le_refl _) (fun t a h => Or.inr ⟨x_ISE, a, ⟨rfl, trivial⟩, rfl, h⟩) hlocks
set_option maxHeartbeats 4000000 in
set_option maxRecDepth 100000 in
/-- print: nothing is SET -/
theorem c_SP_print {l : Launch} (hfl : l.flags = flags0) {s0 : State} (hS0 : te_S0 s0) (dC : Nat → ClassId) (dI : Nat → Nat → Nat) (x tp sg st ft hy : Nat) (a : Int32) (sz : Nat) : te_Met l y_SP_print [w_SP_print] ({ frames := 6, cells := 1, slots := 6, locals := 200 }) (va_Pc [.ref x, .int a] (fun U => U.heap.size = sz ∧ tb U ∧ te_Base s0 U ∧ va_P (dC, dI) classes [(x, .inr (0, [.ref tp, .int 0, .int ((-1)), .ref sg, .null, .null, .ref st, .null, .ref ft, .null, .ref hy, .null, .null, .int 0, .null, .null, .null, .null, .null, .null, .int 0]))] U.heap ∧ va_K (dC, dI) classes [] U ∧ va_D (fun _ => True) [(x, .inr (0, [.ref tp, .int 0, .int ((-1)), .ref sg, .null, .null, .ref st, .null, .ref ft, .null, .ref hy, .null, .null, .int 0, .null, .null, .null, .null, .null, .null, .int 0]))])) (te_Qx (va_Qi (fun (r : Int32) (_ : Unit) => False) (fun _ _ => True) (va_A [(x, .inr (0, [.ref tp, .int 0, .int ((-1)), .ref sg, .null, .null, .ref st, .null, .ref ft, .null, .ref hy, .null, .null, .int 0, .null, .null, .null, .null, .null, .null, .int 0]))] sz)) (fun cls => cls = x_ISE ∧ True)) 1 6 (va_A [(x, .inr (0, [.ref tp, .int 0, .int ((-1)), .ref sg, .null, .null, .ref st, .null, .ref ft, .null, .ref hy, .null, .null, .int 0, .null, .null, .null, .null, .null, .null, .int 0]))] sz) := by
  refine te_ofW (cc := b_SP_print) (maxL := 3) (ret := (some .int)) (by decide) rfl ?_
  intro p e s m args below meth c s₁ B hml hv
  obtain ⟨rfl, hsz, hb0, hB0, hP, hK, hD0⟩ := hv
  have hx := B.exec
  have hb := B.bytes
  have hr := B.returns
  have hw0 := atoms_spec (ws := [w_SP_print]) B.pre
  have hts : ∀ wq ∈ tt, wq.before ([.ref x, .int a] : List Value).toArray s = true := hb0.hts
  have hown : s.vm.findClass "ScholarsPress" = some m.cls := findClass_of_methodNamed B.named
  have hlocks := B.notSynchronized
  subst hsz
  have hD := hD0.self (sz := s.heap.size)
  generalize hAe : va_A [(x, .inr (0, [.ref tp, .int 0, .int ((-1)), .ref sg, .null, .null, .ref st, .null, .ref ft, .null, .ref hy, .null, .null, .int 0, .null, .null, .null, .null, .null, .null, .int 0]))] s.heap.size = A at hD ⊢
  have hA : ∀ q : Nat, s.heap.size ≤ q → A q := fun q h => by rw [← hAe]; exact Or.inr h
  have hS : va_S A s.heap s.heap [] := va_S.rf
  have hP : va_P (dC, dI) classes [(x, .inr (0, [.ref tp, .int 0, .int ((-1)), .ref sg, .null, .null, .ref st, .null, .ref ft, .null, .ref hy, .null, .null, .int 0, .null, .null, .null, .null, .null, .null, .int 0]))] s.heap := hP
  have hl := lv_entry ([.ref x, .int a]) (n := 3) (Nat.le_of_ble_eq_true rfl)
  rw [lg_entry_eq]
  generalize (lg_sl ([.ref x, .int a]) ++ List.replicate (3 - (lg_sl ([.ref x, .int a])).length) Slot.unset).toArray = ls at hl ⊢
  have hl : lv_has ls 3 [(0, .ref x), (1, .int a)] := hl
  refine lv_aload_n hx hb d_SP_print_0 rfl (lv_at hl 0 rfl) ?_
  refine va_get (D := (dC, dI)) (ci := 0) (v := .null) (C := "ScholarsPress") (T := F_SP) (N := 21) hx hb hts in_SP hown hK hP 0 rfl rfl 14 (by decide) (hts (.fieldLink "ScholarsPress" 172 "ScholarsPress" "pagesNow" "LScholarsPress$Pages;") k_514) (fun _ h9 => h9) rfl d_SP_print_1 ?_
  refine lv_ifnonnullN hx hb d_SP_print_4 ?_
  exact te_throw hx hb (te_tr hfl B.admits) (own := "ScholarsPress") (cls := x_ISE) (names := ["java/lang/RuntimeException", "java/lang/Exception"]) (iN := iN_ISE) (ic := ic_ISE) hown xf_ISE xn (te_own hS0 hB0 hb0 xo_ISE xh_ISE) (hts _ xl_ISE) (hts _ xi_ISE) (BodyLoose.noHandlers B (hw0 _ List.mem_cons_self)) (hl.1.trans hml.symm) (Nat.le_of_ble_eq_true rfl) (Nat.le_of_ble_eq_true rfl) (Nat.lt_of_sub_pos (by decide)) (Nat.le_of_ble_eq_true rfl) d_SP_print_7 d_SP_print_10 d_SP_print_11 d_SP_print_14 (Nat.le_refl _) (fun t a h => Or.inr ⟨x_ISE, a, ⟨rfl, trivial⟩, rfl, h⟩) hlocks
set_option maxHeartbeats 4000000 in
set_option maxRecDepth 100000 in
/-- word: OUT is empty -/
theorem c_SP_word {l : Launch} (hfl : l.flags = flags0) {s0 : State} (hS0 : te_S0 s0) (dC : Nat → ClassId) (dI : Nat → Nat → Nat) (x tp sg st ft hy : Nat) (a : Int32) (sz : Nat) : te_Met l y_SP_word [w_SP_word] ({ frames := 6, cells := 1, slots := 6, locals := 200 }) (va_Pc [.ref x, .int a] (fun U => U.heap.size = sz ∧ tb U ∧ te_Base s0 U ∧ va_P (dC, dI) classes [(x, .inr (0, [.ref tp, .int 0, .int ((-1)), .ref sg, .null, .null, .ref st, .null, .ref ft, .null, .ref hy, .null, .null, .int 0, .null, .null, .null, .null, .null, .null, .int 0]))] U.heap ∧ va_K (dC, dI) classes [] U ∧ va_D (fun _ => True) [(x, .inr (0, [.ref tp, .int 0, .int ((-1)), .ref sg, .null, .null, .ref st, .null, .ref ft, .null, .ref hy, .null, .null, .int 0, .null, .null, .null, .null, .null, .null, .int 0]))])) (te_Qx (va_Ql (fun (r : Int64) (_ : Unit) => False) (fun _ _ => True) (va_A [(x, .inr (0, [.ref tp, .int 0, .int ((-1)), .ref sg, .null, .null, .ref st, .null, .ref ft, .null, .ref hy, .null, .null, .int 0, .null, .null, .null, .null, .null, .null, .int 0]))] sz)) (fun cls => cls = x_IOB ∧ True)) 1 6 (va_A [(x, .inr (0, [.ref tp, .int 0, .int ((-1)), .ref sg, .null, .null, .ref st, .null, .ref ft, .null, .ref hy, .null, .null, .int 0, .null, .null, .null, .null, .null, .null, .int 0]))] sz) := by
  refine te_ofW (cc := b_SP_word) (maxL := 5) (ret := (some .long)) (by decide) rfl ?_
  intro p e s m args below meth c s₁ B hml hv
  obtain ⟨rfl, hsz, hb0, hB0, hP, hK, hD0⟩ := hv
  have hx := B.exec
  have hb := B.bytes
  have hr := B.returns
  have hw0 := atoms_spec (ws := [w_SP_word]) B.pre
  have hts : ∀ wq ∈ tt, wq.before ([.ref x, .int a] : List Value).toArray s = true := hb0.hts
  have hown : s.vm.findClass "ScholarsPress" = some m.cls := findClass_of_methodNamed B.named
  have hlocks := B.notSynchronized
  subst hsz
  have hD := hD0.self (sz := s.heap.size)
  generalize hAe : va_A [(x, .inr (0, [.ref tp, .int 0, .int ((-1)), .ref sg, .null, .null, .ref st, .null, .ref ft, .null, .ref hy, .null, .null, .int 0, .null, .null, .null, .null, .null, .null, .int 0]))] s.heap.size = A at hD ⊢
  have hA : ∀ q : Nat, s.heap.size ≤ q → A q := fun q h => by rw [← hAe]; exact Or.inr h
  have hS : va_S A s.heap s.heap [] := va_S.rf
  have hP : va_P (dC, dI) classes [(x, .inr (0, [.ref tp, .int 0, .int ((-1)), .ref sg, .null, .null, .ref st, .null, .ref ft, .null, .ref hy, .null, .null, .int 0, .null, .null, .null, .null, .null, .null, .int 0]))] s.heap := hP
  have hl := lv_entry ([.ref x, .int a]) (n := 5) (Nat.le_of_ble_eq_true rfl)
  rw [lg_entry_eq]
  generalize (lg_sl ([.ref x, .int a]) ++ List.replicate (5 - (lg_sl ([.ref x, .int a])).length) Slot.unset).toArray = ls at hl ⊢
  have hl : lv_has ls 5 [(0, .ref x), (1, .int a)] := hl
  refine lv_iload_n hx hb d_SP_word_0 rfl (lv_at hl 1 rfl) ?_
  refine lv_if_lt (tgt := 12) hx hb d_SP_word_1 (by decide) (fun c_1 => ?_) (fun c_1 => ?_)
  · exact te_throw hx hb (te_tr hfl B.admits) (own := "ScholarsPress") (cls := x_IOB) (names := ["java/lang/RuntimeException", "java/lang/Exception"]) (iN := iN_IOB) (ic := ic_IOB) hown xf_IOB xn (te_own hS0 hB0 hb0 xo_IOB xh_IOB) (hts _ xl_IOB) (hts _ xi_IOB) (BodyLoose.noHandlers B (hw0 _ List.mem_cons_self)) (hl.1.trans hml.symm) (Nat.le_of_ble_eq_true rfl) (Nat.le_of_ble_eq_true rfl) (Nat.lt_of_sub_pos (by decide)) (Nat.le_of_ble_eq_true rfl) d_SP_word_12 d_SP_word_15 d_SP_word_16 d_SP_word_19 (Nat.le_refl _) (fun t a h => Or.inr ⟨x_IOB, a, ⟨rfl, trivial⟩, rfl, h⟩) hlocks
  · refine lv_iload_n hx hb d_SP_word_4 rfl (lv_at hl 1 rfl) ?_
    refine lv_aload_n hx hb d_SP_word_5 rfl (lv_at hl 0 rfl) ?_
    refine va_get (D := (dC, dI)) (ci := 0) (v := .int 0) (C := "ScholarsPress") (T := F_SP) (N := 21) hx hb hts in_SP hown hK hP 0 rfl rfl 20 (by decide) (hts (.fieldLink "ScholarsPress" 293 "ScholarsPress" "outLength" "I") k_520) (fun _ h9 => h9) rfl d_SP_word_6 ?_
    refine lv_icmp_lt (tgt := 20) hx hb d_SP_word_9 (by decide) (fun c_2 => ?_) (fun c_2 => ?_)
    · exfalso; simp only [Int32.lt_iff_toInt_lt, Int32.le_iff_toInt_le, z_0, z_1, z_5, z_6, z_7, z_9, z_10, z_11, z_13, z_20, z_41] at c_1 c_2; omega
    · exact te_throw hx hb (te_tr hfl B.admits) (own := "ScholarsPress") (cls := x_IOB) (names := ["java/lang/RuntimeException", "java/lang/Exception"]) (iN := iN_IOB) (ic := ic_IOB) hown xf_IOB xn (te_own hS0 hB0 hb0 xo_IOB xh_IOB) (hts _ xl_IOB) (hts _ xi_IOB) (BodyLoose.noHandlers B (hw0 _ List.mem_cons_self)) (hl.1.trans hml.symm) (Nat.le_of_ble_eq_true rfl) (Nat.le_of_ble_eq_true rfl) (Nat.lt_of_sub_pos (by decide)) (Nat.le_of_ble_eq_true rfl) d_SP_word_12 d_SP_word_15 d_SP_word_16 d_SP_word_19 (Nat.le_refl _) (fun t a h => Or.inr ⟨x_IOB, a, ⟨rfl, trivial⟩, rfl, h⟩) hlocks
set_option maxHeartbeats 4000000 in
set_option maxRecDepth 100000 in
/-- change: there is no SOURCE -/
theorem c_SP_change {l : Launch} (hfl : l.flags = flags0) {s0 : State} (hS0 : te_S0 s0) (dC : Nat → ClassId) (dI : Nat → Nat → Nat) (x tp sg st ft hy : Nat) (a b : Int32) (sz : Nat) : te_Met l y_SP_change [w_SP_change] ({ frames := 6, cells := 1, slots := 6, locals := 200 }) (va_Pc [.ref x, .int a, .int b] (fun U => U.heap.size = sz ∧ tb U ∧ te_Base s0 U ∧ va_P (dC, dI) classes [(x, .inr (0, [.ref tp, .int 0, .int ((-1)), .ref sg, .null, .null, .ref st, .null, .ref ft, .null, .ref hy, .null, .null, .int 0, .null, .null, .null, .null, .null, .null, .int 0]))] U.heap ∧ va_K (dC, dI) classes [] U ∧ va_D (fun _ => True) [(x, .inr (0, [.ref tp, .int 0, .int ((-1)), .ref sg, .null, .null, .ref st, .null, .ref ft, .null, .ref hy, .null, .null, .int 0, .null, .null, .null, .null, .null, .null, .int 0]))])) (te_Qx (va_Qi (fun (r : Int32) (_ : Unit) => False) (fun _ _ => True) (va_A [(x, .inr (0, [.ref tp, .int 0, .int ((-1)), .ref sg, .null, .null, .ref st, .null, .ref ft, .null, .ref hy, .null, .null, .int 0, .null, .null, .null, .null, .null, .null, .int 0]))] sz)) (fun cls => (cls = x_IAE ∧ ¬ (0 ≤ a.toInt ∧ a.toInt ≤ b.toInt)) ∨ (cls = x_ISE ∧ (0 ≤ a.toInt ∧ a.toInt ≤ b.toInt)))) 1 6 (va_A [(x, .inr (0, [.ref tp, .int 0, .int ((-1)), .ref sg, .null, .null, .ref st, .null, .ref ft, .null, .ref hy, .null, .null, .int 0, .null, .null, .null, .null, .null, .null, .int 0]))] sz) := by
  refine te_ofW (cc := b_SP_change) (maxL := 6) (ret := (some .int)) (by decide) rfl ?_
  intro p e s m args below meth c s₁ B hml hv
  obtain ⟨rfl, hsz, hb0, hB0, hP, hK, hD0⟩ := hv
  have hx := B.exec
  have hb := B.bytes
  have hr := B.returns
  have hw0 := atoms_spec (ws := [w_SP_change]) B.pre
  have hts : ∀ wq ∈ tt, wq.before ([.ref x, .int a, .int b] : List Value).toArray s = true := hb0.hts
  have hown : s.vm.findClass "ScholarsPress" = some m.cls := findClass_of_methodNamed B.named
  have hlocks := B.notSynchronized
  subst hsz
  have hD := hD0.self (sz := s.heap.size)
  generalize hAe : va_A [(x, .inr (0, [.ref tp, .int 0, .int ((-1)), .ref sg, .null, .null, .ref st, .null, .ref ft, .null, .ref hy, .null, .null, .int 0, .null, .null, .null, .null, .null, .null, .int 0]))] s.heap.size = A at hD ⊢
  have hA : ∀ q : Nat, s.heap.size ≤ q → A q := fun q h => by rw [← hAe]; exact Or.inr h
  have hS : va_S A s.heap s.heap [] := va_S.rf
  have hP : va_P (dC, dI) classes [(x, .inr (0, [.ref tp, .int 0, .int ((-1)), .ref sg, .null, .null, .ref st, .null, .ref ft, .null, .ref hy, .null, .null, .int 0, .null, .null, .null, .null, .null, .null, .int 0]))] s.heap := hP
  have hl := lv_entry ([.ref x, .int a, .int b]) (n := 6) (Nat.le_of_ble_eq_true rfl)
  rw [lg_entry_eq]
  generalize (lg_sl ([.ref x, .int a, .int b]) ++ List.replicate (6 - (lg_sl ([.ref x, .int a, .int b])).length) Slot.unset).toArray = ls at hl ⊢
  have hl : lv_has ls 6 [(0, .ref x), (1, .int a), (2, .int b)] := hl
  refine lv_iload_n hx hb d_SP_change_0 rfl (lv_at hl 1 rfl) ?_
  refine lv_if_lt (tgt := 27) hx hb d_SP_change_1 (by decide) (fun c_1 => ?_) (fun c_1 => ?_)
  · exact te_throw hx hb (te_tr hfl B.admits) (own := "ScholarsPress") (cls := x_IAE) (names := ["java/lang/RuntimeException", "java/lang/Exception"]) (iN := iN_IAE) (ic := ic_IAE) hown xf_IAE xn (te_own hS0 hB0 hb0 xo_IAE xh_IAE) (hts _ xl_IAE) (hts _ xi_IAE) (BodyLoose.noHandlers B (hw0 _ List.mem_cons_self)) (hl.1.trans hml.symm) (Nat.le_of_ble_eq_true rfl) (Nat.le_of_ble_eq_true rfl) (Nat.lt_of_sub_pos (by decide)) (Nat.le_of_ble_eq_true rfl) d_SP_change_27 d_SP_change_30 d_SP_change_31 d_SP_change_34 (Nat.le_refl _) (fun t a h => Or.inr ⟨x_IAE, a, Or.inl ⟨rfl, by simp only [Int32.lt_iff_toInt_lt, Int32.le_iff_toInt_le, z_0, z_1, z_5, z_6, z_7, z_9, z_10, z_11, z_13, z_20, z_41] at c_1 ⊢; omega⟩, rfl, h⟩) hlocks
  · refine lv_iload_n hx hb d_SP_change_4 rfl (lv_at hl 2 rfl) ?_
    refine lv_iload_n hx hb d_SP_change_5 rfl (lv_at hl 1 rfl) ?_
    refine lv_icmp_lt (tgt := 27) hx hb d_SP_change_6 (by decide) (fun c_2 => ?_) (fun c_2 => ?_)
    · exact te_throw hx hb (te_tr hfl B.admits) (own := "ScholarsPress") (cls := x_IAE) (names := ["java/lang/RuntimeException", "java/lang/Exception"]) (iN := iN_IAE) (ic := ic_IAE) hown xf_IAE xn (te_own hS0 hB0 hb0 xo_IAE xh_IAE) (hts _ xl_IAE) (hts _ xi_IAE) (BodyLoose.noHandlers B (hw0 _ List.mem_cons_self)) (hl.1.trans hml.symm) (Nat.le_of_ble_eq_true rfl) (Nat.le_of_ble_eq_true rfl) (Nat.lt_of_sub_pos (by decide)) (Nat.le_of_ble_eq_true rfl) d_SP_change_27 d_SP_change_30 d_SP_change_31 d_SP_change_34 (Nat.le_refl _) (fun t a h => Or.inr ⟨x_IAE, a, Or.inl ⟨rfl, by simp only [Int32.lt_iff_toInt_lt, Int32.le_iff_toInt_le, z_0, z_1, z_5, z_6, z_7, z_9, z_10, z_11, z_13, z_20, z_41] at c_1 c_2 ⊢; omega⟩, rfl, h⟩) hlocks
    · refine lv_aload_n hx hb d_SP_change_9 rfl (lv_at hl 0 rfl) ?_
      refine va_get (D := (dC, dI)) (ci := 0) (v := .null) (C := "ScholarsPress") (T := F_SP) (N := 21) hx hb hts in_SP hown hK hP 0 rfl rfl 4 (by decide) (hts (.fieldLink "ScholarsPress" 135 "ScholarsPress" "sourceNow" "LScholarsPress$Source;") k_504) (fun _ h9 => h9) rfl d_SP_change_10 ?_
      refine lv_ifnullN (tgt := 35) hx hb d_SP_change_13 (by decide) ?_
      refine lv_aload_n hx hb d_SP_change_35 rfl (lv_at hl 0 rfl) ?_
      refine va_get (D := (dC, dI)) (ci := 0) (v := .null) (C := "ScholarsPress") (T := F_SP) (N := 21) hx hb hts in_SP hown hK hP 0 rfl rfl 4 (by decide) (hts (.fieldLink "ScholarsPress" 135 "ScholarsPress" "sourceNow" "LScholarsPress$Source;") k_504) (fun _ h9 => h9) rfl d_SP_change_36 ?_
      refine lv_ifnonnullN hx hb d_SP_change_39 ?_
      exact te_throw hx hb (te_tr hfl B.admits) (own := "ScholarsPress") (cls := x_ISE) (names := ["java/lang/RuntimeException", "java/lang/Exception"]) (iN := iN_ISE) (ic := ic_ISE) hown xf_ISE xn (te_own hS0 hB0 hb0 xo_ISE xh_ISE) (hts _ xl_ISE) (hts _ xi_ISE) (BodyLoose.noHandlers B (hw0 _ List.mem_cons_self)) (hl.1.trans hml.symm) (Nat.le_of_ble_eq_true rfl) (Nat.le_of_ble_eq_true rfl) (Nat.lt_of_sub_pos (by decide)) (Nat.le_of_ble_eq_true rfl) d_SP_change_42 d_SP_change_45 d_SP_change_46 d_SP_change_49 (Nat.le_refl _) (fun t a h => Or.inr ⟨x_ISE, a, Or.inr (⟨rfl, by simp only [Int32.lt_iff_toInt_lt, Int32.le_iff_toInt_le, z_0, z_1, z_5, z_6, z_7, z_9, z_10, z_11, z_13, z_20, z_41] at c_1 c_2 ⊢; omega⟩), rfl, h⟩) hlocks
set_option maxHeartbeats 4000000 in
set_option maxRecDepth 100000 in
/-- end: the TAPE is empty -/
theorem c_SP_end {l : Launch} (hfl : l.flags = flags0) {s0 : State} (hS0 : te_S0 s0) (dC : Nat → ClassId) (dI : Nat → Nat → Nat) (x tp sg st ft hy : Nat) (n : Int32) (sz : Nat) : te_Met l y_SP_end [w_SP_end] ({ frames := 6, cells := 1, slots := 6, locals := 200 }) (va_Pc [.ref x, .int n] (fun U => U.heap.size = sz ∧ tb U ∧ te_Base s0 U ∧ va_P (dC, dI) classes [(x, .inr (0, [.ref tp, .int 0, .int ((-1)), .ref sg, .null, .null, .ref st, .null, .ref ft, .null, .ref hy, .null, .null, .int 0, .null, .null, .null, .null, .null, .null, .int 0]))] U.heap ∧ va_K (dC, dI) classes [] U ∧ va_D (fun _ => True) [(x, .inr (0, [.ref tp, .int 0, .int ((-1)), .ref sg, .null, .null, .ref st, .null, .ref ft, .null, .ref hy, .null, .null, .int 0, .null, .null, .null, .null, .null, .null, .int 0]))])) (te_Qx (va_Qi (fun (r : Int32) (_ : Unit) => r = n ∧ n.toInt = 0) (fun _ _ => True) (va_A [(x, .inr (0, [.ref tp, .int 0, .int ((-1)), .ref sg, .null, .null, .ref st, .null, .ref ft, .null, .ref hy, .null, .null, .int 0, .null, .null, .null, .null, .null, .null, .int 0]))] sz)) (fun cls => cls = x_IAE ∧ ¬ n.toInt = 0)) 1 6 (va_A [(x, .inr (0, [.ref tp, .int 0, .int ((-1)), .ref sg, .null, .null, .ref st, .null, .ref ft, .null, .ref hy, .null, .null, .int 0, .null, .null, .null, .null, .null, .null, .int 0]))] sz) := by
  refine te_ofW (cc := b_SP_end) (maxL := 2) (ret := (some .int)) (by decide) rfl ?_
  intro p e s m args below meth c s₁ B hml hv
  obtain ⟨rfl, hsz, hb0, hB0, hP, hK, hD0⟩ := hv
  have hx := B.exec
  have hb := B.bytes
  have hr := B.returns
  have hw0 := atoms_spec (ws := [w_SP_end]) B.pre
  have hts : ∀ wq ∈ tt, wq.before ([.ref x, .int n] : List Value).toArray s = true := hb0.hts
  have hown : s.vm.findClass "ScholarsPress" = some m.cls := findClass_of_methodNamed B.named
  have hlocks := B.notSynchronized
  subst hsz
  have hD := hD0.self (sz := s.heap.size)
  generalize hAe : va_A [(x, .inr (0, [.ref tp, .int 0, .int ((-1)), .ref sg, .null, .null, .ref st, .null, .ref ft, .null, .ref hy, .null, .null, .int 0, .null, .null, .null, .null, .null, .null, .int 0]))] s.heap.size = A at hD ⊢
  have hA : ∀ q : Nat, s.heap.size ≤ q → A q := fun q h => by rw [← hAe]; exact Or.inr h
  have hS : va_S A s.heap s.heap [] := va_S.rf
  have hP : va_P (dC, dI) classes [(x, .inr (0, [.ref tp, .int 0, .int ((-1)), .ref sg, .null, .null, .ref st, .null, .ref ft, .null, .ref hy, .null, .null, .int 0, .null, .null, .null, .null, .null, .null, .int 0]))] s.heap := hP
  have hl := lv_entry ([.ref x, .int n]) (n := 2) (Nat.le_of_ble_eq_true rfl)
  rw [lg_entry_eq]
  generalize (lg_sl ([.ref x, .int n]) ++ List.replicate (2 - (lg_sl ([.ref x, .int n])).length) Slot.unset).toArray = ls at hl ⊢
  have hl : lv_has ls 2 [(0, .ref x), (1, .int n)] := hl
  refine lv_iload_n hx hb d_SP_end_0 rfl (lv_at hl 1 rfl) ?_
  refine lv_if_lt (tgt := 12) hx hb d_SP_end_1 (by decide) (fun c_1 => ?_) (fun c_1 => ?_)
  · exact te_throw hx hb (te_tr hfl B.admits) (own := "ScholarsPress") (cls := x_IAE) (names := ["java/lang/RuntimeException", "java/lang/Exception"]) (iN := iN_IAE) (ic := ic_IAE) hown xf_IAE xn (te_own hS0 hB0 hb0 xo_IAE xh_IAE) (hts _ xl_IAE) (hts _ xi_IAE) (BodyLoose.noHandlers B (hw0 _ List.mem_cons_self)) (hl.1.trans hml.symm) (Nat.le_of_ble_eq_true rfl) (Nat.le_of_ble_eq_true rfl) (Nat.lt_of_sub_pos (by decide)) (Nat.le_of_ble_eq_true rfl) d_SP_end_12 d_SP_end_15 d_SP_end_16 d_SP_end_19 (Nat.le_refl _) (fun t a h => Or.inr ⟨x_IAE, a, ⟨rfl, by simp only [Int32.lt_iff_toInt_lt, Int32.le_iff_toInt_le, z_0, z_1, z_5, z_6, z_7, z_9, z_10, z_11, z_13, z_20, z_41] at c_1 ⊢; omega⟩, rfl, h⟩) hlocks
  · refine lv_iload_n hx hb d_SP_end_4 rfl (lv_at hl 1 rfl) ?_
    refine lv_aload_n hx hb d_SP_end_5 rfl (lv_at hl 0 rfl) ?_
    refine va_get (D := (dC, dI)) (ci := 0) (v := .int 0) (C := "ScholarsPress") (T := F_SP) (N := 21) hx hb hts in_SP hown hK hP 0 rfl rfl 1 (by decide) (hts (.fieldLink "ScholarsPress" 45 "ScholarsPress" "tapeLength" "I") k_501) (fun _ h9 => h9) rfl d_SP_end_6 ?_
    refine lv_icmp_le (tgt := 20) hx hb d_SP_end_9 (by decide) (fun c_2 => ?_) (fun c_2 => ?_)
    · refine lv_aload_n hx hb d_SP_end_20 rfl (lv_at hl 0 rfl) ?_
      refine lv_iload_n hx hb d_SP_end_21 rfl (lv_at hl 1 rfl) ?_
      refine va_put (D := (dC, dI)) (ci := 0) (v := .int n) (ty := .int) (C := "ScholarsPress") (T := F_SP) (N := 21) hx hb hts in_SP t_SP t_SP_ok n_SP hown hK hP hD hS 0 rfl rfl 1 (by decide) (hts (.fieldLink "ScholarsPress" 45 "ScholarsPress" "tapeLength" "I") k_501) (fun _ h9 => h9) rfl (by decide +kernel) rfl rfl (Nat.le_of_ble_eq_true rfl) d_SP_end_22 (fun H locs hP hD hS => ?_)
      have hP : va_P (dC, dI) classes [(x, .inr (0, [.ref tp, .int n, .int ((-1)), .ref sg, .null, .null, .ref st, .null, .ref ft, .null, .ref hy, .null, .null, .int 0, .null, .null, .null, .null, .null, .null, .int 0]))] H := hP
      have hD : va_D A [(x, .inr (0, [.ref tp, .int n, .int ((-1)), .ref sg, .null, .null, .ref st, .null, .ref ft, .null, .ref hy, .null, .null, .int 0, .null, .null, .null, .null, .null, .null, .int 0]))] := hD
      refine lv_iload_n hx hb d_SP_end_25 rfl (lv_at hl 1 rfl) ?_
      refine W.widen (k := 1) (n := 6) (by decide) (by decide) ?_
      exact te_of (W.iret (v := n) hx hb hr (fun t ht hW => Or.inl ⟨_, rfl, ⟨n, (), rfl, ⟨rfl, by simp only [Int32.lt_iff_toInt_lt, Int32.le_iff_toInt_le, z_0, z_1, z_5, z_6, z_7, z_9, z_10, z_11, z_13, z_20, z_41] at c_1 c_2 ⊢; omega⟩, trivial⟩, hS.F ht⟩) hS.2.2 d_SP_end_26)
    · exact te_throw hx hb (te_tr hfl B.admits) (own := "ScholarsPress") (cls := x_IAE) (names := ["java/lang/RuntimeException", "java/lang/Exception"]) (iN := iN_IAE) (ic := ic_IAE) hown xf_IAE xn (te_own hS0 hB0 hb0 xo_IAE xh_IAE) (hts _ xl_IAE) (hts _ xi_IAE) (BodyLoose.noHandlers B (hw0 _ List.mem_cons_self)) (hl.1.trans hml.symm) (Nat.le_of_ble_eq_true rfl) (Nat.le_of_ble_eq_true rfl) (Nat.lt_of_sub_pos (by decide)) (Nat.le_of_ble_eq_true rfl) d_SP_end_12 d_SP_end_15 d_SP_end_16 d_SP_end_19 (Nat.le_refl _) (fun t a h => Or.inr ⟨x_IAE, a, ⟨rfl, by simp only [Int32.lt_iff_toInt_lt, Int32.le_iff_toInt_le, z_0, z_1, z_5, z_6, z_7, z_9, z_10, z_11, z_13, z_20, z_41] at c_1 c_2 ⊢; omega⟩, rfl, h⟩) hlocks
