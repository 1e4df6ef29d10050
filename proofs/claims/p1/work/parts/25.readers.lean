set_option maxHeartbeats 4000000 in
set_option maxRecDepth 100000 in
/-- behindBlanks of nothing -/
theorem c_PSigns_behindBlanks (l : Launch) (dC : Nat → ClassId) (dI : Nat → Nat → Nat) (a : Nat) (sz : Nat) : Met l y_PSigns_behindBlanks [w_PSigns_behindBlanks] ({ frames := 0, cells := 0, slots := 0, locals := 0 }) (va_Pc [.ref a, .int 0, .int 0] (pr sz (dC, dI) [] [])) (va_Qi (fun (r : Int32) (u : Unit) => r = 0) (bw (dC, dI) (va_A [] sz) (fun u : Unit => []) (fun u : Unit => [])) (va_A [] sz)) 0 0 (va_A [] sz) := by
  refine Met.ofW (cc := b_PSigns_behindBlanks) (maxL := 4) (ret := (some .int)) (by decide) rfl ?_
  intro p e s m args below meth c s₁ B hml hv
  obtain ⟨rfl, hsz, hb0, hP, hK, hD0⟩ := hv
  have hx := B.exec
  have hb := B.bytes
  have hr := B.returns
  have hts : ∀ wq ∈ tt, wq.before ([.ref a, .int 0, .int 0] : List Value).toArray s = true := hb0.hts
  have hown : s.vm.findClass "ScholarsPress$Signs" = some m.cls := findClass_of_methodNamed B.named
  have hlocks := B.notSynchronized
  subst hsz
  have hD := hD0.self (sz := s.heap.size)
  generalize hAe : va_A [] s.heap.size = A at hD ⊢
  have hA : ∀ q : Nat, s.heap.size ≤ q → A q := fun q h => by rw [← hAe]; exact Or.inr h
  have hS : va_S A s.heap s.heap [] := va_S.rf
  have hP : va_P (dC, dI) classes [] s.heap := hP
  have hl := lv_entry ([.ref a, .int 0, .int 0]) (n := 4) (Nat.le_of_ble_eq_true rfl)
  rw [lg_entry_eq]
  generalize (lg_sl ([.ref a, .int 0, .int 0]) ++ List.replicate (4 - (lg_sl ([.ref a, .int 0, .int 0])).length) Slot.unset).toArray = ls at hl ⊢
  have hl : lv_has ls 4 [(0, .ref a), (1, .int 0), (2, .int 0)] := hl
  refine lv_iload_n hx hb d_PSigns_behindBlanks_0 rfl (lv_at hl 1 rfl) ?_
  refine lv_istore_n (lv' := [(3, .int 0), (0, .ref a), (1, .int 0), (2, .int 0)]) hx hb d_PSigns_behindBlanks_1 rfl hl (by decide) rfl (fun ls hl => ?_)
  refine lv_iload_n hx hb d_PSigns_behindBlanks_2 rfl (lv_at hl 0 rfl) ?_
  refine lv_iload_n hx hb d_PSigns_behindBlanks_3 rfl (lv_at hl 3 rfl) ?_
  refine lv_icmp_ge (tgt := 29) hx hb d_PSigns_behindBlanks_4 (by decide) (fun c_1 => ?_) (fun c_1 => absurd c_1 (by decide))
  refine lv_iload_n hx hb d_PSigns_behindBlanks_29 rfl (lv_at hl 0 rfl) ?_
  have hP9 := hP.sub (ws' := []) [] rfl
  have hD9 := hD.sub (ws' := []) [] (by decide) rfl
  have hK9 := hK.sub (tys' := []) [] rfl
  exact W.iret (v := 0) hx hb hr (fun t ht hW => ⟨⟨0, (), rfl, rfl, by rw [ht]; exact hP9, va_K.moved hW.alike hK9, hD9⟩, hS.F ht⟩) hS.2.2 d_PSigns_behindBlanks_30
set_option maxHeartbeats 4000000 in
set_option maxRecDepth 100000 in
/-- next at the end -/
theorem c_PSigns_next (l : Launch) (dC : Nat → ClassId) (dI : Nat → Nat → Nat) (sg tp : Nat) (sz : Nat) : Met l y_PSigns_next [w_PSigns_next] ({ frames := 1, cells := 0, slots := 0, locals := 23 }) (va_Pc [.ref sg] (pr sz (dC, dI) [(sg, .inr (1, [.ref tp, .int 0, .int 0, .int 0, .int 0, .int 0, .int 0, .long 0]))] [])) (va_Qv (fun (u : Unit) => True) (bw (dC, dI) (va_A [(sg, .inr (1, [.ref tp, .int 0, .int 0, .int 0, .int 0, .int 0, .int 0, .long 0]))] sz) (fun u : Unit => [(sg, .inr (1, [.ref tp, .int 0, .int 0, .int 0, .int 0, .int 0, .int 0, .long 0]))]) (fun u : Unit => [])) (va_A [(sg, .inr (1, [.ref tp, .int 0, .int 0, .int 0, .int 0, .int 0, .int 0, .long 0]))] sz)) 0 0 (va_A [(sg, .inr (1, [.ref tp, .int 0, .int 0, .int 0, .int 0, .int 0, .int 0, .long 0]))] sz) := by
  refine Met.ofW (cc := b_PSigns_next) (maxL := 2) (ret := none) (by decide) rfl ?_
  intro p e s m args below meth c s₁ B hml hv
  obtain ⟨rfl, hsz, hb0, hP, hK, hD0⟩ := hv
  have hx := B.exec
  have hb := B.bytes
  have hr := B.returns
  have hts : ∀ wq ∈ tt, wq.before ([.ref sg] : List Value).toArray s = true := hb0.hts
  have hown : s.vm.findClass "ScholarsPress$Signs" = some m.cls := findClass_of_methodNamed B.named
  have hlocks := B.notSynchronized
  subst hsz
  have hD := hD0.self (sz := s.heap.size)
  generalize hAe : va_A [(sg, .inr (1, [.ref tp, .int 0, .int 0, .int 0, .int 0, .int 0, .int 0, .long 0]))] s.heap.size = A at hD ⊢
  have hA : ∀ q : Nat, s.heap.size ≤ q → A q := fun q h => by rw [← hAe]; exact Or.inr h
  have hS : va_S A s.heap s.heap [] := va_S.rf
  have hP : va_P (dC, dI) classes [(sg, .inr (1, [.ref tp, .int 0, .int 0, .int 0, .int 0, .int 0, .int 0, .long 0]))] s.heap := hP
  have hl := lv_entry ([.ref sg]) (n := 2) (Nat.le_of_ble_eq_true rfl)
  rw [lg_entry_eq]
  generalize (lg_sl ([.ref sg]) ++ List.replicate (2 - (lg_sl ([.ref sg])).length) Slot.unset).toArray = ls at hl ⊢
  have hl : lv_has ls 2 [(0, .ref sg)] := hl
  refine lv_aload_n hx hb d_PSigns_next_0 rfl (lv_at hl 0 rfl) ?_
  refine lv_aload_n hx hb d_PSigns_next_1 rfl (lv_at hl 0 rfl) ?_
  refine va_get (D := (dC, dI)) (ci := 1) (v := .ref tp) (C := "ScholarsPress$Signs") (T := F_PSigns) (N := 8) hx hb hts in_PSigns hown hK hP 0 rfl rfl 0 (by decide) (hts (.fieldLink "ScholarsPress$Signs" 21 "ScholarsPress$Signs" "text" "[B") k_298) (fun _ h9 => h9) rfl d_PSigns_next_2 ?_
  refine lv_aload_n hx hb d_PSigns_next_5 rfl (lv_at hl 0 rfl) ?_
  refine va_get (D := (dC, dI)) (ci := 1) (v := .int 0) (C := "ScholarsPress$Signs") (T := F_PSigns) (N := 8) hx hb hts in_PSigns hown hK hP 0 rfl rfl 2 (by decide) (hts (.fieldLink "ScholarsPress$Signs" 30 "ScholarsPress$Signs" "at" "I") k_302) (fun _ h9 => h9) rfl d_PSigns_next_6 ?_
  refine lv_aload_n hx hb d_PSigns_next_9 rfl (lv_at hl 0 rfl) ?_
  refine va_get (D := (dC, dI)) (ci := 1) (v := .int 0) (C := "ScholarsPress$Signs") (T := F_PSigns) (N := 8) hx hb hts in_PSigns hown hK hP 0 rfl rfl 1 (by decide) (hts (.fieldLink "ScholarsPress$Signs" 27 "ScholarsPress$Signs" "length" "I") k_301) (fun _ h9 => h9) rfl d_PSigns_next_10 ?_
  refine vi_i (wc := []) (wr := [(sg, .inr (1, [.ref tp, .int 0, .int 0, .int 0, .int 0, .int 0, .int 0, .long 0]))]) (va_runS (As := [.ref tp, .int 0, .int 0]) (rest := [.ref sg]) ⟨hx, hb, hml, hown, hts⟩ (c_PSigns_behindBlanks l dC dI tp s.heap.size) (va_cwS 3 hts (tt_S2 k_693 k_694 k_241 kw_PSigns_behindBlanks) rfl rfl rfl (by decide +kernel) ⟨Nat.le_of_ble_eq_true rfl, Nat.le_of_ble_eq_true rfl⟩) ⟨pr_blind, pr_pre hb0 (hP.sub [] rfl) (hK.sub [] rfl) (hD.sub [] (by decide) rfl)⟩ rfl rfl hl.1 rfl (lv_room (Nat.le_of_ble_eq_true rfl)) d_PSigns_next_13 ⟨Nat.le_of_ble_eq_true rfl, Nat.le_of_ble_eq_true rfl⟩) hP hD hK hS hA [] [0] rfl rfl (by decide) (by decide) (fun r u H locs hw hP hK hD hS => ?_)
  subst hw
  have hP : va_P (dC, dI) classes [(sg, .inr (1, [.ref tp, .int 0, .int 0, .int 0, .int 0, .int 0, .int 0, .long 0]))] H := hP
  have hD : va_D A [(sg, .inr (1, [.ref tp, .int 0, .int 0, .int 0, .int 0, .int 0, .int 0, .long 0]))] := hD
  have hK : va_K (dC, dI) classes [] s := hK.sub [] rfl
  refine va_put (D := (dC, dI)) (ci := 1) (v := .int 0) (ty := .int) (C := "ScholarsPress$Signs") (T := F_PSigns) (N := 8) hx hb hts in_PSigns t_PSigns t_PSigns_ok n_PSigns hown hK hP hD hS 0 rfl rfl 2 (by decide) (hts (.fieldLink "ScholarsPress$Signs" 30 "ScholarsPress$Signs" "at" "I") k_302) (fun _ h9 => h9) rfl (by decide +kernel) rfl rfl (Nat.le_of_ble_eq_true rfl) d_PSigns_next_16 (fun H locs hP hD hS => ?_)
  have hP : va_P (dC, dI) classes [(sg, .inr (1, [.ref tp, .int 0, .int 0, .int 0, .int 0, .int 0, .int 0, .long 0]))] H := hP
  have hD : va_D A [(sg, .inr (1, [.ref tp, .int 0, .int 0, .int 0, .int 0, .int 0, .int 0, .long 0]))] := hD
  refine lv_aload_n hx hb d_PSigns_next_19 rfl (lv_at hl 0 rfl) ?_
  refine lv_aload_n hx hb d_PSigns_next_20 rfl (lv_at hl 0 rfl) ?_
  refine va_get (D := (dC, dI)) (ci := 1) (v := .int 0) (C := "ScholarsPress$Signs") (T := F_PSigns) (N := 8) hx hb hts in_PSigns hown hK hP 0 rfl rfl 2 (by decide) (hts (.fieldLink "ScholarsPress$Signs" 30 "ScholarsPress$Signs" "at" "I") k_302) (fun _ h9 => h9) rfl d_PSigns_next_21 ?_
  refine va_put (D := (dC, dI)) (ci := 1) (v := .int 0) (ty := .int) (C := "ScholarsPress$Signs") (T := F_PSigns) (N := 8) hx hb hts in_PSigns t_PSigns t_PSigns_ok n_PSigns hown hK hP hD hS 0 rfl rfl 4 (by decide) (hts (.fieldLink "ScholarsPress$Signs" 46 "ScholarsPress$Signs" "start" "I") k_310) (fun _ h9 => h9) rfl (by decide +kernel) rfl rfl (Nat.le_of_ble_eq_true rfl) d_PSigns_next_24 (fun H locs hP hD hS => ?_)
  have hP : va_P (dC, dI) classes [(sg, .inr (1, [.ref tp, .int 0, .int 0, .int 0, .int 0, .int 0, .int 0, .long 0]))] H := hP
  have hD : va_D A [(sg, .inr (1, [.ref tp, .int 0, .int 0, .int 0, .int 0, .int 0, .int 0, .long 0]))] := hD
  refine lv_aload_n hx hb d_PSigns_next_27 rfl (lv_at hl 0 rfl) ?_
  refine va_get (D := (dC, dI)) (ci := 1) (v := .int 0) (C := "ScholarsPress$Signs") (T := F_PSigns) (N := 8) hx hb hts in_PSigns hown hK hP 0 rfl rfl 2 (by decide) (hts (.fieldLink "ScholarsPress$Signs" 30 "ScholarsPress$Signs" "at" "I") k_302) (fun _ h9 => h9) rfl d_PSigns_next_28 ?_
  refine lv_aload_n hx hb d_PSigns_next_31 rfl (lv_at hl 0 rfl) ?_
  refine va_get (D := (dC, dI)) (ci := 1) (v := .int 0) (C := "ScholarsPress$Signs") (T := F_PSigns) (N := 8) hx hb hts in_PSigns hown hK hP 0 rfl rfl 1 (by decide) (hts (.fieldLink "ScholarsPress$Signs" 27 "ScholarsPress$Signs" "length" "I") k_301) (fun _ h9 => h9) rfl d_PSigns_next_32 ?_
  refine lv_icmp_ge (tgt := 54) hx hb d_PSigns_next_35 (by decide) (fun c_1 => ?_) (fun c_1 => absurd c_1 (by decide))
  refine lv_iconst (v := (-1)) hx hb d_PSigns_next_54 (by decide) ?_
  refine lv_istore_n (lv' := [(1, .int ((-1))), (0, .ref sg)]) hx hb d_PSigns_next_55 rfl hl (by decide) rfl (fun ls hl => ?_)
  refine lv_iload_n hx hb d_PSigns_next_56 rfl (lv_at hl 0 rfl) ?_
  refine lv_if_ge (tgt := 68) hx hb d_PSigns_next_57 (by decide) (fun c_2 => absurd c_2 (by decide)) (fun c_2 => ?_)
  refine lv_aload_n hx hb d_PSigns_next_60 rfl (lv_at hl 1 rfl) ?_
  refine lv_iconst (v := 0) hx hb d_PSigns_next_61 (by decide) ?_
  refine va_put (D := (dC, dI)) (ci := 1) (v := .int 0) (ty := .int) (C := "ScholarsPress$Signs") (T := F_PSigns) (N := 8) hx hb hts in_PSigns t_PSigns t_PSigns_ok n_PSigns hown hK hP hD hS 0 rfl rfl 3 (by decide) (hts (.fieldLink "ScholarsPress$Signs" 36 "ScholarsPress$Signs" "kind" "I") k_305) (fun _ h9 => h9) rfl (by decide +kernel) rfl rfl (Nat.le_of_ble_eq_true rfl) d_PSigns_next_62 (fun H locs hP hD hS => ?_)
  have hP : va_P (dC, dI) classes [(sg, .inr (1, [.ref tp, .int 0, .int 0, .int 0, .int 0, .int 0, .int 0, .long 0]))] H := hP
  have hD : va_D A [(sg, .inr (1, [.ref tp, .int 0, .int 0, .int 0, .int 0, .int 0, .int 0, .long 0]))] := hD
  refine lv_goto (tgt := 423) hx hb d_PSigns_next_65 (by decide) ?_
  have hP9 := hP.sub (ws' := [(sg, .inr (1, [.ref tp, .int 0, .int 0, .int 0, .int 0, .int 0, .int 0, .long 0]))]) [0] rfl
  have hD9 := hD.sub (ws' := [(sg, .inr (1, [.ref tp, .int 0, .int 0, .int 0, .int 0, .int 0, .int 0, .long 0]))]) [0] (by decide) rfl
  have hK9 := hK.sub (tys' := []) [] rfl
  exact W.vret hx hb hr (fun t ht hW => ⟨⟨(), rfl, trivial, by rw [ht]; exact hP9, va_K.moved hW.alike hK9, hD9⟩, hS.F ht⟩) hS.2.2 d_PSigns_next_423
set_option maxHeartbeats 4000000 in
set_option maxRecDepth 100000 in
/-- begin with an empty text -/
theorem c_PSigns_begin (l : Launch) (dC : Nat → ClassId) (dI : Nat → Nat → Nat) (sg tp : Nat) (sz : Nat) : Met l y_PSigns_begin [w_PSigns_begin] ({ frames := 2, cells := 0, slots := 0, locals := 44 }) (va_Pc [.ref sg, .ref tp, .int 0] (pr sz (dC, dI) [(sg, .inr (1, [.null, .int 0, .int 0, .int 0, .int 0, .int 0, .int 0, .long 0]))] [])) (va_Qv (fun (u : Unit) => True) (bw (dC, dI) (va_A [(sg, .inr (1, [.null, .int 0, .int 0, .int 0, .int 0, .int 0, .int 0, .long 0]))] sz) (fun u : Unit => [(sg, .inr (1, [.ref tp, .int 0, .int 0, .int 0, .int 0, .int 0, .int 0, .long 0]))]) (fun u : Unit => [])) (va_A [(sg, .inr (1, [.null, .int 0, .int 0, .int 0, .int 0, .int 0, .int 0, .long 0]))] sz)) 0 0 (va_A [(sg, .inr (1, [.null, .int 0, .int 0, .int 0, .int 0, .int 0, .int 0, .long 0]))] sz) := by
  refine Met.ofW (cc := b_PSigns_begin) (maxL := 3) (ret := none) (by decide) rfl ?_
  intro p e s m args below meth c s₁ B hml hv
  obtain ⟨rfl, hsz, hb0, hP, hK, hD0⟩ := hv
  have hx := B.exec
  have hb := B.bytes
  have hr := B.returns
  have hts : ∀ wq ∈ tt, wq.before ([.ref sg, .ref tp, .int 0] : List Value).toArray s = true := hb0.hts
  have hown : s.vm.findClass "ScholarsPress$Signs" = some m.cls := findClass_of_methodNamed B.named
  have hlocks := B.notSynchronized
  subst hsz
  have hD := hD0.self (sz := s.heap.size)
  generalize hAe : va_A [(sg, .inr (1, [.null, .int 0, .int 0, .int 0, .int 0, .int 0, .int 0, .long 0]))] s.heap.size = A at hD ⊢
  have hA : ∀ q : Nat, s.heap.size ≤ q → A q := fun q h => by rw [← hAe]; exact Or.inr h
  have hS : va_S A s.heap s.heap [] := va_S.rf
  have hP : va_P (dC, dI) classes [(sg, .inr (1, [.null, .int 0, .int 0, .int 0, .int 0, .int 0, .int 0, .long 0]))] s.heap := hP
  have hl := lv_entry ([.ref sg, .ref tp, .int 0]) (n := 3) (Nat.le_of_ble_eq_true rfl)
  rw [lg_entry_eq]
  generalize (lg_sl ([.ref sg, .ref tp, .int 0]) ++ List.replicate (3 - (lg_sl ([.ref sg, .ref tp, .int 0])).length) Slot.unset).toArray = ls at hl ⊢
  have hl : lv_has ls 3 [(0, .ref sg), (1, .ref tp), (2, .int 0)] := hl
  refine lv_aload_n hx hb d_PSigns_begin_0 rfl (lv_at hl 0 rfl) ?_
  refine lv_aload_n hx hb d_PSigns_begin_1 rfl (lv_at hl 1 rfl) ?_
  refine va_put (D := (dC, dI)) (ci := 1) (v := .ref tp) (ty := .array .byte) (C := "ScholarsPress$Signs") (T := F_PSigns) (N := 8) hx hb hts in_PSigns t_PSigns t_PSigns_ok n_PSigns hown hK hP hD hS 0 rfl rfl 0 (by decide) (hts (.fieldLink "ScholarsPress$Signs" 21 "ScholarsPress$Signs" "text" "[B") k_298) (fun _ h9 => h9) rfl (by decide +kernel) rfl rfl (Nat.le_of_ble_eq_true rfl) d_PSigns_begin_2 (fun H locs hP hD hS => ?_)
  have hP : va_P (dC, dI) classes [(sg, .inr (1, [.ref tp, .int 0, .int 0, .int 0, .int 0, .int 0, .int 0, .long 0]))] H := hP
  have hD : va_D A [(sg, .inr (1, [.ref tp, .int 0, .int 0, .int 0, .int 0, .int 0, .int 0, .long 0]))] := hD
  refine lv_aload_n hx hb d_PSigns_begin_5 rfl (lv_at hl 0 rfl) ?_
  refine lv_iload_n hx hb d_PSigns_begin_6 rfl (lv_at hl 2 rfl) ?_
  refine va_put (D := (dC, dI)) (ci := 1) (v := .int 0) (ty := .int) (C := "ScholarsPress$Signs") (T := F_PSigns) (N := 8) hx hb hts in_PSigns t_PSigns t_PSigns_ok n_PSigns hown hK hP hD hS 0 rfl rfl 1 (by decide) (hts (.fieldLink "ScholarsPress$Signs" 27 "ScholarsPress$Signs" "length" "I") k_301) (fun _ h9 => h9) rfl (by decide +kernel) rfl rfl (Nat.le_of_ble_eq_true rfl) d_PSigns_begin_7 (fun H locs hP hD hS => ?_)
  have hP : va_P (dC, dI) classes [(sg, .inr (1, [.ref tp, .int 0, .int 0, .int 0, .int 0, .int 0, .int 0, .long 0]))] H := hP
  have hD : va_D A [(sg, .inr (1, [.ref tp, .int 0, .int 0, .int 0, .int 0, .int 0, .int 0, .long 0]))] := hD
  refine lv_aload_n hx hb d_PSigns_begin_10 rfl (lv_at hl 0 rfl) ?_
  refine lv_iconst (v := 0) hx hb d_PSigns_begin_11 (by decide) ?_
  refine va_put (D := (dC, dI)) (ci := 1) (v := .int 0) (ty := .int) (C := "ScholarsPress$Signs") (T := F_PSigns) (N := 8) hx hb hts in_PSigns t_PSigns t_PSigns_ok n_PSigns hown hK hP hD hS 0 rfl rfl 2 (by decide) (hts (.fieldLink "ScholarsPress$Signs" 30 "ScholarsPress$Signs" "at" "I") k_302) (fun _ h9 => h9) rfl (by decide +kernel) rfl rfl (Nat.le_of_ble_eq_true rfl) d_PSigns_begin_12 (fun H locs hP hD hS => ?_)
  have hP : va_P (dC, dI) classes [(sg, .inr (1, [.ref tp, .int 0, .int 0, .int 0, .int 0, .int 0, .int 0, .long 0]))] H := hP
  have hD : va_D A [(sg, .inr (1, [.ref tp, .int 0, .int 0, .int 0, .int 0, .int 0, .int 0, .long 0]))] := hD
  refine lv_aload_n hx hb d_PSigns_begin_15 rfl (lv_at hl 0 rfl) ?_
  refine vi_v (wc := [(sg, .inr (1, [.ref tp, .int 0, .int 0, .int 0, .int 0, .int 0, .int 0, .long 0]))]) (wr := []) (va_runV (As := []) (rest := []) ⟨hx, hb, hml, hown, hts⟩ (c_PSigns_next l dC dI sg tp H.size) (cwV 0 hts (tt_V k_689 k_690 k_691 k_241 kw_PSigns_next) rfl rfl rfl (by decide +kernel) ⟨Nat.le_of_ble_eq_true rfl, Nat.le_of_ble_eq_true rfl⟩) ⟨pr_blind, va_recv hK hP (ci := 1) (q0 := 0) rfl rfl, pr_pre hb0 (hP.sub [0] rfl) (hK.sub [] rfl) (hD.sub [0] (by decide) rfl)⟩ rfl rfl hl.1 rfl (lv_room (Nat.le_of_ble_eq_true rfl)) d_PSigns_begin_16 ⟨Nat.le_of_ble_eq_true rfl, Nat.le_of_ble_eq_true rfl⟩) hP hD hK hS hA [0] [] rfl rfl (by decide) (by decide) (fun u H locs hw hP hK hD hS => ?_)
  have hP : va_P (dC, dI) classes [(sg, .inr (1, [.ref tp, .int 0, .int 0, .int 0, .int 0, .int 0, .int 0, .long 0]))] H := hP
  have hD : va_D A [(sg, .inr (1, [.ref tp, .int 0, .int 0, .int 0, .int 0, .int 0, .int 0, .long 0]))] := hD
  have hK : va_K (dC, dI) classes [] s := hK.sub [] rfl
  have hP9 := hP.sub (ws' := [(sg, .inr (1, [.ref tp, .int 0, .int 0, .int 0, .int 0, .int 0, .int 0, .long 0]))]) [0] rfl
  have hD9 := hD.sub (ws' := [(sg, .inr (1, [.ref tp, .int 0, .int 0, .int 0, .int 0, .int 0, .int 0, .long 0]))]) [0] (by decide) rfl
  have hK9 := hK.sub (tys' := []) [] rfl
  exact W.vret hx hb hr (fun t ht hW => ⟨⟨(), rfl, trivial, by rw [ht]; exact hP9, va_K.moved hW.alike hK9, hD9⟩, hS.F ht⟩) hS.2.2 d_PSigns_begin_19
set_option maxHeartbeats 4000000 in
set_option maxRecDepth 100000 in
/-- Font.read of an empty text -/
theorem c_PFont_read (l : Launch) (dC : Nat → ClassId) (dI : Nat → Nat → Nat) (fo wd sl tl sg tp k1 k2 : Nat) (d1 d2 d3 : ClassId) (f1 f2 f3 : Nat → Int32) (sz : Nat) : Met l y_PFont_read [w_PFont_read] ({ frames := 1, cells := 0, slots := 0, locals := 23 }) (va_Pc [.ref fo, .ref sg] (pr sz (dC, dI) [(fo, .inr (3, [.ref wd, .ref tl, .int 0, .ref k1, .ref k2, .ref sl, .int 0, .int 0])), (wd, .inl (d1, 128, .inl f1)), (sl, .inl (d2, 1024, .inl f2)), (tl, .inl (d3, 128, .inl f3)), (sg, .inr (1, [.ref tp, .int 0, .int 0, .int 0, .int 0, .int 0, .int 0, .long 0]))] [(d1, .int), (d2, .int), (d3, .boolean)])) (va_Qi (fun (r : Int32) (u : Unit) => r = 1) (bw (dC, dI) (va_A [(fo, .inr (3, [.ref wd, .ref tl, .int 0, .ref k1, .ref k2, .ref sl, .int 0, .int 0])), (wd, .inl (d1, 128, .inl f1)), (sl, .inl (d2, 1024, .inl f2)), (tl, .inl (d3, 128, .inl f3)), (sg, .inr (1, [.ref tp, .int 0, .int 0, .int 0, .int 0, .int 0, .int 0, .long 0]))] sz) (fun u : Unit => [(fo, .inr (3, [.ref wd, .ref tl, .int 0, .ref k1, .ref k2, .ref sl, .int 0, .int 0]))]) (fun u : Unit => [])) (va_A [(fo, .inr (3, [.ref wd, .ref tl, .int 0, .ref k1, .ref k2, .ref sl, .int 0, .int 0])), (wd, .inl (d1, 128, .inl f1)), (sl, .inl (d2, 1024, .inl f2)), (tl, .inl (d3, 128, .inl f3)), (sg, .inr (1, [.ref tp, .int 0, .int 0, .int 0, .int 0, .int 0, .int 0, .long 0]))] sz)) 0 0 (va_A [(fo, .inr (3, [.ref wd, .ref tl, .int 0, .ref k1, .ref k2, .ref sl, .int 0, .int 0])), (wd, .inl (d1, 128, .inl f1)), (sl, .inl (d2, 1024, .inl f2)), (tl, .inl (d3, 128, .inl f3)), (sg, .inr (1, [.ref tp, .int 0, .int 0, .int 0, .int 0, .int 0, .int 0, .long 0]))] sz) := by
  refine Met.ofW (cc := b_PFont_read) (maxL := 3) (ret := (some .boolean)) (by decide) rfl ?_
  intro p e s m args below meth c s₁ B hml hv
  obtain ⟨rfl, hsz, hb0, hP, hK, hD0⟩ := hv
  have hx := B.exec
  have hb := B.bytes
  have hr := B.returns
  have hts : ∀ wq ∈ tt, wq.before ([.ref fo, .ref sg] : List Value).toArray s = true := hb0.hts
  have hown : s.vm.findClass "ScholarsPress$Font" = some m.cls := findClass_of_methodNamed B.named
  have hlocks := B.notSynchronized
  subst hsz
  have hD := hD0.self (sz := s.heap.size)
  generalize hAe : va_A [(fo, .inr (3, [.ref wd, .ref tl, .int 0, .ref k1, .ref k2, .ref sl, .int 0, .int 0])), (wd, .inl (d1, 128, .inl f1)), (sl, .inl (d2, 1024, .inl f2)), (tl, .inl (d3, 128, .inl f3)), (sg, .inr (1, [.ref tp, .int 0, .int 0, .int 0, .int 0, .int 0, .int 0, .long 0]))] s.heap.size = A at hD ⊢
  have hA : ∀ q : Nat, s.heap.size ≤ q → A q := fun q h => by rw [← hAe]; exact Or.inr h
  have hS : va_S A s.heap s.heap [] := va_S.rf
  have hP : va_P (dC, dI) classes [(fo, .inr (3, [.ref wd, .ref tl, .int 0, .ref k1, .ref k2, .ref sl, .int 0, .int 0])), (wd, .inl (d1, 128, .inl f1)), (sl, .inl (d2, 1024, .inl f2)), (tl, .inl (d3, 128, .inl f3)), (sg, .inr (1, [.ref tp, .int 0, .int 0, .int 0, .int 0, .int 0, .int 0, .long 0]))] s.heap := hP
  have hl := lv_entry ([.ref fo, .ref sg]) (n := 3) (Nat.le_of_ble_eq_true rfl)
  rw [lg_entry_eq]
  generalize (lg_sl ([.ref fo, .ref sg]) ++ List.replicate (3 - (lg_sl ([.ref fo, .ref sg])).length) Slot.unset).toArray = ls at hl ⊢
  have hl : lv_has ls 3 [(0, .ref fo), (1, .ref sg)] := hl
  have loop : ∀ (k i : Nat) (g1 g2 g3 : Nat → Int32) (H : Heap) (locs : List Loc) (ls : Array Slot), i + k = 128 → va_P (dC, dI) classes [(fo, .inr (3, [.ref wd, .ref tl, .int 0, .ref k1, .ref k2, .ref sl, .int 0, .int 0])), (tl, .inl (d3, 128, .inl g3)), (sg, .inr (1, [.ref tp, .int 0, .int 0, .int 0, .int 0, .int 0, .int 0, .long 0])), (wd, .inl (d1, 128, .inl g1)), (sl, .inl (d2, 1024, .inl g2))] H → va_D A [(fo, .inr (3, [.ref wd, .ref tl, .int 0, .ref k1, .ref k2, .ref sl, .int 0, .int 0])), (tl, .inl (d3, 128, .inl g3)), (sg, .inr (1, [.ref tp, .int 0, .int 0, .int 0, .int 0, .int 0, .int 0, .long 0])), (wd, .inl (d1, 128, .inl g1)), (sl, .inl (d2, 1024, .inl g2))] → va_S A s.heap H locs → lv_has ls 3 [(0, .ref fo), (1, .ref sg), (2, .int (nI i))] → W p l e (headSpec [w_PFont_read] ({ frames := 1, cells := 0, slots := 0, locals := 23 })).room s m ([.ref fo, .ref sg] : List Value).toArray below meth c H locs 0 0 (MQ below (va_Qi (fun (r : Int32) (u : Unit) => r = 1) (bw (dC, dI) A (fun u : Unit => [(fo, .inr (3, [.ref wd, .ref tl, .int 0, .ref k1, .ref k2, .ref sl, .int 0, .int 0]))]) (fun u : Unit => [])) A) ([.ref fo, .ref sg] : List Value).toArray s 0 0 A) (F0 m 20 ls []) := by
    intro k
    induction k with
    | zero =>
      intro i g1 g2 g3 H locs ls hi hP hD hS hl
      refine lv_iload_n hx hb d_PFont_read_20 rfl (lv_at hl 2 rfl) ?_
      refine lv_sipush (v := 128) hx hb d_PFont_read_21 (by decide) ?_
      refine lv_icmp_ge (tgt := 40) hx hb d_PFont_read_24 (by decide) (fun c1 => ?_) (fun c1 => ?_)
      · refine lv_aload_n hx hb d_PFont_read_40 rfl (lv_at hl 0 rfl) ?_
        refine lv_iconst (v := 0) hx hb d_PFont_read_41 (by decide) ?_
        refine va_put (D := (dC, dI)) (ci := 3) (v := .int 0) (ty := .int) (C := "ScholarsPress$Font") (T := F_PFont) (N := 8) hx hb hts in_PFont t_PFont t_PFont_ok n_PFont hown hK hP hD hS 0 rfl rfl 2 (by decide) (hts (.fieldLink "ScholarsPress$Font" 32 "ScholarsPress$Font" "widthsTold" "I") k_421) (fun _ h9 => h9) rfl (by decide +kernel) rfl rfl (Nat.le_of_ble_eq_true rfl) d_PFont_read_42 (fun H locs hP hD hS => ?_)
        have hP : va_P (dC, dI) classes [(fo, .inr (3, [.ref wd, .ref tl, .int 0, .ref k1, .ref k2, .ref sl, .int 0, .int 0])), (tl, .inl (d3, 128, .inl g3)), (sg, .inr (1, [.ref tp, .int 0, .int 0, .int 0, .int 0, .int 0, .int 0, .long 0])), (wd, .inl (d1, 128, .inl g1)), (sl, .inl (d2, 1024, .inl g2))] H := hP
        have hD : va_D A [(fo, .inr (3, [.ref wd, .ref tl, .int 0, .ref k1, .ref k2, .ref sl, .int 0, .int 0])), (tl, .inl (d3, 128, .inl g3)), (sg, .inr (1, [.ref tp, .int 0, .int 0, .int 0, .int 0, .int 0, .int 0, .long 0])), (wd, .inl (d1, 128, .inl g1)), (sl, .inl (d2, 1024, .inl g2))] := hD
        refine lv_aload_n hx hb d_PFont_read_45 rfl (lv_at hl 0 rfl) ?_
        refine lv_iconst (v := 0) hx hb d_PFont_read_46 (by decide) ?_
        refine va_put (D := (dC, dI)) (ci := 3) (v := .int 0) (ty := .int) (C := "ScholarsPress$Font") (T := F_PFont) (N := 8) hx hb hts in_PFont t_PFont t_PFont_ok n_PFont hown hK hP hD hS 0 rfl rfl 6 (by decide) (hts (.fieldLink "ScholarsPress$Font" 36 "ScholarsPress$Font" "pairs" "I") k_426) (fun _ h9 => h9) rfl (by decide +kernel) rfl rfl (Nat.le_of_ble_eq_true rfl) d_PFont_read_47 (fun H locs hP hD hS => ?_)
        have hP : va_P (dC, dI) classes [(fo, .inr (3, [.ref wd, .ref tl, .int 0, .ref k1, .ref k2, .ref sl, .int 0, .int 0])), (tl, .inl (d3, 128, .inl g3)), (sg, .inr (1, [.ref tp, .int 0, .int 0, .int 0, .int 0, .int 0, .int 0, .long 0])), (wd, .inl (d1, 128, .inl g1)), (sl, .inl (d2, 1024, .inl g2))] H := hP
        have hD : va_D A [(fo, .inr (3, [.ref wd, .ref tl, .int 0, .ref k1, .ref k2, .ref sl, .int 0, .int 0])), (tl, .inl (d3, 128, .inl g3)), (sg, .inr (1, [.ref tp, .int 0, .int 0, .int 0, .int 0, .int 0, .int 0, .long 0])), (wd, .inl (d1, 128, .inl g1)), (sl, .inl (d2, 1024, .inl g2))] := hD
        refine lv_aload_n hx hb d_PFont_read_50 rfl (lv_at hl 0 rfl) ?_
        refine lv_iconst (v := 0) hx hb d_PFont_read_51 (by decide) ?_
        refine va_put (D := (dC, dI)) (ci := 3) (v := .int 0) (ty := .int) (C := "ScholarsPress$Font") (T := F_PFont) (N := 8) hx hb hts in_PFont t_PFont t_PFont_ok n_PFont hown hK hP hD hS 0 rfl rfl 7 (by decide) (hts (.fieldLink "ScholarsPress$Font" 39 "ScholarsPress$Font" "kerns" "I") k_428) (fun _ h9 => h9) rfl (by decide +kernel) rfl rfl (Nat.le_of_ble_eq_true rfl) d_PFont_read_52 (fun H locs hP hD hS => ?_)
        have hP : va_P (dC, dI) classes [(fo, .inr (3, [.ref wd, .ref tl, .int 0, .ref k1, .ref k2, .ref sl, .int 0, .int 0])), (tl, .inl (d3, 128, .inl g3)), (sg, .inr (1, [.ref tp, .int 0, .int 0, .int 0, .int 0, .int 0, .int 0, .long 0])), (wd, .inl (d1, 128, .inl g1)), (sl, .inl (d2, 1024, .inl g2))] H := hP
        have hD : va_D A [(fo, .inr (3, [.ref wd, .ref tl, .int 0, .ref k1, .ref k2, .ref sl, .int 0, .int 0])), (tl, .inl (d3, 128, .inl g3)), (sg, .inr (1, [.ref tp, .int 0, .int 0, .int 0, .int 0, .int 0, .int 0, .long 0])), (wd, .inl (d1, 128, .inl g1)), (sl, .inl (d2, 1024, .inl g2))] := hD
        refine lv_iconst (v := 0) hx hb d_PFont_read_55 (by decide) ?_
        refine lv_istore_n (lv' := [(2, .int 0), (0, .ref fo), (1, .ref sg)]) hx hb d_PFont_read_56 rfl hl (by decide) rfl (fun ls hl => ?_)
        refine lv_iload_n hx hb d_PFont_read_57 rfl (lv_at hl 0 rfl) ?_
        refine lv_aload_n hx hb d_PFont_read_58 rfl (lv_at hl 2 rfl) ?_
        refine va_get (D := (dC, dI)) (ci := 1) (v := .int 0) (C := "ScholarsPress$Signs") (T := F_PSigns) (N := 8) hx hb hts in_PSigns hown hK hP 2 rfl rfl 1 (by decide) (hts (.fieldLink "ScholarsPress$Font" 42 "ScholarsPress$Signs" "length" "I") k_299) (fun _ h9 => h9) rfl d_PFont_read_59 ?_
        refine lv_icmp_gt (tgt := 88) hx hb d_PFont_read_62 (by decide) (fun c_3 => absurd c_3 (by decide)) (fun c_3 => ?_)
        refine lv_aload_n hx hb d_PFont_read_65 rfl (lv_at hl 2 rfl) ?_
        refine va_get (D := (dC, dI)) (ci := 1) (v := .int 0) (C := "ScholarsPress$Signs") (T := F_PSigns) (N := 8) hx hb hts in_PSigns hown hK hP 2 rfl rfl 3 (by decide) (hts (.fieldLink "ScholarsPress$Font" 47 "ScholarsPress$Signs" "kind" "I") k_303) (fun _ h9 => h9) rfl d_PFont_read_66 ?_
        refine lv_if_eq (tgt := 88) hx hb d_PFont_read_69 (by decide) (fun c_4 => ?_) (fun c_4 => absurd c_4 (by decide))
        refine lv_iconst (v := 1) hx hb d_PFont_read_88 (by decide) ?_
        have hP9 := hP.sub (ws' := [(fo, .inr (3, [.ref wd, .ref tl, .int 0, .ref k1, .ref k2, .ref sl, .int 0, .int 0]))]) [0] rfl
        have hD9 := hD.sub (ws' := [(fo, .inr (3, [.ref wd, .ref tl, .int 0, .ref k1, .ref k2, .ref sl, .int 0, .int 0]))]) [0] (by decide) rfl
        have hK9 := hK.sub (tys' := []) [] rfl
        exact W.zret (ty := .boolean) (v := 1) hx hb hr (by decide) (fun t ht hW => ⟨⟨1, (), rfl, rfl, by rw [ht]; exact hP9, va_K.moved hW.alike hK9, hD9⟩, hS.F ht⟩) hS.2.2 d_PFont_read_89
      · exact absurd (show (128 : Int32) ≤ nI i from nI_le (a := 128) (b := i) (by omega) (by omega)) c1
    | succ k ih =>
      intro i g1 g2 g3 H locs ls hi hP hD hS hl
      refine lv_iload_n hx hb d_PFont_read_20 rfl (lv_at hl 2 rfl) ?_
      refine lv_sipush (v := 128) hx hb d_PFont_read_21 (by decide) ?_
      refine lv_icmp_ge (tgt := 40) hx hb d_PFont_read_24 (by decide) (fun c1 => ?_) (fun c1 => ?_)
      · exact absurd c1 (show ¬ (128 : Int32) ≤ nI i from nI_ge (a := i) (b := 128) (by omega) (by decide))
      · refine lv_aload_n hx hb d_PFont_read_27 rfl (lv_at hl 0 rfl) ?_
        refine va_get (D := (dC, dI)) (ci := 3) (v := .ref tl) (C := "ScholarsPress$Font") (T := F_PFont) (N := 8) hx hb hts in_PFont hown hK hP 0 rfl rfl 1 (by decide) (hts (.fieldLink "ScholarsPress$Font" 13 "ScholarsPress$Font" "told" "[Z") k_420) (fun _ h9 => h9) rfl d_PFont_read_28 ?_
        refine lv_iload_n hx hb d_PFont_read_31 rfl (lv_at hl 2 rfl) ?_
        refine lv_iconst (v := 0) hx hb d_PFont_read_32 (by decide) ?_
        refine va_zast hx hb hK hP hD hS 1 2 rfl rfl (i := nI i) (x := 0) (vp_in_nI (by omega) (by decide)) d_PFont_read_33 (fun H locs hP hD hS => ?_)
        refine lv_iinc (v := nI (i + 1)) (lv' := [(2, .int (nI (i + 1))), (0, .ref fo), (1, .ref sg)]) hx hb d_PFont_read_34 hl (k := 2) rfl (nI_1 i) (by decide) rfl (fun ls hl => ?_)
        refine lv_goto (tgt := 20) hx hb d_PFont_read_37 (by decide) ?_
        exact ih (i + 1) g1 g2 _ H locs ls (by omega) hP hD hS (lv_sub hl [1, 2, 0] rfl)
  refine lv_aload_n hx hb d_PFont_read_0 rfl (lv_at hl 0 rfl) ?_
  refine va_get (D := (dC, dI)) (ci := 3) (v := .ref wd) (C := "ScholarsPress$Font") (T := F_PFont) (N := 8) hx hb hts in_PFont hown hK hP 0 rfl rfl 0 (by decide) (hts (.fieldLink "ScholarsPress$Font" 7 "ScholarsPress$Font" "widths" "[I") k_419) (fun _ h9 => h9) rfl d_PFont_read_1 ?_
  refine lv_sipush (v := 500) hx hb d_PFont_read_4 (by decide) ?_
  refine vi_v (wc := [(wd, .inl (d1, 128, .inl f1))]) (wr := [(fo, .inr (3, [.ref wd, .ref tl, .int 0, .ref k1, .ref k2, .ref sl, .int 0, .int 0])), (sl, .inl (d2, 1024, .inl f2)), (tl, .inl (d3, 128, .inl f3)), (sg, .inr (1, [.ref tp, .int 0, .int 0, .int 0, .int 0, .int 0, .int 0, .long 0]))]) (va_runS (As := [.ref wd, .int 500]) (rest := []) ⟨hx, hb, hml, hown, hts⟩ (c_Arrays_fill l dC dI wd d1 128 f1 500 s.heap.size (by decide)) (va_cwS 2 hts (tt_S2 k_416 k_417 k_245 kw_Arrays_fill) rfl rfl rfl (by decide +kernel) ⟨Nat.le_of_ble_eq_true rfl, Nat.le_of_ble_eq_true rfl⟩) ⟨pr_blind, pr_pre hb0 (hP.sub [1] rfl) (hK.sub [0] rfl) (hD.sub [1] (by decide) rfl)⟩ rfl rfl hl.1 rfl (lv_room (Nat.le_of_ble_eq_true rfl)) d_PFont_read_7 ⟨Nat.le_of_ble_eq_true rfl, Nat.le_of_ble_eq_true rfl⟩) hP hD hK hS hA [1] [0, 2, 3, 4] rfl rfl (by decide) (by decide) (fun u H locs hw hP hK hD hS => ?_)
  have hP : va_P (dC, dI) classes [(fo, .inr (3, [.ref wd, .ref tl, .int 0, .ref k1, .ref k2, .ref sl, .int 0, .int 0])), (sl, .inl (d2, 1024, .inl f2)), (tl, .inl (d3, 128, .inl f3)), (sg, .inr (1, [.ref tp, .int 0, .int 0, .int 0, .int 0, .int 0, .int 0, .long 0])), (wd, .inl (d1, 128, .inl u))] H := hP
  have hD : va_D A [(fo, .inr (3, [.ref wd, .ref tl, .int 0, .ref k1, .ref k2, .ref sl, .int 0, .int 0])), (sl, .inl (d2, 1024, .inl f2)), (tl, .inl (d3, 128, .inl f3)), (sg, .inr (1, [.ref tp, .int 0, .int 0, .int 0, .int 0, .int 0, .int 0, .long 0])), (wd, .inl (d1, 128, .inl u))] := hD
  have hK : va_K (dC, dI) classes [(d1, .int), (d2, .int), (d3, .boolean)] s := hK.sub [0, 1, 2] rfl
  obtain ⟨U_1, rfl⟩ : ∃ z, z = u := ⟨_, rfl⟩
  refine lv_aload_n hx hb d_PFont_read_10 rfl (lv_at hl 0 rfl) ?_
  refine va_get (D := (dC, dI)) (ci := 3) (v := .ref sl) (C := "ScholarsPress$Font") (T := F_PFont) (N := 8) hx hb hts in_PFont hown hK hP 0 rfl rfl 5 (by decide) (hts (.fieldLink "ScholarsPress$Font" 23 "ScholarsPress$Font" "slots" "[I") k_425) (fun _ h9 => h9) rfl d_PFont_read_11 ?_
  refine lv_iconst (v := 0) hx hb d_PFont_read_14 (by decide) ?_
  refine vi_v (wc := [(sl, .inl (d2, 1024, .inl f2))]) (wr := [(fo, .inr (3, [.ref wd, .ref tl, .int 0, .ref k1, .ref k2, .ref sl, .int 0, .int 0])), (tl, .inl (d3, 128, .inl f3)), (sg, .inr (1, [.ref tp, .int 0, .int 0, .int 0, .int 0, .int 0, .int 0, .long 0])), (wd, .inl (d1, 128, .inl U_1))]) (va_runS (As := [.ref sl, .int 0]) (rest := []) ⟨hx, hb, hml, hown, hts⟩ (c_Arrays_fill l dC dI sl d2 1024 f2 0 H.size (by decide)) (va_cwS 2 hts (tt_S2 k_416 k_417 k_245 kw_Arrays_fill) rfl rfl rfl (by decide +kernel) ⟨Nat.le_of_ble_eq_true rfl, Nat.le_of_ble_eq_true rfl⟩) ⟨pr_blind, pr_pre hb0 (hP.sub [1] rfl) (hK.sub [1] rfl) (hD.sub [1] (by decide) rfl)⟩ rfl rfl hl.1 rfl (lv_room (Nat.le_of_ble_eq_true rfl)) d_PFont_read_15 ⟨Nat.le_of_ble_eq_true rfl, Nat.le_of_ble_eq_true rfl⟩) hP hD hK hS hA [1] [0, 2, 3, 4] rfl rfl (by decide) (by decide) (fun u H locs hw hP hK hD hS => ?_)
  have hP : va_P (dC, dI) classes [(fo, .inr (3, [.ref wd, .ref tl, .int 0, .ref k1, .ref k2, .ref sl, .int 0, .int 0])), (tl, .inl (d3, 128, .inl f3)), (sg, .inr (1, [.ref tp, .int 0, .int 0, .int 0, .int 0, .int 0, .int 0, .long 0])), (wd, .inl (d1, 128, .inl U_1)), (sl, .inl (d2, 1024, .inl u))] H := hP
  have hD : va_D A [(fo, .inr (3, [.ref wd, .ref tl, .int 0, .ref k1, .ref k2, .ref sl, .int 0, .int 0])), (tl, .inl (d3, 128, .inl f3)), (sg, .inr (1, [.ref tp, .int 0, .int 0, .int 0, .int 0, .int 0, .int 0, .long 0])), (wd, .inl (d1, 128, .inl U_1)), (sl, .inl (d2, 1024, .inl u))] := hD
  have hK : va_K (dC, dI) classes [(d1, .int), (d2, .int), (d3, .boolean)] s := hK.sub [0, 1, 2] rfl
  obtain ⟨U_2, rfl⟩ : ∃ z, z = u := ⟨_, rfl⟩
  refine lv_iconst (v := 0) hx hb d_PFont_read_18 (by decide) ?_
  refine lv_istore_n (lv' := [(2, .int 0), (0, .ref fo), (1, .ref sg)]) hx hb d_PFont_read_19 rfl hl (by decide) rfl (fun ls hl => ?_)
  exact loop 128 0 U_1 U_2 f3 _ _ ls rfl hP hD hS (lv_sub hl [1, 2, 0] rfl)
set_option maxHeartbeats 4000000 in
set_option maxRecDepth 100000 in
/-- takeTape of an empty TAPE -/
theorem c_SP_takeTape (l : Launch) (dC : Nat → ClassId) (dI : Nat → Nat → Nat) (x tp : Nat) (vv : Nat → Value) (sz : Nat) : Met l y_SP_takeTape [w_SP_takeTape] ({ frames := 0, cells := 0, slots := 0, locals := 0 }) (va_Pc [.ref x] (pr sz (dC, dI) [(x, .inr (0, [.ref tp, .int 0, .int ((-1)), (vv 3), (vv 4), (vv 5), (vv 6), (vv 7), (vv 8), (vv 9), (vv 10), (vv 11), (vv 12), (vv 13), (vv 14), (vv 15), (vv 16), (vv 17), (vv 18), (vv 19), (vv 20)]))] [])) (va_Qi (fun (r : Int32) (u : Unit) => r = 0) (bw (dC, dI) (va_A [(x, .inr (0, [.ref tp, .int 0, .int ((-1)), (vv 3), (vv 4), (vv 5), (vv 6), (vv 7), (vv 8), (vv 9), (vv 10), (vv 11), (vv 12), (vv 13), (vv 14), (vv 15), (vv 16), (vv 17), (vv 18), (vv 19), (vv 20)]))] sz) (fun u : Unit => [(x, .inr (0, [.ref tp, .int 0, .int ((-1)), (vv 3), (vv 4), (vv 5), (vv 6), (vv 7), (vv 8), (vv 9), (vv 10), (vv 11), (vv 12), (vv 13), (vv 14), (vv 15), (vv 16), (vv 17), (vv 18), (vv 19), (vv 20)]))]) (fun u : Unit => [])) (va_A [(x, .inr (0, [.ref tp, .int 0, .int ((-1)), (vv 3), (vv 4), (vv 5), (vv 6), (vv 7), (vv 8), (vv 9), (vv 10), (vv 11), (vv 12), (vv 13), (vv 14), (vv 15), (vv 16), (vv 17), (vv 18), (vv 19), (vv 20)]))] sz)) 0 0 (va_A [(x, .inr (0, [.ref tp, .int 0, .int ((-1)), (vv 3), (vv 4), (vv 5), (vv 6), (vv 7), (vv 8), (vv 9), (vv 10), (vv 11), (vv 12), (vv 13), (vv 14), (vv 15), (vv 16), (vv 17), (vv 18), (vv 19), (vv 20)]))] sz) := by
  refine Met.ofW (cc := b_SP_takeTape) (maxL := 2) (ret := (some .int)) (by decide) rfl ?_
  intro p e s m args below meth c s₁ B hml hv
  obtain ⟨rfl, hsz, hb0, hP, hK, hD0⟩ := hv
  have hx := B.exec
  have hb := B.bytes
  have hr := B.returns
  have hts : ∀ wq ∈ tt, wq.before ([.ref x] : List Value).toArray s = true := hb0.hts
  have hown : s.vm.findClass "ScholarsPress" = some m.cls := findClass_of_methodNamed B.named
  have hlocks := B.notSynchronized
  subst hsz
  have hD := hD0.self (sz := s.heap.size)
  generalize hAe : va_A [(x, .inr (0, [.ref tp, .int 0, .int ((-1)), (vv 3), (vv 4), (vv 5), (vv 6), (vv 7), (vv 8), (vv 9), (vv 10), (vv 11), (vv 12), (vv 13), (vv 14), (vv 15), (vv 16), (vv 17), (vv 18), (vv 19), (vv 20)]))] s.heap.size = A at hD ⊢
  have hA : ∀ q : Nat, s.heap.size ≤ q → A q := fun q h => by rw [← hAe]; exact Or.inr h
  have hS : va_S A s.heap s.heap [] := va_S.rf
  have hP : va_P (dC, dI) classes [(x, .inr (0, [.ref tp, .int 0, .int ((-1)), (vv 3), (vv 4), (vv 5), (vv 6), (vv 7), (vv 8), (vv 9), (vv 10), (vv 11), (vv 12), (vv 13), (vv 14), (vv 15), (vv 16), (vv 17), (vv 18), (vv 19), (vv 20)]))] s.heap := hP
  have hl := lv_entry ([.ref x]) (n := 2) (Nat.le_of_ble_eq_true rfl)
  rw [lg_entry_eq]
  generalize (lg_sl ([.ref x]) ++ List.replicate (2 - (lg_sl ([.ref x])).length) Slot.unset).toArray = ls at hl ⊢
  have hl : lv_has ls 2 [(0, .ref x)] := hl
  refine lv_aload_n hx hb d_SP_takeTape_0 rfl (lv_at hl 0 rfl) ?_
  refine va_get (D := (dC, dI)) (ci := 0) (v := .int 0) (C := "ScholarsPress") (T := F_SP) (N := 21) hx hb hts in_SP hown hK hP 0 rfl rfl 1 (by decide) (hts (.fieldLink "ScholarsPress" 45 "ScholarsPress" "tapeLength" "I") k_501) (fun _ h9 => h9) rfl d_SP_takeTape_1 ?_
  refine lv_istore_n (lv' := [(1, .int 0), (0, .ref x)]) hx hb d_SP_takeTape_4 rfl hl (by decide) rfl (fun ls hl => ?_)
  refine lv_aload_n hx hb d_SP_takeTape_5 rfl (lv_at hl 1 rfl) ?_
  refine lv_iconst (v := 0) hx hb d_SP_takeTape_6 (by decide) ?_
  refine va_put (D := (dC, dI)) (ci := 0) (v := .int 0) (ty := .int) (C := "ScholarsPress") (T := F_SP) (N := 21) hx hb hts in_SP t_SP t_SP_ok n_SP hown hK hP hD hS 0 rfl rfl 1 (by decide) (hts (.fieldLink "ScholarsPress" 45 "ScholarsPress" "tapeLength" "I") k_501) (fun _ h9 => h9) rfl (by decide +kernel) rfl rfl (Nat.le_of_ble_eq_true rfl) d_SP_takeTape_7 (fun H locs hP hD hS => ?_)
  have hP : va_P (dC, dI) classes [(x, .inr (0, [.ref tp, .int 0, .int ((-1)), (vv 3), (vv 4), (vv 5), (vv 6), (vv 7), (vv 8), (vv 9), (vv 10), (vv 11), (vv 12), (vv 13), (vv 14), (vv 15), (vv 16), (vv 17), (vv 18), (vv 19), (vv 20)]))] H := hP
  have hD : va_D A [(x, .inr (0, [.ref tp, .int 0, .int ((-1)), (vv 3), (vv 4), (vv 5), (vv 6), (vv 7), (vv 8), (vv 9), (vv 10), (vv 11), (vv 12), (vv 13), (vv 14), (vv 15), (vv 16), (vv 17), (vv 18), (vv 19), (vv 20)]))] := hD
  refine lv_aload_n hx hb d_SP_takeTape_10 rfl (lv_at hl 1 rfl) ?_
  refine lv_iconst (v := (-1)) hx hb d_SP_takeTape_11 (by decide) ?_
  refine va_put (D := (dC, dI)) (ci := 0) (v := .int ((-1))) (ty := .int) (C := "ScholarsPress") (T := F_SP) (N := 21) hx hb hts in_SP t_SP t_SP_ok n_SP hown hK hP hD hS 0 rfl rfl 2 (by decide) (hts (.fieldLink "ScholarsPress" 13 "ScholarsPress" "brokenAt" "I") k_502) (fun _ h9 => h9) rfl (by decide +kernel) rfl rfl (Nat.le_of_ble_eq_true rfl) d_SP_takeTape_12 (fun H locs hP hD hS => ?_)
  have hP : va_P (dC, dI) classes [(x, .inr (0, [.ref tp, .int 0, .int ((-1)), (vv 3), (vv 4), (vv 5), (vv 6), (vv 7), (vv 8), (vv 9), (vv 10), (vv 11), (vv 12), (vv 13), (vv 14), (vv 15), (vv 16), (vv 17), (vv 18), (vv 19), (vv 20)]))] H := hP
  have hD : va_D A [(x, .inr (0, [.ref tp, .int 0, .int ((-1)), (vv 3), (vv 4), (vv 5), (vv 6), (vv 7), (vv 8), (vv 9), (vv 10), (vv 11), (vv 12), (vv 13), (vv 14), (vv 15), (vv 16), (vv 17), (vv 18), (vv 19), (vv 20)]))] := hD
  refine lv_iload_n hx hb d_SP_takeTape_15 rfl (lv_at hl 0 rfl) ?_
  have hP9 := hP.sub (ws' := [(x, .inr (0, [.ref tp, .int 0, .int ((-1)), (vv 3), (vv 4), (vv 5), (vv 6), (vv 7), (vv 8), (vv 9), (vv 10), (vv 11), (vv 12), (vv 13), (vv 14), (vv 15), (vv 16), (vv 17), (vv 18), (vv 19), (vv 20)]))]) [0] rfl
  have hD9 := hD.sub (ws' := [(x, .inr (0, [.ref tp, .int 0, .int ((-1)), (vv 3), (vv 4), (vv 5), (vv 6), (vv 7), (vv 8), (vv 9), (vv 10), (vv 11), (vv 12), (vv 13), (vv 14), (vv 15), (vv 16), (vv 17), (vv 18), (vv 19), (vv 20)]))]) [0] (by decide) rfl
  have hK9 := hK.sub (tys' := []) [] rfl
  exact W.iret (v := 0) hx hb hr (fun t ht hW => ⟨⟨0, (), rfl, rfl, by rw [ht]; exact hP9, va_K.moved hW.alike hK9, hD9⟩, hS.F ht⟩) hS.2.2 d_SP_takeTape_16
set_option maxHeartbeats 4000000 in
set_option maxRecDepth 100000 in
/-- font of an empty TAPE -/
theorem c_SP_font (l : Launch) (dC : Nat → ClassId) (dI : Nat → Nat → Nat) (x tp sg st ft hy : Nat) (sz : Nat) : Met l y_SP_font [w_SP_font] ({ frames := 3, cells := 6, slots := 1808, locals := 66 }) (va_Pc [.ref x] (pr sz (dC, dI) [(x, .inr (0, [.ref tp, .int 0, .int ((-1)), .ref sg, .null, .null, .ref st, .null, .ref ft, .null, .ref hy, .null, .null, .int 0, .null, .null, .null, .null, .null, .null, .int 0])), (sg, .inr (1, [.null, .int 0, .int 0, .int 0, .int 0, .int 0, .int 0, .long 0]))] [])) (va_Qi (fun (r : Int32) (u : Unit) => r = 0) (bw (dC, dI) (va_A [(x, .inr (0, [.ref tp, .int 0, .int ((-1)), .ref sg, .null, .null, .ref st, .null, .ref ft, .null, .ref hy, .null, .null, .int 0, .null, .null, .null, .null, .null, .null, .int 0])), (sg, .inr (1, [.null, .int 0, .int 0, .int 0, .int 0, .int 0, .int 0, .long 0]))] sz) (fun u : Unit => []) (fun u : Unit => [])) (va_A [(x, .inr (0, [.ref tp, .int 0, .int ((-1)), .ref sg, .null, .null, .ref st, .null, .ref ft, .null, .ref hy, .null, .null, .int 0, .null, .null, .null, .null, .null, .null, .int 0])), (sg, .inr (1, [.null, .int 0, .int 0, .int 0, .int 0, .int 0, .int 0, .long 0]))] sz)) 6 1808 (va_A [(x, .inr (0, [.ref tp, .int 0, .int ((-1)), .ref sg, .null, .null, .ref st, .null, .ref ft, .null, .ref hy, .null, .null, .int 0, .null, .null, .null, .null, .null, .null, .int 0])), (sg, .inr (1, [.null, .int 0, .int 0, .int 0, .int 0, .int 0, .int 0, .long 0]))] sz) := by
  refine Met.ofW (cc := b_SP_font) (maxL := 2) (ret := (some .int)) (by decide) rfl ?_
  intro p e s m args below meth c s₁ B hml hv
  obtain ⟨rfl, hsz, hb0, hP, hK, hD0⟩ := hv
  have hx := B.exec
  have hb := B.bytes
  have hr := B.returns
  have hts : ∀ wq ∈ tt, wq.before ([.ref x] : List Value).toArray s = true := hb0.hts
  have hown : s.vm.findClass "ScholarsPress" = some m.cls := findClass_of_methodNamed B.named
  have hlocks := B.notSynchronized
  subst hsz
  have hD := hD0.self (sz := s.heap.size)
  generalize hAe : va_A [(x, .inr (0, [.ref tp, .int 0, .int ((-1)), .ref sg, .null, .null, .ref st, .null, .ref ft, .null, .ref hy, .null, .null, .int 0, .null, .null, .null, .null, .null, .null, .int 0])), (sg, .inr (1, [.null, .int 0, .int 0, .int 0, .int 0, .int 0, .int 0, .long 0]))] s.heap.size = A at hD ⊢
  have hA : ∀ q : Nat, s.heap.size ≤ q → A q := fun q h => by rw [← hAe]; exact Or.inr h
  have hS : va_S A s.heap s.heap [] := va_S.rf
  have hP : va_P (dC, dI) classes [(x, .inr (0, [.ref tp, .int 0, .int ((-1)), .ref sg, .null, .null, .ref st, .null, .ref ft, .null, .ref hy, .null, .null, .int 0, .null, .null, .null, .null, .null, .null, .int 0])), (sg, .inr (1, [.null, .int 0, .int 0, .int 0, .int 0, .int 0, .int 0, .long 0]))] s.heap := hP
  have hl := lv_entry ([.ref x]) (n := 2) (Nat.le_of_ble_eq_true rfl)
  rw [lg_entry_eq]
  generalize (lg_sl ([.ref x]) ++ List.replicate (2 - (lg_sl ([.ref x])).length) Slot.unset).toArray = ls at hl ⊢
  have hl : lv_has ls 2 [(0, .ref x)] := hl
  refine lv_aload_n hx hb d_SP_font_0 rfl (lv_at hl 0 rfl) ?_
  refine va_get (D := (dC, dI)) (ci := 0) (v := .null) (C := "ScholarsPress") (T := F_SP) (N := 21) hx hb hts in_SP hown hK hP 0 rfl rfl 9 (by decide) (hts (.fieldLink "ScholarsPress" 58 "ScholarsPress" "fontSpare" "LScholarsPress$Font;") k_509) (fun _ h9 => h9) rfl d_SP_font_1 ?_
  refine lv_ifnonnullN hx hb d_SP_font_4 ?_
  refine lv_aload_n hx hb d_SP_font_7 rfl (lv_at hl 0 rfl) ?_
  refine va_new (D := (dC, dI)) (ci := 3) (fs := DEF_PFont) (C := "ScholarsPress$Font") (T := F_PFont) (N := 8) hx hb hts in_PFont t_PFont t_PFont_ok hown (hts (.classLink "ScholarsPress" 31 "ScholarsPress$Font") k_410) (hts (.instantiable "ScholarsPress$Font" 8) k_411) (hts (.initialized "ScholarsPress$Font") k_244) hK hP hD hS hA rfl df_PFont (Nat.le_of_ble_eq_true rfl) (Nat.le_of_ble_eq_true rfl) d_SP_font_8 (fun q_1 H hP hD hS => ?_)
  have hP : va_P (dC, dI) classes [(x, .inr (0, [.ref tp, .int 0, .int ((-1)), .ref sg, .null, .null, .ref st, .null, .ref ft, .null, .ref hy, .null, .null, .int 0, .null, .null, .null, .null, .null, .null, .int 0])), (sg, .inr (1, [.null, .int 0, .int 0, .int 0, .int 0, .int 0, .int 0, .long 0])), (q_1, .inr (3, DEF_PFont))] H := hP
  have hD : va_D A [(x, .inr (0, [.ref tp, .int 0, .int ((-1)), .ref sg, .null, .null, .ref st, .null, .ref ft, .null, .ref hy, .null, .null, .int 0, .null, .null, .null, .null, .null, .null, .int 0])), (sg, .inr (1, [.null, .int 0, .int 0, .int 0, .int 0, .int 0, .int 0, .long 0])), (q_1, .inr (3, DEF_PFont))] := hD
  refine lv_dup hx hb d_SP_font_11 rfl ?_
  refine vi_v (wc := [(q_1, .inr (3, DEF_PFont))]) (wr := [(x, .inr (0, [.ref tp, .int 0, .int ((-1)), .ref sg, .null, .null, .ref st, .null, .ref ft, .null, .ref hy, .null, .null, .int 0, .null, .null, .null, .null, .null, .null, .int 0])), (sg, .inr (1, [.null, .int 0, .int 0, .int 0, .int 0, .int 0, .int 0, .long 0]))]) (va_runI (As := []) (rest := [.ref q_1, .ref x]) ⟨hx, hb, hml, hown, hts⟩ (c_PFont_init l dC dI q_1 H.size) (cwI 0 hts (tt_1 kw_PFont_init rfl) rfl rfl rfl (hts _ k_244) (hts _ k_412) (hts _ k_413) rfl (by decide +kernel) ⟨Nat.le_of_ble_eq_true rfl, Nat.le_of_ble_eq_true rfl⟩) ⟨pr_blind, pr_pre hb0 (hP.sub [2] rfl) (hK.sub [] rfl) (hD.sub [2] (by decide) rfl)⟩ rfl rfl hl.1 rfl (lv_room (Nat.le_of_ble_eq_true rfl)) d_SP_font_12 ⟨Nat.le_of_ble_eq_true rfl, Nat.le_of_ble_eq_true rfl⟩) hP hD hK hS hA [2] [0, 1] rfl rfl (by decide) (by decide) (fun u H locs hw hP hK hD hS => ?_)
  obtain ⟨U_2, rfl⟩ : ∃ z, z = u := ⟨_, rfl⟩
  have hP : va_P (dC, dI) classes [(x, .inr (0, [.ref tp, .int 0, .int ((-1)), .ref sg, .null, .null, .ref st, .null, .ref ft, .null, .ref hy, .null, .null, .int 0, .null, .null, .null, .null, .null, .null, .int 0])), (sg, .inr (1, [.null, .int 0, .int 0, .int 0, .int 0, .int 0, .int 0, .long 0])), (q_1, .inr (3, [.ref (U_2.1 0), .ref (U_2.1 1), .int 0, .ref (U_2.1 2), .ref (U_2.1 3), .ref (U_2.1 4), .int 0, .int 0])), ((U_2.1 0), .inl ((U_2.2.2 0), 128, .inl U_2.2.1)), ((U_2.1 1), .inl ((U_2.2.2 1), 128, .inl ((fun _ => 0)))), ((U_2.1 4), .inl ((U_2.2.2 2), 1024, .inl ((fun _ => 0))))] H := hP
  have hD : va_D A [(x, .inr (0, [.ref tp, .int 0, .int ((-1)), .ref sg, .null, .null, .ref st, .null, .ref ft, .null, .ref hy, .null, .null, .int 0, .null, .null, .null, .null, .null, .null, .int 0])), (sg, .inr (1, [.null, .int 0, .int 0, .int 0, .int 0, .int 0, .int 0, .long 0])), (q_1, .inr (3, [.ref (U_2.1 0), .ref (U_2.1 1), .int 0, .ref (U_2.1 2), .ref (U_2.1 3), .ref (U_2.1 4), .int 0, .int 0])), ((U_2.1 0), .inl ((U_2.2.2 0), 128, .inl U_2.2.1)), ((U_2.1 1), .inl ((U_2.2.2 1), 128, .inl ((fun _ => 0)))), ((U_2.1 4), .inl ((U_2.2.2 2), 1024, .inl ((fun _ => 0))))] := hD
  have hK : va_K (dC, dI) classes [((U_2.2.2 0), .int), ((U_2.2.2 1), .boolean), ((U_2.2.2 2), .int)] s := hK.sub [0, 1, 2] rfl
  refine va_put (D := (dC, dI)) (ci := 0) (v := .ref q_1) (ty := .object "ScholarsPress$Font") (C := "ScholarsPress") (T := F_SP) (N := 21) hx hb hts in_SP t_SP t_SP_ok n_SP hown hK hP hD hS 0 rfl rfl 9 (by decide) (hts (.fieldLink "ScholarsPress" 58 "ScholarsPress" "fontSpare" "LScholarsPress$Font;") k_509) (fun _ h9 => h9) rfl (by decide +kernel) rfl rfl (Nat.le_of_ble_eq_true rfl) d_SP_font_15 (fun H locs hP hD hS => ?_)
  have hP : va_P (dC, dI) classes [(x, .inr (0, [.ref tp, .int 0, .int ((-1)), .ref sg, .null, .null, .ref st, .null, .ref ft, .ref q_1, .ref hy, .null, .null, .int 0, .null, .null, .null, .null, .null, .null, .int 0])), (sg, .inr (1, [.null, .int 0, .int 0, .int 0, .int 0, .int 0, .int 0, .long 0])), (q_1, .inr (3, [.ref (U_2.1 0), .ref (U_2.1 1), .int 0, .ref (U_2.1 2), .ref (U_2.1 3), .ref (U_2.1 4), .int 0, .int 0])), ((U_2.1 0), .inl ((U_2.2.2 0), 128, .inl U_2.2.1)), ((U_2.1 1), .inl ((U_2.2.2 1), 128, .inl ((fun _ => 0)))), ((U_2.1 4), .inl ((U_2.2.2 2), 1024, .inl ((fun _ => 0))))] H := hP
  have hD : va_D A [(x, .inr (0, [.ref tp, .int 0, .int ((-1)), .ref sg, .null, .null, .ref st, .null, .ref ft, .ref q_1, .ref hy, .null, .null, .int 0, .null, .null, .null, .null, .null, .null, .int 0])), (sg, .inr (1, [.null, .int 0, .int 0, .int 0, .int 0, .int 0, .int 0, .long 0])), (q_1, .inr (3, [.ref (U_2.1 0), .ref (U_2.1 1), .int 0, .ref (U_2.1 2), .ref (U_2.1 3), .ref (U_2.1 4), .int 0, .int 0])), ((U_2.1 0), .inl ((U_2.2.2 0), 128, .inl U_2.2.1)), ((U_2.1 1), .inl ((U_2.2.2 1), 128, .inl ((fun _ => 0)))), ((U_2.1 4), .inl ((U_2.2.2 2), 1024, .inl ((fun _ => 0))))] := hD
  refine lv_aload_n hx hb d_SP_font_18 rfl (lv_at hl 0 rfl) ?_
  refine va_get (D := (dC, dI)) (ci := 0) (v := .ref sg) (C := "ScholarsPress") (T := F_SP) (N := 21) hx hb hts in_SP hown hK hP 0 rfl rfl 3 (by decide) (hts (.fieldLink "ScholarsPress" 20 "ScholarsPress" "signs" "LScholarsPress$Signs;") k_503) (fun _ h9 => h9) rfl d_SP_font_19 ?_
  refine lv_aload_n hx hb d_SP_font_22 rfl (lv_at hl 0 rfl) ?_
  refine va_get (D := (dC, dI)) (ci := 0) (v := .ref tp) (C := "ScholarsPress") (T := F_SP) (N := 21) hx hb hts in_SP hown hK hP 0 rfl rfl 0 (by decide) (hts (.fieldLink "ScholarsPress" 9 "ScholarsPress" "tape" "[B") k_500) (fun _ h9 => h9) rfl d_SP_font_23 ?_
  refine lv_aload_n hx hb d_SP_font_26 rfl (lv_at hl 0 rfl) ?_
  refine vi_i (wc := [(x, .inr (0, [.ref tp, .int 0, .int ((-1)), .ref sg, .null, .null, .ref st, .null, .ref ft, .ref q_1, .ref hy, .null, .null, .int 0, .null, .null, .null, .null, .null, .null, .int 0]))]) (wr := [(sg, .inr (1, [.null, .int 0, .int 0, .int 0, .int 0, .int 0, .int 0, .long 0])), (q_1, .inr (3, [.ref (U_2.1 0), .ref (U_2.1 1), .int 0, .ref (U_2.1 2), .ref (U_2.1 3), .ref (U_2.1 4), .int 0, .int 0])), ((U_2.1 0), .inl ((U_2.2.2 0), 128, .inl U_2.2.1)), ((U_2.1 1), .inl ((U_2.2.2 1), 128, .inl ((fun _ => 0)))), ((U_2.1 4), .inl ((U_2.2.2 2), 1024, .inl ((fun _ => 0))))]) (va_runV (As := []) (rest := [.ref tp, .ref sg]) ⟨hx, hb, hml, hown, hts⟩ (c_SP_takeTape l dC dI x tp (fun k => match k with | 0 => (.ref tp : Value) | 1 => (.int 0 : Value) | 2 => (.int ((-1)) : Value) | 3 => (.ref sg : Value) | 4 => (.null : Value) | 5 => (.null : Value) | 6 => (.ref st : Value) | 7 => (.null : Value) | 8 => (.ref ft : Value) | 9 => (.ref q_1 : Value) | 10 => (.ref hy : Value) | 11 => (.null : Value) | 12 => (.null : Value) | 13 => (.int 0 : Value) | 14 => (.null : Value) | 15 => (.null : Value) | 16 => (.null : Value) | 17 => (.null : Value) | 18 => (.null : Value) | 19 => (.null : Value) | _ => (.int 0 : Value)) H.size) (cwV 0 hts (tt_V k_681 k_683 k_2 k_240 kw_SP_takeTape) rfl rfl rfl (by decide +kernel) ⟨Nat.le_of_ble_eq_true rfl, Nat.le_of_ble_eq_true rfl⟩) ⟨pr_blind, va_recv hK hP (ci := 0) (q0 := 0) rfl rfl, pr_pre hb0 (hP.sub [0] rfl) (hK.sub [] rfl) (hD.sub [0] (by decide) rfl)⟩ rfl rfl hl.1 rfl (lv_room (Nat.le_of_ble_eq_true rfl)) d_SP_font_27 ⟨Nat.le_of_ble_eq_true rfl, Nat.le_of_ble_eq_true rfl⟩) hP hD hK hS hA [0] [1, 2, 3, 4, 5] rfl rfl (by decide) (by decide) (fun r u H locs hw hP hK hD hS => ?_)
  subst hw
  have hP : va_P (dC, dI) classes [(sg, .inr (1, [.null, .int 0, .int 0, .int 0, .int 0, .int 0, .int 0, .long 0])), (q_1, .inr (3, [.ref (U_2.1 0), .ref (U_2.1 1), .int 0, .ref (U_2.1 2), .ref (U_2.1 3), .ref (U_2.1 4), .int 0, .int 0])), ((U_2.1 0), .inl ((U_2.2.2 0), 128, .inl U_2.2.1)), ((U_2.1 1), .inl ((U_2.2.2 1), 128, .inl ((fun _ => 0)))), ((U_2.1 4), .inl ((U_2.2.2 2), 1024, .inl ((fun _ => 0)))), (x, .inr (0, [.ref tp, .int 0, .int ((-1)), .ref sg, .null, .null, .ref st, .null, .ref ft, .ref q_1, .ref hy, .null, .null, .int 0, .null, .null, .null, .null, .null, .null, .int 0]))] H := hP
  have hD : va_D A [(sg, .inr (1, [.null, .int 0, .int 0, .int 0, .int 0, .int 0, .int 0, .long 0])), (q_1, .inr (3, [.ref (U_2.1 0), .ref (U_2.1 1), .int 0, .ref (U_2.1 2), .ref (U_2.1 3), .ref (U_2.1 4), .int 0, .int 0])), ((U_2.1 0), .inl ((U_2.2.2 0), 128, .inl U_2.2.1)), ((U_2.1 1), .inl ((U_2.2.2 1), 128, .inl ((fun _ => 0)))), ((U_2.1 4), .inl ((U_2.2.2 2), 1024, .inl ((fun _ => 0)))), (x, .inr (0, [.ref tp, .int 0, .int ((-1)), .ref sg, .null, .null, .ref st, .null, .ref ft, .ref q_1, .ref hy, .null, .null, .int 0, .null, .null, .null, .null, .null, .null, .int 0]))] := hD
  have hK : va_K (dC, dI) classes [((U_2.2.2 0), .int), ((U_2.2.2 1), .boolean), ((U_2.2.2 2), .int)] s := hK.sub [0, 1, 2] rfl
  refine vi_v (wc := [(sg, .inr (1, [.null, .int 0, .int 0, .int 0, .int 0, .int 0, .int 0, .long 0]))]) (wr := [(q_1, .inr (3, [.ref (U_2.1 0), .ref (U_2.1 1), .int 0, .ref (U_2.1 2), .ref (U_2.1 3), .ref (U_2.1 4), .int 0, .int 0])), ((U_2.1 0), .inl ((U_2.2.2 0), 128, .inl U_2.2.1)), ((U_2.1 1), .inl ((U_2.2.2 1), 128, .inl ((fun _ => 0)))), ((U_2.1 4), .inl ((U_2.2.2 2), 1024, .inl ((fun _ => 0)))), (x, .inr (0, [.ref tp, .int 0, .int ((-1)), .ref sg, .null, .null, .ref st, .null, .ref ft, .ref q_1, .ref hy, .null, .null, .int 0, .null, .null, .null, .null, .null, .null, .int 0]))]) (va_runV (As := [.ref tp, .int 0]) (rest := []) ⟨hx, hb, hml, hown, hts⟩ (c_PSigns_begin l dC dI sg tp H.size) (cwV 2 hts (tt_V k_685 k_686 k_687 k_241 kw_PSigns_begin) rfl rfl rfl (by decide +kernel) ⟨Nat.le_of_ble_eq_true rfl, Nat.le_of_ble_eq_true rfl⟩) ⟨pr_blind, va_recv hK hP (ci := 1) (q0 := 0) rfl rfl, pr_pre hb0 (hP.sub [0] rfl) (hK.sub [] rfl) (hD.sub [0] (by decide) rfl)⟩ rfl rfl hl.1 rfl (lv_room (Nat.le_of_ble_eq_true rfl)) d_SP_font_30 ⟨Nat.le_of_ble_eq_true rfl, Nat.le_of_ble_eq_true rfl⟩) hP hD hK hS hA [0] [1, 2, 3, 4, 5] rfl rfl (by decide) (by decide) (fun u H locs hw hP hK hD hS => ?_)
  have hP : va_P (dC, dI) classes [(q_1, .inr (3, [.ref (U_2.1 0), .ref (U_2.1 1), .int 0, .ref (U_2.1 2), .ref (U_2.1 3), .ref (U_2.1 4), .int 0, .int 0])), ((U_2.1 0), .inl ((U_2.2.2 0), 128, .inl U_2.2.1)), ((U_2.1 1), .inl ((U_2.2.2 1), 128, .inl ((fun _ => 0)))), ((U_2.1 4), .inl ((U_2.2.2 2), 1024, .inl ((fun _ => 0)))), (x, .inr (0, [.ref tp, .int 0, .int ((-1)), .ref sg, .null, .null, .ref st, .null, .ref ft, .ref q_1, .ref hy, .null, .null, .int 0, .null, .null, .null, .null, .null, .null, .int 0])), (sg, .inr (1, [.ref tp, .int 0, .int 0, .int 0, .int 0, .int 0, .int 0, .long 0]))] H := hP
  have hD : va_D A [(q_1, .inr (3, [.ref (U_2.1 0), .ref (U_2.1 1), .int 0, .ref (U_2.1 2), .ref (U_2.1 3), .ref (U_2.1 4), .int 0, .int 0])), ((U_2.1 0), .inl ((U_2.2.2 0), 128, .inl U_2.2.1)), ((U_2.1 1), .inl ((U_2.2.2 1), 128, .inl ((fun _ => 0)))), ((U_2.1 4), .inl ((U_2.2.2 2), 1024, .inl ((fun _ => 0)))), (x, .inr (0, [.ref tp, .int 0, .int ((-1)), .ref sg, .null, .null, .ref st, .null, .ref ft, .ref q_1, .ref hy, .null, .null, .int 0, .null, .null, .null, .null, .null, .null, .int 0])), (sg, .inr (1, [.ref tp, .int 0, .int 0, .int 0, .int 0, .int 0, .int 0, .long 0]))] := hD
  have hK : va_K (dC, dI) classes [((U_2.2.2 0), .int), ((U_2.2.2 1), .boolean), ((U_2.2.2 2), .int)] s := hK.sub [0, 1, 2] rfl
  refine lv_aload_n hx hb d_SP_font_33 rfl (lv_at hl 0 rfl) ?_
  refine va_get (D := (dC, dI)) (ci := 0) (v := .ref q_1) (C := "ScholarsPress") (T := F_SP) (N := 21) hx hb hts in_SP hown hK hP 4 rfl rfl 9 (by decide) (hts (.fieldLink "ScholarsPress" 58 "ScholarsPress" "fontSpare" "LScholarsPress$Font;") k_509) (fun _ h9 => h9) rfl d_SP_font_34 ?_
  refine lv_aload_n hx hb d_SP_font_37 rfl (lv_at hl 0 rfl) ?_
  refine va_get (D := (dC, dI)) (ci := 0) (v := .ref sg) (C := "ScholarsPress") (T := F_SP) (N := 21) hx hb hts in_SP hown hK hP 4 rfl rfl 3 (by decide) (hts (.fieldLink "ScholarsPress" 20 "ScholarsPress" "signs" "LScholarsPress$Signs;") k_503) (fun _ h9 => h9) rfl d_SP_font_38 ?_
  refine vi_i (wc := [(q_1, .inr (3, [.ref (U_2.1 0), .ref (U_2.1 1), .int 0, .ref (U_2.1 2), .ref (U_2.1 3), .ref (U_2.1 4), .int 0, .int 0])), ((U_2.1 0), .inl ((U_2.2.2 0), 128, .inl U_2.2.1)), ((U_2.1 4), .inl ((U_2.2.2 2), 1024, .inl ((fun _ => 0)))), ((U_2.1 1), .inl ((U_2.2.2 1), 128, .inl ((fun _ => 0)))), (sg, .inr (1, [.ref tp, .int 0, .int 0, .int 0, .int 0, .int 0, .int 0, .long 0]))]) (wr := [(x, .inr (0, [.ref tp, .int 0, .int ((-1)), .ref sg, .null, .null, .ref st, .null, .ref ft, .ref q_1, .ref hy, .null, .null, .int 0, .null, .null, .null, .null, .null, .null, .int 0]))]) (va_runV (As := [.ref sg]) (rest := []) ⟨hx, hb, hml, hown, hts⟩ (c_PFont_read l dC dI q_1 ((U_2.1 0)) ((U_2.1 4)) ((U_2.1 1)) sg tp ((U_2.1 2)) ((U_2.1 3)) ((U_2.2.2 0)) ((U_2.2.2 2)) ((U_2.2.2 1)) U_2.2.1 ((fun _ => 0)) ((fun _ => 0)) H.size) (cwV 1 hts (tt_V k_700 k_701 k_702 k_244 kw_PFont_read) rfl rfl rfl (by decide +kernel) ⟨Nat.le_of_ble_eq_true rfl, Nat.le_of_ble_eq_true rfl⟩) ⟨pr_blind, va_recv hK hP (ci := 3) (q0 := 0) rfl rfl, pr_pre hb0 (hP.sub [0, 1, 3, 2, 5] rfl) (hK.sub [0, 2, 1] rfl) (hD.sub [0, 1, 3, 2, 5] (by decide) rfl)⟩ rfl rfl hl.1 rfl (lv_room (Nat.le_of_ble_eq_true rfl)) d_SP_font_41 ⟨Nat.le_of_ble_eq_true rfl, Nat.le_of_ble_eq_true rfl⟩) hP hD hK hS hA [0, 1, 3, 2, 5] [4] rfl rfl (by decide) (by decide) (fun r u H locs hw hP hK hD hS => ?_)
  subst hw
  have hP : va_P (dC, dI) classes [(x, .inr (0, [.ref tp, .int 0, .int ((-1)), .ref sg, .null, .null, .ref st, .null, .ref ft, .ref q_1, .ref hy, .null, .null, .int 0, .null, .null, .null, .null, .null, .null, .int 0])), (q_1, .inr (3, [.ref (U_2.1 0), .ref (U_2.1 1), .int 0, .ref (U_2.1 2), .ref (U_2.1 3), .ref (U_2.1 4), .int 0, .int 0]))] H := hP
  have hD : va_D A [(x, .inr (0, [.ref tp, .int 0, .int ((-1)), .ref sg, .null, .null, .ref st, .null, .ref ft, .ref q_1, .ref hy, .null, .null, .int 0, .null, .null, .null, .null, .null, .null, .int 0])), (q_1, .inr (3, [.ref (U_2.1 0), .ref (U_2.1 1), .int 0, .ref (U_2.1 2), .ref (U_2.1 3), .ref (U_2.1 4), .int 0, .int 0]))] := hD
  have hK : va_K (dC, dI) classes [((U_2.2.2 0), .int), ((U_2.2.2 1), .boolean), ((U_2.2.2 2), .int)] s := hK.sub [0, 1, 2] rfl
  refine lv_if_ne (tgt := 66) hx hb d_SP_font_44 (by decide) (fun c_3 => ?_) (fun c_3 => absurd c_3 (by decide))
  refine lv_aload_n hx hb d_SP_font_66 rfl (lv_at hl 0 rfl) ?_
  refine va_get (D := (dC, dI)) (ci := 0) (v := .ref q_1) (C := "ScholarsPress") (T := F_SP) (N := 21) hx hb hts in_SP hown hK hP 0 rfl rfl 9 (by decide) (hts (.fieldLink "ScholarsPress" 58 "ScholarsPress" "fontSpare" "LScholarsPress$Font;") k_509) (fun _ h9 => h9) rfl d_SP_font_67 ?_
  refine lv_astore_n (lv' := [(1, .ref q_1), (0, .ref x)]) hx hb d_SP_font_70 rfl hl (by decide) rfl (fun ls hl => ?_)
  refine lv_aload_n hx hb d_SP_font_71 rfl (lv_at hl 1 rfl) ?_
  refine lv_aload_n hx hb d_SP_font_72 rfl (lv_at hl 1 rfl) ?_
  refine va_get (D := (dC, dI)) (ci := 0) (v := .ref ft) (C := "ScholarsPress") (T := F_SP) (N := 21) hx hb hts in_SP hown hK hP 0 rfl rfl 8 (by decide) (hts (.fieldLink "ScholarsPress" 34 "ScholarsPress" "fontNow" "LScholarsPress$Font;") k_508) (fun _ h9 => h9) rfl d_SP_font_73 ?_
  refine va_put (D := (dC, dI)) (ci := 0) (v := .ref ft) (ty := .object "ScholarsPress$Font") (C := "ScholarsPress") (T := F_SP) (N := 21) hx hb hts in_SP t_SP t_SP_ok n_SP hown hK hP hD hS 0 rfl rfl 9 (by decide) (hts (.fieldLink "ScholarsPress" 58 "ScholarsPress" "fontSpare" "LScholarsPress$Font;") k_509) (fun _ h9 => h9) rfl (by decide +kernel) rfl rfl (Nat.le_of_ble_eq_true rfl) d_SP_font_76 (fun H locs hP hD hS => ?_)
  have hP : va_P (dC, dI) classes [(x, .inr (0, [.ref tp, .int 0, .int ((-1)), .ref sg, .null, .null, .ref st, .null, .ref ft, .ref ft, .ref hy, .null, .null, .int 0, .null, .null, .null, .null, .null, .null, .int 0])), (q_1, .inr (3, [.ref (U_2.1 0), .ref (U_2.1 1), .int 0, .ref (U_2.1 2), .ref (U_2.1 3), .ref (U_2.1 4), .int 0, .int 0]))] H := hP
  have hD : va_D A [(x, .inr (0, [.ref tp, .int 0, .int ((-1)), .ref sg, .null, .null, .ref st, .null, .ref ft, .ref ft, .ref hy, .null, .null, .int 0, .null, .null, .null, .null, .null, .null, .int 0])), (q_1, .inr (3, [.ref (U_2.1 0), .ref (U_2.1 1), .int 0, .ref (U_2.1 2), .ref (U_2.1 3), .ref (U_2.1 4), .int 0, .int 0]))] := hD
  refine lv_aload_n hx hb d_SP_font_79 rfl (lv_at hl 1 rfl) ?_
  refine lv_aload_n hx hb d_SP_font_80 rfl (lv_at hl 0 rfl) ?_
  refine va_put (D := (dC, dI)) (ci := 0) (v := .ref q_1) (ty := .object "ScholarsPress$Font") (C := "ScholarsPress") (T := F_SP) (N := 21) hx hb hts in_SP t_SP t_SP_ok n_SP hown hK hP hD hS 0 rfl rfl 8 (by decide) (hts (.fieldLink "ScholarsPress" 34 "ScholarsPress" "fontNow" "LScholarsPress$Font;") k_508) (fun _ h9 => h9) rfl (by decide +kernel) rfl rfl (Nat.le_of_ble_eq_true rfl) d_SP_font_81 (fun H locs hP hD hS => ?_)
  have hP : va_P (dC, dI) classes [(x, .inr (0, [.ref tp, .int 0, .int ((-1)), .ref sg, .null, .null, .ref st, .null, .ref q_1, .ref ft, .ref hy, .null, .null, .int 0, .null, .null, .null, .null, .null, .null, .int 0])), (q_1, .inr (3, [.ref (U_2.1 0), .ref (U_2.1 1), .int 0, .ref (U_2.1 2), .ref (U_2.1 3), .ref (U_2.1 4), .int 0, .int 0]))] H := hP
  have hD : va_D A [(x, .inr (0, [.ref tp, .int 0, .int ((-1)), .ref sg, .null, .null, .ref st, .null, .ref q_1, .ref ft, .ref hy, .null, .null, .int 0, .null, .null, .null, .null, .null, .null, .int 0])), (q_1, .inr (3, [.ref (U_2.1 0), .ref (U_2.1 1), .int 0, .ref (U_2.1 2), .ref (U_2.1 3), .ref (U_2.1 4), .int 0, .int 0]))] := hD
  refine lv_aload_n hx hb d_SP_font_84 rfl (lv_at hl 0 rfl) ?_
  refine va_get (D := (dC, dI)) (ci := 3) (v := .int 0) (C := "ScholarsPress$Font") (T := F_PFont) (N := 8) hx hb hts in_PFont hown hK hP 1 rfl rfl 2 (by decide) (hts (.fieldLink "ScholarsPress" 79 "ScholarsPress$Font" "widthsTold" "I") k_422) (fun _ h9 => h9) rfl d_SP_font_85 ?_
  refine lv_aload_n hx hb d_SP_font_88 rfl (lv_at hl 0 rfl) ?_
  refine va_get (D := (dC, dI)) (ci := 3) (v := .int 0) (C := "ScholarsPress$Font") (T := F_PFont) (N := 8) hx hb hts in_PFont hown hK hP 1 rfl rfl 6 (by decide) (hts (.fieldLink "ScholarsPress" 82 "ScholarsPress$Font" "pairs" "I") k_427) (fun _ h9 => h9) rfl d_SP_font_89 ?_
  refine lv_iadd hx hb d_SP_font_92 ?_
  refine lv_topi (fun v_4 ev_4 => ?_)
  obtain rfl : v_4 = 0 := ev_4.trans (by decide)
  have hP9 := hP.sub (ws' := []) [] rfl
  have hD9 := hD.sub (ws' := []) [] (by decide) rfl
  have hK9 := hK.sub (tys' := []) [] rfl
  exact W.iret (v := 0) hx hb hr (fun t ht hW => ⟨⟨0, (), rfl, rfl, by rw [ht]; exact hP9, va_K.moved hW.alike hK9, hD9⟩, hS.F ht⟩) hS.2.2 d_SP_font_93
set_option maxHeartbeats 4000000 in
set_option maxRecDepth 100000 in
/-- Hyphens.read of an empty text -/
theorem c_PHyphens_read (l : Launch) (dC : Nat → ClassId) (dI : Nat → Nat → Nat) (h2 hd tp : Nat) (yr : Nat → Nat) (c1 : ClassId) (f1 : Nat → Int32) (sz : Nat) : Met l y_PHyphens_read [w_PHyphens_read] ({ frames := 1, cells := 0, slots := 0, locals := 23 }) (va_Pc [.ref h2, .ref tp, .int 0] (pr sz (dC, dI) [(h2, .inr (4, [.int 0, .int 2, .int 3, .int 0, .int 0, .ref (yr 0), .ref (yr 1), .ref (yr 2), .ref (yr 3), .ref hd, .int 0, .ref (yr 4), .ref (yr 5), .ref (yr 6)])), (hd, .inl (c1, 128, .inl f1))] [(c1, .int)])) (va_Qi (fun (r : Int32) (u : Unit) => r = 1) (bw (dC, dI) (va_A [(h2, .inr (4, [.int 0, .int 2, .int 3, .int 0, .int 0, .ref (yr 0), .ref (yr 1), .ref (yr 2), .ref (yr 3), .ref hd, .int 0, .ref (yr 4), .ref (yr 5), .ref (yr 6)])), (hd, .inl (c1, 128, .inl f1))] sz) (fun u : Unit => [(h2, .inr (4, [.int 0, .int 2, .int 3, .int 0, .int 0, .ref (yr 0), .ref (yr 1), .ref (yr 2), .ref (yr 3), .ref hd, .int 0, .ref (yr 4), .ref (yr 5), .ref (yr 6)]))]) (fun u : Unit => [])) (va_A [(h2, .inr (4, [.int 0, .int 2, .int 3, .int 0, .int 0, .ref (yr 0), .ref (yr 1), .ref (yr 2), .ref (yr 3), .ref hd, .int 0, .ref (yr 4), .ref (yr 5), .ref (yr 6)])), (hd, .inl (c1, 128, .inl f1))] sz)) 0 0 (va_A [(h2, .inr (4, [.int 0, .int 2, .int 3, .int 0, .int 0, .ref (yr 0), .ref (yr 1), .ref (yr 2), .ref (yr 3), .ref hd, .int 0, .ref (yr 4), .ref (yr 5), .ref (yr 6)])), (hd, .inl (c1, 128, .inl f1))] sz) := by
  refine Met.ofW (cc := b_PHyphens_read) (maxL := 5) (ret := (some .boolean)) (by decide) rfl ?_
  intro p e s m args below meth c s₁ B hml hv
  obtain ⟨rfl, hsz, hb0, hP, hK, hD0⟩ := hv
  have hx := B.exec
  have hb := B.bytes
  have hr := B.returns
  have hts : ∀ wq ∈ tt, wq.before ([.ref h2, .ref tp, .int 0] : List Value).toArray s = true := hb0.hts
  have hown : s.vm.findClass "ScholarsPress$Hyphens" = some m.cls := findClass_of_methodNamed B.named
  have hlocks := B.notSynchronized
  subst hsz
  have hD := hD0.self (sz := s.heap.size)
  generalize hAe : va_A [(h2, .inr (4, [.int 0, .int 2, .int 3, .int 0, .int 0, .ref (yr 0), .ref (yr 1), .ref (yr 2), .ref (yr 3), .ref hd, .int 0, .ref (yr 4), .ref (yr 5), .ref (yr 6)])), (hd, .inl (c1, 128, .inl f1))] s.heap.size = A at hD ⊢
  have hA : ∀ q : Nat, s.heap.size ≤ q → A q := fun q h => by rw [← hAe]; exact Or.inr h
  have hS : va_S A s.heap s.heap [] := va_S.rf
  have hP : va_P (dC, dI) classes [(h2, .inr (4, [.int 0, .int 2, .int 3, .int 0, .int 0, .ref (yr 0), .ref (yr 1), .ref (yr 2), .ref (yr 3), .ref hd, .int 0, .ref (yr 4), .ref (yr 5), .ref (yr 6)])), (hd, .inl (c1, 128, .inl f1))] s.heap := hP
  have hl := lv_entry ([.ref h2, .ref tp, .int 0]) (n := 5) (Nat.le_of_ble_eq_true rfl)
  rw [lg_entry_eq]
  generalize (lg_sl ([.ref h2, .ref tp, .int 0]) ++ List.replicate (5 - (lg_sl ([.ref h2, .ref tp, .int 0])).length) Slot.unset).toArray = ls at hl ⊢
  have hl : lv_has ls 5 [(0, .ref h2), (1, .ref tp), (2, .int 0)] := hl
  refine lv_aload_n hx hb d_PHyphens_read_0 rfl (lv_at hl 0 rfl) ?_
  refine lv_iconst (v := 2) hx hb d_PHyphens_read_1 (by decide) ?_
  refine va_put (D := (dC, dI)) (ci := 4) (v := .int 2) (ty := .int) (C := "ScholarsPress$Hyphens") (T := F_PHyphens) (N := 14) hx hb hts in_PHyphens t_PHyphens t_PHyphens_ok n_PHyphens hown hK hP hD hS 0 rfl rfl 1 (by decide) (hts (.fieldLink "ScholarsPress$Hyphens" 7 "ScholarsPress$Hyphens" "ahead" "I") k_456) (fun _ h9 => h9) rfl (by decide +kernel) rfl rfl (Nat.le_of_ble_eq_true rfl) d_PHyphens_read_2 (fun H locs hP hD hS => ?_)
  have hP : va_P (dC, dI) classes [(h2, .inr (4, [.int 0, .int 2, .int 3, .int 0, .int 0, .ref (yr 0), .ref (yr 1), .ref (yr 2), .ref (yr 3), .ref hd, .int 0, .ref (yr 4), .ref (yr 5), .ref (yr 6)])), (hd, .inl (c1, 128, .inl f1))] H := hP
  have hD : va_D A [(h2, .inr (4, [.int 0, .int 2, .int 3, .int 0, .int 0, .ref (yr 0), .ref (yr 1), .ref (yr 2), .ref (yr 3), .ref hd, .int 0, .ref (yr 4), .ref (yr 5), .ref (yr 6)])), (hd, .inl (c1, 128, .inl f1))] := hD
  refine lv_aload_n hx hb d_PHyphens_read_5 rfl (lv_at hl 0 rfl) ?_
  refine lv_iconst (v := 3) hx hb d_PHyphens_read_6 (by decide) ?_
  refine va_put (D := (dC, dI)) (ci := 4) (v := .int 3) (ty := .int) (C := "ScholarsPress$Hyphens") (T := F_PHyphens) (N := 14) hx hb hts in_PHyphens t_PHyphens t_PHyphens_ok n_PHyphens hown hK hP hD hS 0 rfl rfl 2 (by decide) (hts (.fieldLink "ScholarsPress$Hyphens" 13 "ScholarsPress$Hyphens" "behind" "I") k_457) (fun _ h9 => h9) rfl (by decide +kernel) rfl rfl (Nat.le_of_ble_eq_true rfl) d_PHyphens_read_7 (fun H locs hP hD hS => ?_)
  have hP : va_P (dC, dI) classes [(h2, .inr (4, [.int 0, .int 2, .int 3, .int 0, .int 0, .ref (yr 0), .ref (yr 1), .ref (yr 2), .ref (yr 3), .ref hd, .int 0, .ref (yr 4), .ref (yr 5), .ref (yr 6)])), (hd, .inl (c1, 128, .inl f1))] H := hP
  have hD : va_D A [(h2, .inr (4, [.int 0, .int 2, .int 3, .int 0, .int 0, .ref (yr 0), .ref (yr 1), .ref (yr 2), .ref (yr 3), .ref hd, .int 0, .ref (yr 4), .ref (yr 5), .ref (yr 6)])), (hd, .inl (c1, 128, .inl f1))] := hD
  refine lv_aload_n hx hb d_PHyphens_read_10 rfl (lv_at hl 0 rfl) ?_
  refine lv_iconst (v := 0) hx hb d_PHyphens_read_11 (by decide) ?_
  refine va_put (D := (dC, dI)) (ci := 4) (v := .int 0) (ty := .boolean) (C := "ScholarsPress$Hyphens") (T := F_PHyphens) (N := 14) hx hb hts in_PHyphens t_PHyphens t_PHyphens_ok n_PHyphens hown hK hP hD hS 0 rfl rfl 3 (by decide) (hts (.fieldLink "ScholarsPress$Hyphens" 48 "ScholarsPress$Hyphens" "endsDue" "Z") k_458) (fun _ h9 => h9) rfl (by decide +kernel) rfl rfl (Nat.le_of_ble_eq_true rfl) d_PHyphens_read_12 (fun H locs hP hD hS => ?_)
  have hP : va_P (dC, dI) classes [(h2, .inr (4, [.int 0, .int 2, .int 3, .int 0, .int 0, .ref (yr 0), .ref (yr 1), .ref (yr 2), .ref (yr 3), .ref hd, .int 0, .ref (yr 4), .ref (yr 5), .ref (yr 6)])), (hd, .inl (c1, 128, .inl f1))] H := hP
  have hD : va_D A [(h2, .inr (4, [.int 0, .int 2, .int 3, .int 0, .int 0, .ref (yr 0), .ref (yr 1), .ref (yr 2), .ref (yr 3), .ref hd, .int 0, .ref (yr 4), .ref (yr 5), .ref (yr 6)])), (hd, .inl (c1, 128, .inl f1))] := hD
  refine lv_aload_n hx hb d_PHyphens_read_15 rfl (lv_at hl 0 rfl) ?_
  refine lv_iconst (v := 0) hx hb d_PHyphens_read_16 (by decide) ?_
  refine va_put (D := (dC, dI)) (ci := 4) (v := .int 0) (ty := .int) (C := "ScholarsPress$Hyphens") (T := F_PHyphens) (N := 14) hx hb hts in_PHyphens t_PHyphens t_PHyphens_ok n_PHyphens hown hK hP hD hS 0 rfl rfl 4 (by decide) (hts (.fieldLink "ScholarsPress$Hyphens" 52 "ScholarsPress$Hyphens" "patterns" "I") k_459) (fun _ h9 => h9) rfl (by decide +kernel) rfl rfl (Nat.le_of_ble_eq_true rfl) d_PHyphens_read_17 (fun H locs hP hD hS => ?_)
  have hP : va_P (dC, dI) classes [(h2, .inr (4, [.int 0, .int 2, .int 3, .int 0, .int 0, .ref (yr 0), .ref (yr 1), .ref (yr 2), .ref (yr 3), .ref hd, .int 0, .ref (yr 4), .ref (yr 5), .ref (yr 6)])), (hd, .inl (c1, 128, .inl f1))] H := hP
  have hD : va_D A [(h2, .inr (4, [.int 0, .int 2, .int 3, .int 0, .int 0, .ref (yr 0), .ref (yr 1), .ref (yr 2), .ref (yr 3), .ref hd, .int 0, .ref (yr 4), .ref (yr 5), .ref (yr 6)])), (hd, .inl (c1, 128, .inl f1))] := hD
  refine lv_aload_n hx hb d_PHyphens_read_20 rfl (lv_at hl 0 rfl) ?_
  refine lv_iconst (v := 0) hx hb d_PHyphens_read_21 (by decide) ?_
  refine va_put (D := (dC, dI)) (ci := 4) (v := .int 0) (ty := .int) (C := "ScholarsPress$Hyphens") (T := F_PHyphens) (N := 14) hx hb hts in_PHyphens t_PHyphens t_PHyphens_ok n_PHyphens hown hK hP hD hS 0 rfl rfl 10 (by decide) (hts (.fieldLink "ScholarsPress$Hyphens" 55 "ScholarsPress$Hyphens" "exceptions" "I") k_466) (fun _ h9 => h9) rfl (by decide +kernel) rfl rfl (Nat.le_of_ble_eq_true rfl) d_PHyphens_read_22 (fun H locs hP hD hS => ?_)
  have hP : va_P (dC, dI) classes [(h2, .inr (4, [.int 0, .int 2, .int 3, .int 0, .int 0, .ref (yr 0), .ref (yr 1), .ref (yr 2), .ref (yr 3), .ref hd, .int 0, .ref (yr 4), .ref (yr 5), .ref (yr 6)])), (hd, .inl (c1, 128, .inl f1))] H := hP
  have hD : va_D A [(h2, .inr (4, [.int 0, .int 2, .int 3, .int 0, .int 0, .ref (yr 0), .ref (yr 1), .ref (yr 2), .ref (yr 3), .ref hd, .int 0, .ref (yr 4), .ref (yr 5), .ref (yr 6)])), (hd, .inl (c1, 128, .inl f1))] := hD
  refine lv_aload_n hx hb d_PHyphens_read_25 rfl (lv_at hl 0 rfl) ?_
  refine va_get (D := (dC, dI)) (ci := 4) (v := .ref hd) (C := "ScholarsPress$Hyphens") (T := F_PHyphens) (N := 14) hx hb hts in_PHyphens hown hK hP 0 rfl rfl 9 (by decide) (hts (.fieldLink "ScholarsPress$Hyphens" 30 "ScholarsPress$Hyphens" "heads" "[I") k_465) (fun _ h9 => h9) rfl d_PHyphens_read_26 ?_
  refine lv_iconst (v := (-1)) hx hb d_PHyphens_read_29 (by decide) ?_
  refine vi_v (wc := [(hd, .inl (c1, 128, .inl f1))]) (wr := [(h2, .inr (4, [.int 0, .int 2, .int 3, .int 0, .int 0, .ref (yr 0), .ref (yr 1), .ref (yr 2), .ref (yr 3), .ref hd, .int 0, .ref (yr 4), .ref (yr 5), .ref (yr 6)]))]) (va_runS (As := [.ref hd, .int ((-1))]) (rest := []) ⟨hx, hb, hml, hown, hts⟩ (c_Arrays_fill l dC dI hd c1 128 f1 ((-1)) H.size (by decide)) (va_cwS 2 hts (tt_S2 k_453 k_417 k_245 kw_Arrays_fill) rfl rfl rfl (by decide +kernel) ⟨Nat.le_of_ble_eq_true rfl, Nat.le_of_ble_eq_true rfl⟩) ⟨pr_blind, pr_pre hb0 (hP.sub [1] rfl) (hK.sub [0] rfl) (hD.sub [1] (by decide) rfl)⟩ rfl rfl hl.1 rfl (lv_room (Nat.le_of_ble_eq_true rfl)) d_PHyphens_read_30 ⟨Nat.le_of_ble_eq_true rfl, Nat.le_of_ble_eq_true rfl⟩) hP hD hK hS hA [1] [0] rfl rfl (by decide) (by decide) (fun u H locs hw hP hK hD hS => ?_)
  have hP : va_P (dC, dI) classes [(h2, .inr (4, [.int 0, .int 2, .int 3, .int 0, .int 0, .ref (yr 0), .ref (yr 1), .ref (yr 2), .ref (yr 3), .ref hd, .int 0, .ref (yr 4), .ref (yr 5), .ref (yr 6)])), (hd, .inl (c1, 128, .inl u))] H := hP
  have hD : va_D A [(h2, .inr (4, [.int 0, .int 2, .int 3, .int 0, .int 0, .ref (yr 0), .ref (yr 1), .ref (yr 2), .ref (yr 3), .ref hd, .int 0, .ref (yr 4), .ref (yr 5), .ref (yr 6)])), (hd, .inl (c1, 128, .inl u))] := hD
  have hK : va_K (dC, dI) classes [(c1, .int)] s := hK.sub [0] rfl
  obtain ⟨U_1, rfl⟩ : ∃ z, z = u := ⟨_, rfl⟩
  refine lv_aload_n hx hb d_PHyphens_read_33 rfl (lv_at hl 0 rfl) ?_
  refine lv_iconst (v := 0) hx hb d_PHyphens_read_34 (by decide) ?_
  refine va_put (D := (dC, dI)) (ci := 4) (v := .int 0) (ty := .int) (C := "ScholarsPress$Hyphens") (T := F_PHyphens) (N := 14) hx hb hts in_PHyphens t_PHyphens t_PHyphens_ok n_PHyphens hown hK hP hD hS 0 rfl rfl 0 (by decide) (hts (.fieldLink "ScholarsPress$Hyphens" 58 "ScholarsPress$Hyphens" "at" "I") k_454) (fun _ h9 => h9) rfl (by decide +kernel) rfl rfl (Nat.le_of_ble_eq_true rfl) d_PHyphens_read_35 (fun H locs hP hD hS => ?_)
  have hP : va_P (dC, dI) classes [(h2, .inr (4, [.int 0, .int 2, .int 3, .int 0, .int 0, .ref (yr 0), .ref (yr 1), .ref (yr 2), .ref (yr 3), .ref hd, .int 0, .ref (yr 4), .ref (yr 5), .ref (yr 6)])), (hd, .inl (c1, 128, .inl U_1))] H := hP
  have hD : va_D A [(h2, .inr (4, [.int 0, .int 2, .int 3, .int 0, .int 0, .ref (yr 0), .ref (yr 1), .ref (yr 2), .ref (yr 3), .ref hd, .int 0, .ref (yr 4), .ref (yr 5), .ref (yr 6)])), (hd, .inl (c1, 128, .inl U_1))] := hD
  refine lv_iconst (v := 0) hx hb d_PHyphens_read_38 (by decide) ?_
  refine lv_istore_n (lv' := [(3, .int 0), (0, .ref h2), (1, .ref tp), (2, .int 0)]) hx hb d_PHyphens_read_39 rfl hl (by decide) rfl (fun ls hl => ?_)
  refine lv_iload_n hx hb d_PHyphens_read_40 rfl (lv_at hl 0 rfl) ?_
  refine lv_iload_n hx hb d_PHyphens_read_41 rfl (lv_at hl 3 rfl) ?_
  refine lv_icmp_gt (tgt := 151) hx hb d_PHyphens_read_42 (by decide) (fun c_2 => absurd c_2 (by decide)) (fun c_2 => ?_)
  refine lv_aload_n hx hb d_PHyphens_read_45 rfl (lv_at hl 1 rfl) ?_
  refine lv_aload_n hx hb d_PHyphens_read_46 rfl (lv_at hl 2 rfl) ?_
  refine lv_aload_n hx hb d_PHyphens_read_47 rfl (lv_at hl 1 rfl) ?_
  refine va_get (D := (dC, dI)) (ci := 4) (v := .int 0) (C := "ScholarsPress$Hyphens") (T := F_PHyphens) (N := 14) hx hb hts in_PHyphens hown hK hP 0 rfl rfl 0 (by decide) (hts (.fieldLink "ScholarsPress$Hyphens" 58 "ScholarsPress$Hyphens" "at" "I") k_454) (fun _ h9 => h9) rfl d_PHyphens_read_48 ?_
  refine lv_iload_n hx hb d_PHyphens_read_51 rfl (lv_at hl 3 rfl) ?_
  refine vi_i (wc := []) (wr := [(h2, .inr (4, [.int 0, .int 2, .int 3, .int 0, .int 0, .ref (yr 0), .ref (yr 1), .ref (yr 2), .ref (yr 3), .ref hd, .int 0, .ref (yr 4), .ref (yr 5), .ref (yr 6)])), (hd, .inl (c1, 128, .inl U_1))]) (va_runS (As := [.ref tp, .int 0, .int 0]) (rest := [.ref h2]) ⟨hx, hb, hml, hown, hts⟩ (c_PSigns_behindBlanks l dC dI tp H.size) (va_cwS 3 hts (tt_S2 k_810 k_694 k_241 kw_PSigns_behindBlanks) rfl rfl rfl (by decide +kernel) ⟨Nat.le_of_ble_eq_true rfl, Nat.le_of_ble_eq_true rfl⟩) ⟨pr_blind, pr_pre hb0 (hP.sub [] rfl) (hK.sub [] rfl) (hD.sub [] (by decide) rfl)⟩ rfl rfl hl.1 rfl (lv_room (Nat.le_of_ble_eq_true rfl)) d_PHyphens_read_52 ⟨Nat.le_of_ble_eq_true rfl, Nat.le_of_ble_eq_true rfl⟩) hP hD hK hS hA [] [0, 1] rfl rfl (by decide) (by decide) (fun r u H locs hw hP hK hD hS => ?_)
  subst hw
  have hP : va_P (dC, dI) classes [(h2, .inr (4, [.int 0, .int 2, .int 3, .int 0, .int 0, .ref (yr 0), .ref (yr 1), .ref (yr 2), .ref (yr 3), .ref hd, .int 0, .ref (yr 4), .ref (yr 5), .ref (yr 6)])), (hd, .inl (c1, 128, .inl U_1))] H := hP
  have hD : va_D A [(h2, .inr (4, [.int 0, .int 2, .int 3, .int 0, .int 0, .ref (yr 0), .ref (yr 1), .ref (yr 2), .ref (yr 3), .ref hd, .int 0, .ref (yr 4), .ref (yr 5), .ref (yr 6)])), (hd, .inl (c1, 128, .inl U_1))] := hD
  have hK : va_K (dC, dI) classes [(c1, .int)] s := hK.sub [0] rfl
  refine va_put (D := (dC, dI)) (ci := 4) (v := .int 0) (ty := .int) (C := "ScholarsPress$Hyphens") (T := F_PHyphens) (N := 14) hx hb hts in_PHyphens t_PHyphens t_PHyphens_ok n_PHyphens hown hK hP hD hS 0 rfl rfl 0 (by decide) (hts (.fieldLink "ScholarsPress$Hyphens" 58 "ScholarsPress$Hyphens" "at" "I") k_454) (fun _ h9 => h9) rfl (by decide +kernel) rfl rfl (Nat.le_of_ble_eq_true rfl) d_PHyphens_read_55 (fun H locs hP hD hS => ?_)
  have hP : va_P (dC, dI) classes [(h2, .inr (4, [.int 0, .int 2, .int 3, .int 0, .int 0, .ref (yr 0), .ref (yr 1), .ref (yr 2), .ref (yr 3), .ref hd, .int 0, .ref (yr 4), .ref (yr 5), .ref (yr 6)])), (hd, .inl (c1, 128, .inl U_1))] H := hP
  have hD : va_D A [(h2, .inr (4, [.int 0, .int 2, .int 3, .int 0, .int 0, .ref (yr 0), .ref (yr 1), .ref (yr 2), .ref (yr 3), .ref hd, .int 0, .ref (yr 4), .ref (yr 5), .ref (yr 6)])), (hd, .inl (c1, 128, .inl U_1))] := hD
  refine lv_aload_n hx hb d_PHyphens_read_58 rfl (lv_at hl 1 rfl) ?_
  refine va_get (D := (dC, dI)) (ci := 4) (v := .int 0) (C := "ScholarsPress$Hyphens") (T := F_PHyphens) (N := 14) hx hb hts in_PHyphens hown hK hP 0 rfl rfl 0 (by decide) (hts (.fieldLink "ScholarsPress$Hyphens" 58 "ScholarsPress$Hyphens" "at" "I") k_454) (fun _ h9 => h9) rfl d_PHyphens_read_59 ?_
  refine lv_iload_n hx hb d_PHyphens_read_62 rfl (lv_at hl 3 rfl) ?_
  refine lv_icmp_lt (tgt := 79) hx hb d_PHyphens_read_63 (by decide) (fun c_3 => absurd c_3 (by decide)) (fun c_3 => ?_)
  refine lv_aload_n hx hb d_PHyphens_read_66 rfl (lv_at hl 1 rfl) ?_
  refine va_get (D := (dC, dI)) (ci := 4) (v := .int 0) (C := "ScholarsPress$Hyphens") (T := F_PHyphens) (N := 14) hx hb hts in_PHyphens hown hK hP 0 rfl rfl 3 (by decide) (hts (.fieldLink "ScholarsPress$Hyphens" 48 "ScholarsPress$Hyphens" "endsDue" "Z") k_458) (fun _ h9 => h9) rfl d_PHyphens_read_67 ?_
  refine lv_if_ne (tgt := 77) hx hb d_PHyphens_read_70 (by decide) (fun c_4 => absurd c_4 (by decide)) (fun c_4 => ?_)
  refine lv_iconst (v := 1) hx hb d_PHyphens_read_73 (by decide) ?_
  refine lv_goto (tgt := 78) hx hb d_PHyphens_read_74 (by decide) ?_
  have hP9 := hP.sub (ws' := [(h2, .inr (4, [.int 0, .int 2, .int 3, .int 0, .int 0, .ref (yr 0), .ref (yr 1), .ref (yr 2), .ref (yr 3), .ref hd, .int 0, .ref (yr 4), .ref (yr 5), .ref (yr 6)]))]) [0] rfl
  have hD9 := hD.sub (ws' := [(h2, .inr (4, [.int 0, .int 2, .int 3, .int 0, .int 0, .ref (yr 0), .ref (yr 1), .ref (yr 2), .ref (yr 3), .ref hd, .int 0, .ref (yr 4), .ref (yr 5), .ref (yr 6)]))]) [0] (by decide) rfl
  have hK9 := hK.sub (tys' := []) [] rfl
  exact W.zret (ty := .boolean) (v := 1) hx hb hr (by decide) (fun t ht hW => ⟨⟨1, (), rfl, rfl, by rw [ht]; exact hP9, va_K.moved hW.alike hK9, hD9⟩, hS.F ht⟩) hS.2.2 d_PHyphens_read_78
set_option maxHeartbeats 4000000 in
set_option maxRecDepth 100000 in
/-- hyphens of an empty TAPE -/
theorem c_SP_hyphens (l : Launch) (dC : Nat → ClassId) (dI : Nat → Nat → Nat) (x tp sg st ft hy : Nat) (sz : Nat) : Met l y_SP_hyphens [w_SP_hyphens] ({ frames := 2, cells := 9, slots := 11725, locals := 47 }) (va_Pc [.ref x] (pr sz (dC, dI) [(x, .inr (0, [.ref tp, .int 0, .int ((-1)), .ref sg, .null, .null, .ref st, .null, .ref ft, .null, .ref hy, .null, .null, .int 0, .null, .null, .null, .null, .null, .null, .int 0]))] [])) (va_Qi (fun (r : Int32) (u : Unit) => r = 0) (bw (dC, dI) (va_A [(x, .inr (0, [.ref tp, .int 0, .int ((-1)), .ref sg, .null, .null, .ref st, .null, .ref ft, .null, .ref hy, .null, .null, .int 0, .null, .null, .null, .null, .null, .null, .int 0]))] sz) (fun u : Unit => []) (fun u : Unit => [])) (va_A [(x, .inr (0, [.ref tp, .int 0, .int ((-1)), .ref sg, .null, .null, .ref st, .null, .ref ft, .null, .ref hy, .null, .null, .int 0, .null, .null, .null, .null, .null, .null, .int 0]))] sz)) 9 11725 (va_A [(x, .inr (0, [.ref tp, .int 0, .int ((-1)), .ref sg, .null, .null, .ref st, .null, .ref ft, .null, .ref hy, .null, .null, .int 0, .null, .null, .null, .null, .null, .null, .int 0]))] sz) := by
  refine Met.ofW (cc := b_SP_hyphens) (maxL := 2) (ret := (some .int)) (by decide) rfl ?_
  intro p e s m args below meth c s₁ B hml hv
  obtain ⟨rfl, hsz, hb0, hP, hK, hD0⟩ := hv
  have hx := B.exec
  have hb := B.bytes
  have hr := B.returns
  have hts : ∀ wq ∈ tt, wq.before ([.ref x] : List Value).toArray s = true := hb0.hts
  have hown : s.vm.findClass "ScholarsPress" = some m.cls := findClass_of_methodNamed B.named
  have hlocks := B.notSynchronized
  subst hsz
  have hD := hD0.self (sz := s.heap.size)
  generalize hAe : va_A [(x, .inr (0, [.ref tp, .int 0, .int ((-1)), .ref sg, .null, .null, .ref st, .null, .ref ft, .null, .ref hy, .null, .null, .int 0, .null, .null, .null, .null, .null, .null, .int 0]))] s.heap.size = A at hD ⊢
  have hA : ∀ q : Nat, s.heap.size ≤ q → A q := fun q h => by rw [← hAe]; exact Or.inr h
  have hS : va_S A s.heap s.heap [] := va_S.rf
  have hP : va_P (dC, dI) classes [(x, .inr (0, [.ref tp, .int 0, .int ((-1)), .ref sg, .null, .null, .ref st, .null, .ref ft, .null, .ref hy, .null, .null, .int 0, .null, .null, .null, .null, .null, .null, .int 0]))] s.heap := hP
  have hl := lv_entry ([.ref x]) (n := 2) (Nat.le_of_ble_eq_true rfl)
  rw [lg_entry_eq]
  generalize (lg_sl ([.ref x]) ++ List.replicate (2 - (lg_sl ([.ref x])).length) Slot.unset).toArray = ls at hl ⊢
  have hl : lv_has ls 2 [(0, .ref x)] := hl
  refine lv_aload_n hx hb d_SP_hyphens_0 rfl (lv_at hl 0 rfl) ?_
  refine va_get (D := (dC, dI)) (ci := 0) (v := .null) (C := "ScholarsPress") (T := F_SP) (N := 21) hx hb hts in_SP hown hK hP 0 rfl rfl 11 (by decide) (hts (.fieldLink "ScholarsPress" 85 "ScholarsPress" "hyphensSpare" "LScholarsPress$Hyphens;") k_511) (fun _ h9 => h9) rfl d_SP_hyphens_1 ?_
  refine lv_ifnonnullN hx hb d_SP_hyphens_4 ?_
  refine lv_aload_n hx hb d_SP_hyphens_7 rfl (lv_at hl 0 rfl) ?_
  refine va_new (D := (dC, dI)) (ci := 4) (fs := DEF_PHyphens) (C := "ScholarsPress$Hyphens") (T := F_PHyphens) (N := 14) hx hb hts in_PHyphens t_PHyphens t_PHyphens_ok hown (hts (.classLink "ScholarsPress" 38 "ScholarsPress$Hyphens") k_447) (hts (.instantiable "ScholarsPress$Hyphens" 14) k_448) (hts (.initialized "ScholarsPress$Hyphens") k_246) hK hP hD hS hA rfl df_PHyphens (Nat.le_of_ble_eq_true rfl) (Nat.le_of_ble_eq_true rfl) d_SP_hyphens_8 (fun q_1 H hP hD hS => ?_)
  have hP : va_P (dC, dI) classes [(x, .inr (0, [.ref tp, .int 0, .int ((-1)), .ref sg, .null, .null, .ref st, .null, .ref ft, .null, .ref hy, .null, .null, .int 0, .null, .null, .null, .null, .null, .null, .int 0])), (q_1, .inr (4, DEF_PHyphens))] H := hP
  have hD : va_D A [(x, .inr (0, [.ref tp, .int 0, .int ((-1)), .ref sg, .null, .null, .ref st, .null, .ref ft, .null, .ref hy, .null, .null, .int 0, .null, .null, .null, .null, .null, .null, .int 0])), (q_1, .inr (4, DEF_PHyphens))] := hD
  refine lv_dup hx hb d_SP_hyphens_11 rfl ?_
  refine vi_v (wc := [(q_1, .inr (4, DEF_PHyphens))]) (wr := [(x, .inr (0, [.ref tp, .int 0, .int ((-1)), .ref sg, .null, .null, .ref st, .null, .ref ft, .null, .ref hy, .null, .null, .int 0, .null, .null, .null, .null, .null, .null, .int 0]))]) (va_runI (As := []) (rest := [.ref q_1, .ref x]) ⟨hx, hb, hml, hown, hts⟩ (c_PHyphens_init l dC dI q_1 H.size) (cwI 0 hts (tt_1 kw_PHyphens_init rfl) rfl rfl rfl (hts _ k_246) (hts _ k_449) (hts _ k_450) rfl (by decide +kernel) ⟨Nat.le_of_ble_eq_true rfl, Nat.le_of_ble_eq_true rfl⟩) ⟨pr_blind, pr_pre hb0 (hP.sub [1] rfl) (hK.sub [] rfl) (hD.sub [1] (by decide) rfl)⟩ rfl rfl hl.1 rfl (lv_room (Nat.le_of_ble_eq_true rfl)) d_SP_hyphens_12 ⟨Nat.le_of_ble_eq_true rfl, Nat.le_of_ble_eq_true rfl⟩) hP hD hK hS hA [1] [0] rfl rfl (by decide) (by decide) (fun u H locs hw hP hK hD hS => ?_)
  obtain ⟨U_2, rfl⟩ : ∃ z, z = u := ⟨_, rfl⟩
  have hP : va_P (dC, dI) classes [(x, .inr (0, [.ref tp, .int 0, .int ((-1)), .ref sg, .null, .null, .ref st, .null, .ref ft, .null, .ref hy, .null, .null, .int 0, .null, .null, .null, .null, .null, .null, .int 0])), (q_1, .inr (4, [.int 0, .int 2, .int 3, .int 0, .int 0, .ref (U_2.1 0), .ref (U_2.1 1), .ref (U_2.1 2), .ref (U_2.1 3), .ref (U_2.1 4), .int 0, .ref (U_2.1 5), .ref (U_2.1 6), .ref (U_2.1 7)])), ((U_2.1 4), .inl ((U_2.2.2 0), 128, .inl U_2.2.1))] H := hP
  have hD : va_D A [(x, .inr (0, [.ref tp, .int 0, .int ((-1)), .ref sg, .null, .null, .ref st, .null, .ref ft, .null, .ref hy, .null, .null, .int 0, .null, .null, .null, .null, .null, .null, .int 0])), (q_1, .inr (4, [.int 0, .int 2, .int 3, .int 0, .int 0, .ref (U_2.1 0), .ref (U_2.1 1), .ref (U_2.1 2), .ref (U_2.1 3), .ref (U_2.1 4), .int 0, .ref (U_2.1 5), .ref (U_2.1 6), .ref (U_2.1 7)])), ((U_2.1 4), .inl ((U_2.2.2 0), 128, .inl U_2.2.1))] := hD
  have hK : va_K (dC, dI) classes [((U_2.2.2 0), .int)] s := hK.sub [0] rfl
  refine va_put (D := (dC, dI)) (ci := 0) (v := .ref q_1) (ty := .object "ScholarsPress$Hyphens") (C := "ScholarsPress") (T := F_SP) (N := 21) hx hb hts in_SP t_SP t_SP_ok n_SP hown hK hP hD hS 0 rfl rfl 11 (by decide) (hts (.fieldLink "ScholarsPress" 85 "ScholarsPress" "hyphensSpare" "LScholarsPress$Hyphens;") k_511) (fun _ h9 => h9) rfl (by decide +kernel) rfl rfl (Nat.le_of_ble_eq_true rfl) d_SP_hyphens_15 (fun H locs hP hD hS => ?_)
  have hP : va_P (dC, dI) classes [(x, .inr (0, [.ref tp, .int 0, .int ((-1)), .ref sg, .null, .null, .ref st, .null, .ref ft, .null, .ref hy, .ref q_1, .null, .int 0, .null, .null, .null, .null, .null, .null, .int 0])), (q_1, .inr (4, [.int 0, .int 2, .int 3, .int 0, .int 0, .ref (U_2.1 0), .ref (U_2.1 1), .ref (U_2.1 2), .ref (U_2.1 3), .ref (U_2.1 4), .int 0, .ref (U_2.1 5), .ref (U_2.1 6), .ref (U_2.1 7)])), ((U_2.1 4), .inl ((U_2.2.2 0), 128, .inl U_2.2.1))] H := hP
  have hD : va_D A [(x, .inr (0, [.ref tp, .int 0, .int ((-1)), .ref sg, .null, .null, .ref st, .null, .ref ft, .null, .ref hy, .ref q_1, .null, .int 0, .null, .null, .null, .null, .null, .null, .int 0])), (q_1, .inr (4, [.int 0, .int 2, .int 3, .int 0, .int 0, .ref (U_2.1 0), .ref (U_2.1 1), .ref (U_2.1 2), .ref (U_2.1 3), .ref (U_2.1 4), .int 0, .ref (U_2.1 5), .ref (U_2.1 6), .ref (U_2.1 7)])), ((U_2.1 4), .inl ((U_2.2.2 0), 128, .inl U_2.2.1))] := hD
  refine lv_aload_n hx hb d_SP_hyphens_18 rfl (lv_at hl 0 rfl) ?_
  refine va_get (D := (dC, dI)) (ci := 0) (v := .ref q_1) (C := "ScholarsPress") (T := F_SP) (N := 21) hx hb hts in_SP hown hK hP 0 rfl rfl 11 (by decide) (hts (.fieldLink "ScholarsPress" 85 "ScholarsPress" "hyphensSpare" "LScholarsPress$Hyphens;") k_511) (fun _ h9 => h9) rfl d_SP_hyphens_19 ?_
  refine lv_aload_n hx hb d_SP_hyphens_22 rfl (lv_at hl 0 rfl) ?_
  refine va_get (D := (dC, dI)) (ci := 0) (v := .ref tp) (C := "ScholarsPress") (T := F_SP) (N := 21) hx hb hts in_SP hown hK hP 0 rfl rfl 0 (by decide) (hts (.fieldLink "ScholarsPress" 9 "ScholarsPress" "tape" "[B") k_500) (fun _ h9 => h9) rfl d_SP_hyphens_23 ?_
  refine lv_aload_n hx hb d_SP_hyphens_26 rfl (lv_at hl 0 rfl) ?_
  refine vi_i (wc := [(x, .inr (0, [.ref tp, .int 0, .int ((-1)), .ref sg, .null, .null, .ref st, .null, .ref ft, .null, .ref hy, .ref q_1, .null, .int 0, .null, .null, .null, .null, .null, .null, .int 0]))]) (wr := [(q_1, .inr (4, [.int 0, .int 2, .int 3, .int 0, .int 0, .ref (U_2.1 0), .ref (U_2.1 1), .ref (U_2.1 2), .ref (U_2.1 3), .ref (U_2.1 4), .int 0, .ref (U_2.1 5), .ref (U_2.1 6), .ref (U_2.1 7)])), ((U_2.1 4), .inl ((U_2.2.2 0), 128, .inl U_2.2.1))]) (va_runV (As := []) (rest := [.ref tp, .ref q_1]) ⟨hx, hb, hml, hown, hts⟩ (c_SP_takeTape l dC dI x tp (fun k => match k with | 0 => (.ref tp : Value) | 1 => (.int 0 : Value) | 2 => (.int ((-1)) : Value) | 3 => (.ref sg : Value) | 4 => (.null : Value) | 5 => (.null : Value) | 6 => (.ref st : Value) | 7 => (.null : Value) | 8 => (.ref ft : Value) | 9 => (.null : Value) | 10 => (.ref hy : Value) | 11 => (.ref q_1 : Value) | 12 => (.null : Value) | 13 => (.int 0 : Value) | 14 => (.null : Value) | 15 => (.null : Value) | 16 => (.null : Value) | 17 => (.null : Value) | 18 => (.null : Value) | 19 => (.null : Value) | _ => (.int 0 : Value)) H.size) (cwV 0 hts (tt_V k_681 k_683 k_2 k_240 kw_SP_takeTape) rfl rfl rfl (by decide +kernel) ⟨Nat.le_of_ble_eq_true rfl, Nat.le_of_ble_eq_true rfl⟩) ⟨pr_blind, va_recv hK hP (ci := 0) (q0 := 0) rfl rfl, pr_pre hb0 (hP.sub [0] rfl) (hK.sub [] rfl) (hD.sub [0] (by decide) rfl)⟩ rfl rfl hl.1 rfl (lv_room (Nat.le_of_ble_eq_true rfl)) d_SP_hyphens_27 ⟨Nat.le_of_ble_eq_true rfl, Nat.le_of_ble_eq_true rfl⟩) hP hD hK hS hA [0] [1, 2] rfl rfl (by decide) (by decide) (fun r u H locs hw hP hK hD hS => ?_)
  subst hw
  have hP : va_P (dC, dI) classes [(q_1, .inr (4, [.int 0, .int 2, .int 3, .int 0, .int 0, .ref (U_2.1 0), .ref (U_2.1 1), .ref (U_2.1 2), .ref (U_2.1 3), .ref (U_2.1 4), .int 0, .ref (U_2.1 5), .ref (U_2.1 6), .ref (U_2.1 7)])), ((U_2.1 4), .inl ((U_2.2.2 0), 128, .inl U_2.2.1)), (x, .inr (0, [.ref tp, .int 0, .int ((-1)), .ref sg, .null, .null, .ref st, .null, .ref ft, .null, .ref hy, .ref q_1, .null, .int 0, .null, .null, .null, .null, .null, .null, .int 0]))] H := hP
  have hD : va_D A [(q_1, .inr (4, [.int 0, .int 2, .int 3, .int 0, .int 0, .ref (U_2.1 0), .ref (U_2.1 1), .ref (U_2.1 2), .ref (U_2.1 3), .ref (U_2.1 4), .int 0, .ref (U_2.1 5), .ref (U_2.1 6), .ref (U_2.1 7)])), ((U_2.1 4), .inl ((U_2.2.2 0), 128, .inl U_2.2.1)), (x, .inr (0, [.ref tp, .int 0, .int ((-1)), .ref sg, .null, .null, .ref st, .null, .ref ft, .null, .ref hy, .ref q_1, .null, .int 0, .null, .null, .null, .null, .null, .null, .int 0]))] := hD
  have hK : va_K (dC, dI) classes [((U_2.2.2 0), .int)] s := hK.sub [0] rfl
  refine vi_i (wc := [(q_1, .inr (4, [.int 0, .int 2, .int 3, .int 0, .int 0, .ref (U_2.1 0), .ref (U_2.1 1), .ref (U_2.1 2), .ref (U_2.1 3), .ref (U_2.1 4), .int 0, .ref (U_2.1 5), .ref (U_2.1 6), .ref (U_2.1 7)])), ((U_2.1 4), .inl ((U_2.2.2 0), 128, .inl U_2.2.1))]) (wr := [(x, .inr (0, [.ref tp, .int 0, .int ((-1)), .ref sg, .null, .null, .ref st, .null, .ref ft, .null, .ref hy, .ref q_1, .null, .int 0, .null, .null, .null, .null, .null, .null, .int 0]))]) (va_runV (As := [.ref tp, .int 0]) (rest := []) ⟨hx, hb, hml, hown, hts⟩ (c_PHyphens_read l dC dI q_1 ((U_2.1 4)) tp (fun k => match k with | 0 => (U_2.1 0) | 1 => (U_2.1 1) | 2 => (U_2.1 2) | 3 => (U_2.1 3) | 4 => (U_2.1 5) | 5 => (U_2.1 6) | _ => (U_2.1 7)) ((U_2.2.2 0)) U_2.2.1 H.size) (cwV 2 hts (tt_V k_806 k_807 k_808 k_246 kw_PHyphens_read) rfl rfl rfl (by decide +kernel) ⟨Nat.le_of_ble_eq_true rfl, Nat.le_of_ble_eq_true rfl⟩) ⟨pr_blind, va_recv hK hP (ci := 4) (q0 := 0) rfl rfl, pr_pre hb0 (hP.sub [0, 1] rfl) (hK.sub [0] rfl) (hD.sub [0, 1] (by decide) rfl)⟩ rfl rfl hl.1 rfl (lv_room (Nat.le_of_ble_eq_true rfl)) d_SP_hyphens_30 ⟨Nat.le_of_ble_eq_true rfl, Nat.le_of_ble_eq_true rfl⟩) hP hD hK hS hA [0, 1] [2] rfl rfl (by decide) (by decide) (fun r u H locs hw hP hK hD hS => ?_)
  subst hw
  have hP : va_P (dC, dI) classes [(x, .inr (0, [.ref tp, .int 0, .int ((-1)), .ref sg, .null, .null, .ref st, .null, .ref ft, .null, .ref hy, .ref q_1, .null, .int 0, .null, .null, .null, .null, .null, .null, .int 0])), (q_1, .inr (4, [.int 0, .int 2, .int 3, .int 0, .int 0, .ref (U_2.1 0), .ref (U_2.1 1), .ref (U_2.1 2), .ref (U_2.1 3), .ref (U_2.1 4), .int 0, .ref (U_2.1 5), .ref (U_2.1 6), .ref (U_2.1 7)]))] H := hP
  have hD : va_D A [(x, .inr (0, [.ref tp, .int 0, .int ((-1)), .ref sg, .null, .null, .ref st, .null, .ref ft, .null, .ref hy, .ref q_1, .null, .int 0, .null, .null, .null, .null, .null, .null, .int 0])), (q_1, .inr (4, [.int 0, .int 2, .int 3, .int 0, .int 0, .ref (U_2.1 0), .ref (U_2.1 1), .ref (U_2.1 2), .ref (U_2.1 3), .ref (U_2.1 4), .int 0, .ref (U_2.1 5), .ref (U_2.1 6), .ref (U_2.1 7)]))] := hD
  have hK : va_K (dC, dI) classes [((U_2.2.2 0), .int)] s := hK.sub [0] rfl
  refine lv_if_ne (tgt := 55) hx hb d_SP_hyphens_33 (by decide) (fun c_3 => ?_) (fun c_3 => absurd c_3 (by decide))
  refine lv_aload_n hx hb d_SP_hyphens_55 rfl (lv_at hl 0 rfl) ?_
  refine va_get (D := (dC, dI)) (ci := 0) (v := .ref q_1) (C := "ScholarsPress") (T := F_SP) (N := 21) hx hb hts in_SP hown hK hP 0 rfl rfl 11 (by decide) (hts (.fieldLink "ScholarsPress" 85 "ScholarsPress" "hyphensSpare" "LScholarsPress$Hyphens;") k_511) (fun _ h9 => h9) rfl d_SP_hyphens_56 ?_
  refine lv_astore_n (lv' := [(1, .ref q_1), (0, .ref x)]) hx hb d_SP_hyphens_59 rfl hl (by decide) rfl (fun ls hl => ?_)
  refine lv_aload_n hx hb d_SP_hyphens_60 rfl (lv_at hl 1 rfl) ?_
  refine lv_aload_n hx hb d_SP_hyphens_61 rfl (lv_at hl 1 rfl) ?_
  refine va_get (D := (dC, dI)) (ci := 0) (v := .ref hy) (C := "ScholarsPress") (T := F_SP) (N := 21) hx hb hts in_SP hown hK hP 0 rfl rfl 10 (by decide) (hts (.fieldLink "ScholarsPress" 41 "ScholarsPress" "hyphensNow" "LScholarsPress$Hyphens;") k_510) (fun _ h9 => h9) rfl d_SP_hyphens_62 ?_
  refine va_put (D := (dC, dI)) (ci := 0) (v := .ref hy) (ty := .object "ScholarsPress$Hyphens") (C := "ScholarsPress") (T := F_SP) (N := 21) hx hb hts in_SP t_SP t_SP_ok n_SP hown hK hP hD hS 0 rfl rfl 11 (by decide) (hts (.fieldLink "ScholarsPress" 85 "ScholarsPress" "hyphensSpare" "LScholarsPress$Hyphens;") k_511) (fun _ h9 => h9) rfl (by decide +kernel) rfl rfl (Nat.le_of_ble_eq_true rfl) d_SP_hyphens_65 (fun H locs hP hD hS => ?_)
  have hP : va_P (dC, dI) classes [(x, .inr (0, [.ref tp, .int 0, .int ((-1)), .ref sg, .null, .null, .ref st, .null, .ref ft, .null, .ref hy, .ref hy, .null, .int 0, .null, .null, .null, .null, .null, .null, .int 0])), (q_1, .inr (4, [.int 0, .int 2, .int 3, .int 0, .int 0, .ref (U_2.1 0), .ref (U_2.1 1), .ref (U_2.1 2), .ref (U_2.1 3), .ref (U_2.1 4), .int 0, .ref (U_2.1 5), .ref (U_2.1 6), .ref (U_2.1 7)]))] H := hP
  have hD : va_D A [(x, .inr (0, [.ref tp, .int 0, .int ((-1)), .ref sg, .null, .null, .ref st, .null, .ref ft, .null, .ref hy, .ref hy, .null, .int 0, .null, .null, .null, .null, .null, .null, .int 0])), (q_1, .inr (4, [.int 0, .int 2, .int 3, .int 0, .int 0, .ref (U_2.1 0), .ref (U_2.1 1), .ref (U_2.1 2), .ref (U_2.1 3), .ref (U_2.1 4), .int 0, .ref (U_2.1 5), .ref (U_2.1 6), .ref (U_2.1 7)]))] := hD
  refine lv_aload_n hx hb d_SP_hyphens_68 rfl (lv_at hl 1 rfl) ?_
  refine lv_aload_n hx hb d_SP_hyphens_69 rfl (lv_at hl 0 rfl) ?_
  refine va_put (D := (dC, dI)) (ci := 0) (v := .ref q_1) (ty := .object "ScholarsPress$Hyphens") (C := "ScholarsPress") (T := F_SP) (N := 21) hx hb hts in_SP t_SP t_SP_ok n_SP hown hK hP hD hS 0 rfl rfl 10 (by decide) (hts (.fieldLink "ScholarsPress" 41 "ScholarsPress" "hyphensNow" "LScholarsPress$Hyphens;") k_510) (fun _ h9 => h9) rfl (by decide +kernel) rfl rfl (Nat.le_of_ble_eq_true rfl) d_SP_hyphens_70 (fun H locs hP hD hS => ?_)
  have hP : va_P (dC, dI) classes [(x, .inr (0, [.ref tp, .int 0, .int ((-1)), .ref sg, .null, .null, .ref st, .null, .ref ft, .null, .ref q_1, .ref hy, .null, .int 0, .null, .null, .null, .null, .null, .null, .int 0])), (q_1, .inr (4, [.int 0, .int 2, .int 3, .int 0, .int 0, .ref (U_2.1 0), .ref (U_2.1 1), .ref (U_2.1 2), .ref (U_2.1 3), .ref (U_2.1 4), .int 0, .ref (U_2.1 5), .ref (U_2.1 6), .ref (U_2.1 7)]))] H := hP
  have hD : va_D A [(x, .inr (0, [.ref tp, .int 0, .int ((-1)), .ref sg, .null, .null, .ref st, .null, .ref ft, .null, .ref q_1, .ref hy, .null, .int 0, .null, .null, .null, .null, .null, .null, .int 0])), (q_1, .inr (4, [.int 0, .int 2, .int 3, .int 0, .int 0, .ref (U_2.1 0), .ref (U_2.1 1), .ref (U_2.1 2), .ref (U_2.1 3), .ref (U_2.1 4), .int 0, .ref (U_2.1 5), .ref (U_2.1 6), .ref (U_2.1 7)]))] := hD
  refine lv_aload_n hx hb d_SP_hyphens_73 rfl (lv_at hl 0 rfl) ?_
  refine va_get (D := (dC, dI)) (ci := 4) (v := .int 0) (C := "ScholarsPress$Hyphens") (T := F_PHyphens) (N := 14) hx hb hts in_PHyphens hown hK hP 1 rfl rfl 4 (by decide) (hts (.fieldLink "ScholarsPress" 94 "ScholarsPress$Hyphens" "patterns" "I") k_460) (fun _ h9 => h9) rfl d_SP_hyphens_74 ?_
  refine lv_aload_n hx hb d_SP_hyphens_77 rfl (lv_at hl 0 rfl) ?_
  refine va_get (D := (dC, dI)) (ci := 4) (v := .int 0) (C := "ScholarsPress$Hyphens") (T := F_PHyphens) (N := 14) hx hb hts in_PHyphens hown hK hP 1 rfl rfl 10 (by decide) (hts (.fieldLink "ScholarsPress" 97 "ScholarsPress$Hyphens" "exceptions" "I") k_467) (fun _ h9 => h9) rfl d_SP_hyphens_78 ?_
  refine lv_iadd hx hb d_SP_hyphens_81 ?_
  refine lv_topi (fun v_4 ev_4 => ?_)
  obtain rfl : v_4 = 0 := ev_4.trans (by decide)
  have hP9 := hP.sub (ws' := []) [] rfl
  have hD9 := hD.sub (ws' := []) [] (by decide) rfl
  have hK9 := hK.sub (tys' := []) [] rfl
  exact W.iret (v := 0) hx hb hr (fun t ht hW => ⟨⟨0, (), rfl, rfl, by rw [ht]; exact hP9, va_K.moved hW.alike hK9, hD9⟩, hS.F ht⟩) hS.2.2 d_SP_hyphens_82
set_option maxHeartbeats 4000000 in
set_option maxRecDepth 100000 in
/-- Style.read of an empty text -/
theorem c_PStyle_read (l : Launch) (dC : Nat → ClassId) (dI : Nat → Nat → Nat) (n0 zt : Nat) (fz : Nat → Int32) (s2 tx pg tp sg : Nat) (yr : Nat → Nat) (c1 c2 cB : ClassId) (f1 f2 f3 : Nat → Int32) (sz : Nat) : Met l y_PStyle_read [w_PStyle_read] ({ frames := 3, cells := 0, slots := 0, locals := 66 }) (va_Pc [.ref s2, .ref tp, .int 0, .ref sg] (prZ n0 zt fz sz (dC, dI) [(s2, .inr (2, [.ref tx, .ref pg, .int 0, .ref (yr 0), .int 0, .ref (yr 1), .ref (yr 2), .int 0, .ref (yr 3), .ref (yr 4), .int 0, .ref (yr 5), .ref (yr 6), .int 0, .ref (yr 7)])), (tx, .inl (c1, 16384, .inl f1)), (pg, .inl (c2, 6, .inl f2)), (tp, .inl (cB, 16384, .inl f3)), (sg, .inr (1, [.null, .int 0, .int 0, .int 0, .int 0, .int 0, .int 0, .long 0]))] [(c1, .byte), (c2, .int), (cB, .byte)])) (va_Qi (fun (r : Int32) (u : Unit) => r = 1) (bw (dC, dI) (va_A [(s2, .inr (2, [.ref tx, .ref pg, .int 0, .ref (yr 0), .int 0, .ref (yr 1), .ref (yr 2), .int 0, .ref (yr 3), .ref (yr 4), .int 0, .ref (yr 5), .ref (yr 6), .int 0, .ref (yr 7)])), (tx, .inl (c1, 16384, .inl f1)), (pg, .inl (c2, 6, .inl f2)), (tp, .inl (cB, 16384, .inl f3)), (sg, .inr (1, [.null, .int 0, .int 0, .int 0, .int 0, .int 0, .int 0, .long 0]))] sz) (fun u : Unit => [(s2, .inr (2, [.ref tx, .ref pg, .int 0, .ref (yr 0), .int 0, .ref (yr 1), .ref (yr 2), .int 0, .ref (yr 3), .ref (yr 4), .int 0, .ref (yr 5), .ref (yr 6), .int 0, .ref (yr 7)]))]) (fun u : Unit => [])) (va_A [(s2, .inr (2, [.ref tx, .ref pg, .int 0, .ref (yr 0), .int 0, .ref (yr 1), .ref (yr 2), .int 0, .ref (yr 3), .ref (yr 4), .int 0, .ref (yr 5), .ref (yr 6), .int 0, .ref (yr 7)])), (tx, .inl (c1, 16384, .inl f1)), (pg, .inl (c2, 6, .inl f2)), (tp, .inl (cB, 16384, .inl f3)), (sg, .inr (1, [.null, .int 0, .int 0, .int 0, .int 0, .int 0, .int 0, .long 0]))] sz)) 0 0 (va_A [(s2, .inr (2, [.ref tx, .ref pg, .int 0, .ref (yr 0), .int 0, .ref (yr 1), .ref (yr 2), .int 0, .ref (yr 3), .ref (yr 4), .int 0, .ref (yr 5), .ref (yr 6), .int 0, .ref (yr 7)])), (tx, .inl (c1, 16384, .inl f1)), (pg, .inl (c2, 6, .inl f2)), (tp, .inl (cB, 16384, .inl f3)), (sg, .inr (1, [.null, .int 0, .int 0, .int 0, .int 0, .int 0, .int 0, .long 0]))] sz) := by
  refine Met.ofW (cc := b_PStyle_read) (maxL := 5) (ret := (some .boolean)) (by decide) rfl ?_
  intro p e s m args below meth c s₁ B hml hv
  obtain ⟨rfl, ⟨hsz, hb0, hP, hK, hD0⟩, hn0, hDn, hZ0⟩ := hv
  have hx := B.exec
  have hb := B.bytes
  have hr := B.returns
  have hts : ∀ wq ∈ tt, wq.before ([.ref s2, .ref tp, .int 0, .ref sg] : List Value).toArray s = true := hb0.hts
  have hown : s.vm.findClass "ScholarsPress$Style" = some m.cls := findClass_of_methodNamed B.named
  have hlocks := B.notSynchronized
  subst hsz
  have hD := hD0.self (sz := s.heap.size)
  generalize hAe : va_A [(s2, .inr (2, [.ref tx, .ref pg, .int 0, .ref (yr 0), .int 0, .ref (yr 1), .ref (yr 2), .int 0, .ref (yr 3), .ref (yr 4), .int 0, .ref (yr 5), .ref (yr 6), .int 0, .ref (yr 7)])), (tx, .inl (c1, 16384, .inl f1)), (pg, .inl (c2, 6, .inl f2)), (tp, .inl (cB, 16384, .inl f3)), (sg, .inr (1, [.null, .int 0, .int 0, .int 0, .int 0, .int 0, .int 0, .long 0]))] s.heap.size = A at hD ⊢
  have hA : ∀ q : Nat, s.heap.size ≤ q → A q := fun q h => by rw [← hAe]; exact Or.inr h
  have hS : va_S A s.heap s.heap [] := va_S.rf
  have hP : va_P (dC, dI) classes [(s2, .inr (2, [.ref tx, .ref pg, .int 0, .ref (yr 0), .int 0, .ref (yr 1), .ref (yr 2), .int 0, .ref (yr 3), .ref (yr 4), .int 0, .ref (yr 5), .ref (yr 6), .int 0, .ref (yr 7)])), (tx, .inl (c1, 16384, .inl f1)), (pg, .inl (c2, 6, .inl f2)), (tp, .inl (cB, 16384, .inl f3)), (sg, .inr (1, [.null, .int 0, .int 0, .int 0, .int 0, .int 0, .int 0, .long 0]))] s.heap := hP
  have hAn : ∀ q : Nat, A q → n0 ≤ q := by rw [← hAe]; exact zn hDn hn0
  have hZA := hZ0.1.narrow hAn
  have hTA := hZ0.2.narrow hAn
  have hl := lv_entry ([.ref s2, .ref tp, .int 0, .ref sg]) (n := 5) (Nat.le_of_ble_eq_true rfl)
  rw [lg_entry_eq]
  generalize (lg_sl ([.ref s2, .ref tp, .int 0, .ref sg]) ++ List.replicate (5 - (lg_sl ([.ref s2, .ref tp, .int 0, .ref sg])).length) Slot.unset).toArray = ls at hl ⊢
  have hl : lv_has ls 5 [(0, .ref s2), (1, .ref tp), (2, .int 0), (3, .ref sg)] := hl
  refine lv_aload_n hx hb d_PStyle_read_0 rfl (lv_at hl 1 rfl) ?_
  refine lv_iconst (v := 0) hx hb d_PStyle_read_1 (by decide) ?_
  refine lv_aload_n hx hb d_PStyle_read_2 rfl (lv_at hl 0 rfl) ?_
  refine va_get (D := (dC, dI)) (ci := 2) (v := .ref tx) (C := "ScholarsPress$Style") (T := F_PStyle) (N := 15) hx hb hts in_PStyle hown hK hP 0 rfl rfl 0 (by decide) (hts (.fieldLink "ScholarsPress$Style" 9 "ScholarsPress$Style" "text" "[B") k_350) (fun _ h9 => h9) rfl d_PStyle_read_3 ?_
  refine lv_iconst (v := 0) hx hb d_PStyle_read_6 (by decide) ?_
  refine lv_iload_n hx hb d_PStyle_read_7 rfl (lv_at hl 2 rfl) ?_
  refine va_copyi (sp := 0) (dp := 0) (n := 0) (ty := .byte) hx hb (hml.trans hl.1.symm) hown (hts _ k_347) (hts _ k_349) (hts _ k_348) (hts _ k_243) hK hP hD hS 3 1 2 0 rfl rfl rfl rfl rfl (by decide) (by decide) (by decide) (by decide) (by decide) (fun i hi => absurd (show i < 0 from hi) (Nat.not_lt_zero i)) (Nat.le_of_ble_eq_true rfl) (Nat.le_of_ble_eq_true rfl) d_PStyle_read_8 (fun H locs hP hD hS => ?_)
  obtain ⟨g_1, eg_1⟩ : ∃ g, g = va_cpy f3 f1 (0 : Int32).toNatClampNeg (0 : Int32).toNatClampNeg (0 : Int32).toNatClampNeg := ⟨_, rfl⟩
  have hP : va_P (dC, dI) classes [(s2, .inr (2, [.ref tx, .ref pg, .int 0, .ref (yr 0), .int 0, .ref (yr 1), .ref (yr 2), .int 0, .ref (yr 3), .ref (yr 4), .int 0, .ref (yr 5), .ref (yr 6), .int 0, .ref (yr 7)])), (tx, .inl (c1, 16384, .inl g_1)), (pg, .inl (c2, 6, .inl f2)), (tp, .inl (cB, 16384, .inl f3)), (sg, .inr (1, [.null, .int 0, .int 0, .int 0, .int 0, .int 0, .int 0, .long 0]))] H := by rw [eg_1]; exact hP
  have hD : va_D A [(s2, .inr (2, [.ref tx, .ref pg, .int 0, .ref (yr 0), .int 0, .ref (yr 1), .ref (yr 2), .int 0, .ref (yr 3), .ref (yr 4), .int 0, .ref (yr 5), .ref (yr 6), .int 0, .ref (yr 7)])), (tx, .inl (c1, 16384, .inl g_1)), (pg, .inl (c2, 6, .inl f2)), (tp, .inl (cB, 16384, .inl f3)), (sg, .inr (1, [.null, .int 0, .int 0, .int 0, .int 0, .int 0, .int 0, .long 0]))] := by rw [eg_1]; exact hD
  refine va_gets hx hb hZA hS hown (hts (.fieldLink "ScholarsPress$Style" 44 "ScholarsPress$Style" "PAGE_BEGINNING" "[I") k_345) (fun _ h9 => h9) d_PStyle_read_11 ?_
  refine lv_iconst (v := 0) hx hb d_PStyle_read_14 (by decide) ?_
  refine lv_aload_n hx hb d_PStyle_read_15 rfl (lv_at hl 0 rfl) ?_
  refine va_get (D := (dC, dI)) (ci := 2) (v := .ref pg) (C := "ScholarsPress$Style") (T := F_PStyle) (N := 15) hx hb hts in_PStyle hown hK hP 0 rfl rfl 1 (by decide) (hts (.fieldLink "ScholarsPress$Style" 15 "ScholarsPress$Style" "page" "[I") k_353) (fun _ h9 => h9) rfl d_PStyle_read_16 ?_
  refine lv_iconst (v := 0) hx hb d_PStyle_read_19 (by decide) ?_
  refine lv_bipush (v := 6) hx hb d_PStyle_read_20 (by decide) ?_
  refine zt_copy (sp := 0) (dp := 0) (n := 6) hx hb (hml.trans hl.1.symm) hown (hts _ k_347) (hts _ k_349) (hts _ k_348) (hts _ k_243) hK hP hD hS hTA 2 1 rfl rfl (by decide) (by decide) (by decide) (by decide) (by decide) (Nat.le_of_ble_eq_true rfl) (Nat.le_of_ble_eq_true rfl) d_PStyle_read_22 (fun H locs hP hD hS => ?_)
  obtain ⟨g_2, eg_2⟩ : ∃ g, g = va_cpy fz f2 (0 : Int32).toNatClampNeg (0 : Int32).toNatClampNeg (6 : Int32).toNatClampNeg := ⟨_, rfl⟩
  have hP : va_P (dC, dI) classes [(s2, .inr (2, [.ref tx, .ref pg, .int 0, .ref (yr 0), .int 0, .ref (yr 1), .ref (yr 2), .int 0, .ref (yr 3), .ref (yr 4), .int 0, .ref (yr 5), .ref (yr 6), .int 0, .ref (yr 7)])), (tx, .inl (c1, 16384, .inl g_1)), (pg, .inl (c2, 6, .inl g_2)), (tp, .inl (cB, 16384, .inl f3)), (sg, .inr (1, [.null, .int 0, .int 0, .int 0, .int 0, .int 0, .int 0, .long 0]))] H := by rw [eg_2]; exact hP
  have hD : va_D A [(s2, .inr (2, [.ref tx, .ref pg, .int 0, .ref (yr 0), .int 0, .ref (yr 1), .ref (yr 2), .int 0, .ref (yr 3), .ref (yr 4), .int 0, .ref (yr 5), .ref (yr 6), .int 0, .ref (yr 7)])), (tx, .inl (c1, 16384, .inl g_1)), (pg, .inl (c2, 6, .inl g_2)), (tp, .inl (cB, 16384, .inl f3)), (sg, .inr (1, [.null, .int 0, .int 0, .int 0, .int 0, .int 0, .int 0, .long 0]))] := by rw [eg_2]; exact hD
  refine lv_aload_n hx hb d_PStyle_read_25 rfl (lv_at hl 0 rfl) ?_
  refine lv_iconst (v := 0) hx hb d_PStyle_read_26 (by decide) ?_
  refine va_put (D := (dC, dI)) (ci := 2) (v := .int 0) (ty := .int) (C := "ScholarsPress$Style") (T := F_PStyle) (N := 15) hx hb hts in_PStyle t_PStyle t_PStyle_ok n_PStyle hown hK hP hD hS 0 rfl rfl 2 (by decide) (hts (.fieldLink "ScholarsPress$Style" 53 "ScholarsPress$Style" "selectors" "I") k_355) (fun _ h9 => h9) rfl (by decide +kernel) rfl rfl (Nat.le_of_ble_eq_true rfl) d_PStyle_read_27 (fun H locs hP hD hS => ?_)
  have hP : va_P (dC, dI) classes [(s2, .inr (2, [.ref tx, .ref pg, .int 0, .ref (yr 0), .int 0, .ref (yr 1), .ref (yr 2), .int 0, .ref (yr 3), .ref (yr 4), .int 0, .ref (yr 5), .ref (yr 6), .int 0, .ref (yr 7)])), (tx, .inl (c1, 16384, .inl g_1)), (pg, .inl (c2, 6, .inl g_2)), (tp, .inl (cB, 16384, .inl f3)), (sg, .inr (1, [.null, .int 0, .int 0, .int 0, .int 0, .int 0, .int 0, .long 0]))] H := hP
  have hD : va_D A [(s2, .inr (2, [.ref tx, .ref pg, .int 0, .ref (yr 0), .int 0, .ref (yr 1), .ref (yr 2), .int 0, .ref (yr 3), .ref (yr 4), .int 0, .ref (yr 5), .ref (yr 6), .int 0, .ref (yr 7)])), (tx, .inl (c1, 16384, .inl g_1)), (pg, .inl (c2, 6, .inl g_2)), (tp, .inl (cB, 16384, .inl f3)), (sg, .inr (1, [.null, .int 0, .int 0, .int 0, .int 0, .int 0, .int 0, .long 0]))] := hD
  refine lv_aload_n hx hb d_PStyle_read_30 rfl (lv_at hl 0 rfl) ?_
  refine lv_iconst (v := 0) hx hb d_PStyle_read_31 (by decide) ?_
  refine va_put (D := (dC, dI)) (ci := 2) (v := .int 0) (ty := .int) (C := "ScholarsPress$Style") (T := F_PStyle) (N := 15) hx hb hts in_PStyle t_PStyle t_PStyle_ok n_PStyle hown hK hP hD hS 0 rfl rfl 4 (by decide) (hts (.fieldLink "ScholarsPress$Style" 57 "ScholarsPress$Style" "steps" "I") k_360) (fun _ h9 => h9) rfl (by decide +kernel) rfl rfl (Nat.le_of_ble_eq_true rfl) d_PStyle_read_32 (fun H locs hP hD hS => ?_)
  have hP : va_P (dC, dI) classes [(s2, .inr (2, [.ref tx, .ref pg, .int 0, .ref (yr 0), .int 0, .ref (yr 1), .ref (yr 2), .int 0, .ref (yr 3), .ref (yr 4), .int 0, .ref (yr 5), .ref (yr 6), .int 0, .ref (yr 7)])), (tx, .inl (c1, 16384, .inl g_1)), (pg, .inl (c2, 6, .inl g_2)), (tp, .inl (cB, 16384, .inl f3)), (sg, .inr (1, [.null, .int 0, .int 0, .int 0, .int 0, .int 0, .int 0, .long 0]))] H := hP
  have hD : va_D A [(s2, .inr (2, [.ref tx, .ref pg, .int 0, .ref (yr 0), .int 0, .ref (yr 1), .ref (yr 2), .int 0, .ref (yr 3), .ref (yr 4), .int 0, .ref (yr 5), .ref (yr 6), .int 0, .ref (yr 7)])), (tx, .inl (c1, 16384, .inl g_1)), (pg, .inl (c2, 6, .inl g_2)), (tp, .inl (cB, 16384, .inl f3)), (sg, .inr (1, [.null, .int 0, .int 0, .int 0, .int 0, .int 0, .int 0, .long 0]))] := hD
  refine lv_aload_n hx hb d_PStyle_read_35 rfl (lv_at hl 0 rfl) ?_
  refine lv_iconst (v := 0) hx hb d_PStyle_read_36 (by decide) ?_
  refine va_put (D := (dC, dI)) (ci := 2) (v := .int 0) (ty := .int) (C := "ScholarsPress$Style") (T := F_PStyle) (N := 15) hx hb hts in_PStyle t_PStyle t_PStyle_ok n_PStyle hown hK hP hD hS 0 rfl rfl 7 (by decide) (hts (.fieldLink "ScholarsPress$Style" 60 "ScholarsPress$Style" "conditions" "I") k_365) (fun _ h9 => h9) rfl (by decide +kernel) rfl rfl (Nat.le_of_ble_eq_true rfl) d_PStyle_read_37 (fun H locs hP hD hS => ?_)
  have hP : va_P (dC, dI) classes [(s2, .inr (2, [.ref tx, .ref pg, .int 0, .ref (yr 0), .int 0, .ref (yr 1), .ref (yr 2), .int 0, .ref (yr 3), .ref (yr 4), .int 0, .ref (yr 5), .ref (yr 6), .int 0, .ref (yr 7)])), (tx, .inl (c1, 16384, .inl g_1)), (pg, .inl (c2, 6, .inl g_2)), (tp, .inl (cB, 16384, .inl f3)), (sg, .inr (1, [.null, .int 0, .int 0, .int 0, .int 0, .int 0, .int 0, .long 0]))] H := hP
  have hD : va_D A [(s2, .inr (2, [.ref tx, .ref pg, .int 0, .ref (yr 0), .int 0, .ref (yr 1), .ref (yr 2), .int 0, .ref (yr 3), .ref (yr 4), .int 0, .ref (yr 5), .ref (yr 6), .int 0, .ref (yr 7)])), (tx, .inl (c1, 16384, .inl g_1)), (pg, .inl (c2, 6, .inl g_2)), (tp, .inl (cB, 16384, .inl f3)), (sg, .inr (1, [.null, .int 0, .int 0, .int 0, .int 0, .int 0, .int 0, .long 0]))] := hD
  refine lv_aload_n hx hb d_PStyle_read_40 rfl (lv_at hl 0 rfl) ?_
  refine lv_iconst (v := 0) hx hb d_PStyle_read_41 (by decide) ?_
  refine va_put (D := (dC, dI)) (ci := 2) (v := .int 0) (ty := .int) (C := "ScholarsPress$Style") (T := F_PStyle) (N := 15) hx hb hts in_PStyle t_PStyle t_PStyle_ok n_PStyle hown hK hP hD hS 0 rfl rfl 10 (by decide) (hts (.fieldLink "ScholarsPress$Style" 63 "ScholarsPress$Style" "told" "I") k_370) (fun _ h9 => h9) rfl (by decide +kernel) rfl rfl (Nat.le_of_ble_eq_true rfl) d_PStyle_read_42 (fun H locs hP hD hS => ?_)
  have hP : va_P (dC, dI) classes [(s2, .inr (2, [.ref tx, .ref pg, .int 0, .ref (yr 0), .int 0, .ref (yr 1), .ref (yr 2), .int 0, .ref (yr 3), .ref (yr 4), .int 0, .ref (yr 5), .ref (yr 6), .int 0, .ref (yr 7)])), (tx, .inl (c1, 16384, .inl g_1)), (pg, .inl (c2, 6, .inl g_2)), (tp, .inl (cB, 16384, .inl f3)), (sg, .inr (1, [.null, .int 0, .int 0, .int 0, .int 0, .int 0, .int 0, .long 0]))] H := hP
  have hD : va_D A [(s2, .inr (2, [.ref tx, .ref pg, .int 0, .ref (yr 0), .int 0, .ref (yr 1), .ref (yr 2), .int 0, .ref (yr 3), .ref (yr 4), .int 0, .ref (yr 5), .ref (yr 6), .int 0, .ref (yr 7)])), (tx, .inl (c1, 16384, .inl g_1)), (pg, .inl (c2, 6, .inl g_2)), (tp, .inl (cB, 16384, .inl f3)), (sg, .inr (1, [.null, .int 0, .int 0, .int 0, .int 0, .int 0, .int 0, .long 0]))] := hD
  refine lv_aload_n hx hb d_PStyle_read_45 rfl (lv_at hl 0 rfl) ?_
  refine lv_iconst (v := 0) hx hb d_PStyle_read_46 (by decide) ?_
  refine va_put (D := (dC, dI)) (ci := 2) (v := .int 0) (ty := .int) (C := "ScholarsPress$Style") (T := F_PStyle) (N := 15) hx hb hts in_PStyle t_PStyle t_PStyle_ok n_PStyle hown hK hP hD hS 0 rfl rfl 13 (by decide) (hts (.fieldLink "ScholarsPress$Style" 66 "ScholarsPress$Style" "counters" "I") k_375) (fun _ h9 => h9) rfl (by decide +kernel) rfl rfl (Nat.le_of_ble_eq_true rfl) d_PStyle_read_47 (fun H locs hP hD hS => ?_)
  have hP : va_P (dC, dI) classes [(s2, .inr (2, [.ref tx, .ref pg, .int 0, .ref (yr 0), .int 0, .ref (yr 1), .ref (yr 2), .int 0, .ref (yr 3), .ref (yr 4), .int 0, .ref (yr 5), .ref (yr 6), .int 0, .ref (yr 7)])), (tx, .inl (c1, 16384, .inl g_1)), (pg, .inl (c2, 6, .inl g_2)), (tp, .inl (cB, 16384, .inl f3)), (sg, .inr (1, [.null, .int 0, .int 0, .int 0, .int 0, .int 0, .int 0, .long 0]))] H := hP
  have hD : va_D A [(s2, .inr (2, [.ref tx, .ref pg, .int 0, .ref (yr 0), .int 0, .ref (yr 1), .ref (yr 2), .int 0, .ref (yr 3), .ref (yr 4), .int 0, .ref (yr 5), .ref (yr 6), .int 0, .ref (yr 7)])), (tx, .inl (c1, 16384, .inl g_1)), (pg, .inl (c2, 6, .inl g_2)), (tp, .inl (cB, 16384, .inl f3)), (sg, .inr (1, [.null, .int 0, .int 0, .int 0, .int 0, .int 0, .int 0, .long 0]))] := hD
  refine lv_aload_n hx hb d_PStyle_read_50 rfl (lv_at hl 3 rfl) ?_
  refine lv_aload_n hx hb d_PStyle_read_51 rfl (lv_at hl 0 rfl) ?_
  refine va_get (D := (dC, dI)) (ci := 2) (v := .ref tx) (C := "ScholarsPress$Style") (T := F_PStyle) (N := 15) hx hb hts in_PStyle hown hK hP 0 rfl rfl 0 (by decide) (hts (.fieldLink "ScholarsPress$Style" 9 "ScholarsPress$Style" "text" "[B") k_350) (fun _ h9 => h9) rfl d_PStyle_read_52 ?_
  refine lv_iload_n hx hb d_PStyle_read_55 rfl (lv_at hl 2 rfl) ?_
  refine vi_v (wc := [(sg, .inr (1, [.null, .int 0, .int 0, .int 0, .int 0, .int 0, .int 0, .long 0]))]) (wr := [(s2, .inr (2, [.ref tx, .ref pg, .int 0, .ref (yr 0), .int 0, .ref (yr 1), .ref (yr 2), .int 0, .ref (yr 3), .ref (yr 4), .int 0, .ref (yr 5), .ref (yr 6), .int 0, .ref (yr 7)])), (tx, .inl (c1, 16384, .inl g_1)), (pg, .inl (c2, 6, .inl g_2)), (tp, .inl (cB, 16384, .inl f3))]) (va_runV (As := [.ref tx, .int 0]) (rest := []) ⟨hx, hb, hml, hown, hts⟩ (c_PSigns_begin l dC dI sg tx H.size) (cwV 2 hts (tt_V k_1119 k_686 k_687 k_241 kw_PSigns_begin) rfl rfl rfl (by decide +kernel) ⟨Nat.le_of_ble_eq_true rfl, Nat.le_of_ble_eq_true rfl⟩) ⟨pr_blind, va_recv hK hP (ci := 1) (q0 := 4) rfl rfl, pr_pre hb0 (hP.sub [4] rfl) (hK.sub [] rfl) (hD.sub [4] (by decide) rfl)⟩ rfl rfl hl.1 rfl (lv_room (Nat.le_of_ble_eq_true rfl)) d_PStyle_read_56 ⟨Nat.le_of_ble_eq_true rfl, Nat.le_of_ble_eq_true rfl⟩) hP hD hK hS hA [4] [0, 1, 2, 3] rfl rfl (by decide) (by decide) (fun u H locs hw hP hK hD hS => ?_)
  have hP : va_P (dC, dI) classes [(s2, .inr (2, [.ref tx, .ref pg, .int 0, .ref (yr 0), .int 0, .ref (yr 1), .ref (yr 2), .int 0, .ref (yr 3), .ref (yr 4), .int 0, .ref (yr 5), .ref (yr 6), .int 0, .ref (yr 7)])), (tx, .inl (c1, 16384, .inl g_1)), (pg, .inl (c2, 6, .inl g_2)), (tp, .inl (cB, 16384, .inl f3)), (sg, .inr (1, [.ref tx, .int 0, .int 0, .int 0, .int 0, .int 0, .int 0, .long 0]))] H := hP
  have hD : va_D A [(s2, .inr (2, [.ref tx, .ref pg, .int 0, .ref (yr 0), .int 0, .ref (yr 1), .ref (yr 2), .int 0, .ref (yr 3), .ref (yr 4), .int 0, .ref (yr 5), .ref (yr 6), .int 0, .ref (yr 7)])), (tx, .inl (c1, 16384, .inl g_1)), (pg, .inl (c2, 6, .inl g_2)), (tp, .inl (cB, 16384, .inl f3)), (sg, .inr (1, [.ref tx, .int 0, .int 0, .int 0, .int 0, .int 0, .int 0, .long 0]))] := hD
  have hK : va_K (dC, dI) classes [(c1, .byte), (c2, .int), (cB, .byte)] s := hK.sub [0, 1, 2] rfl
  refine lv_iconst (v := 0) hx hb d_PStyle_read_59 (by decide) ?_
  refine lv_istore (lv' := [(4, .int 0), (0, .ref s2), (1, .ref tp), (2, .int 0), (3, .ref sg)]) hx hb d_PStyle_read_60 hl (by decide) rfl (fun ls hl => ?_)
  refine lv_iload hx hb d_PStyle_read_62 (lv_at hl 0 rfl) ?_
  refine lv_iload_n hx hb d_PStyle_read_64 rfl (lv_at hl 3 rfl) ?_
  refine lv_icmp_gt (tgt := 91) hx hb d_PStyle_read_65 (by decide) (fun c_3 => absurd c_3 (by decide)) (fun c_3 => ?_)
  refine lv_aload_n hx hb d_PStyle_read_68 rfl (lv_at hl 4 rfl) ?_
  refine va_get (D := (dC, dI)) (ci := 1) (v := .int 0) (C := "ScholarsPress$Signs") (T := F_PSigns) (N := 8) hx hb hts in_PSigns hown hK hP 4 rfl rfl 3 (by decide) (hts (.fieldLink "ScholarsPress$Style" 75 "ScholarsPress$Signs" "kind" "I") k_304) (fun _ h9 => h9) rfl d_PStyle_read_69 ?_
  refine lv_if_eq (tgt := 91) hx hb d_PStyle_read_72 (by decide) (fun c_4 => ?_) (fun c_4 => absurd c_4 (by decide))
  refine lv_iconst (v := 1) hx hb d_PStyle_read_91 (by decide) ?_
  have hP9 := hP.sub (ws' := [(s2, .inr (2, [.ref tx, .ref pg, .int 0, .ref (yr 0), .int 0, .ref (yr 1), .ref (yr 2), .int 0, .ref (yr 3), .ref (yr 4), .int 0, .ref (yr 5), .ref (yr 6), .int 0, .ref (yr 7)]))]) [0] rfl
  have hD9 := hD.sub (ws' := [(s2, .inr (2, [.ref tx, .ref pg, .int 0, .ref (yr 0), .int 0, .ref (yr 1), .ref (yr 2), .int 0, .ref (yr 3), .ref (yr 4), .int 0, .ref (yr 5), .ref (yr 6), .int 0, .ref (yr 7)]))]) [0] (by decide) rfl
  have hK9 := hK.sub (tys' := []) [] rfl
  exact W.zret (ty := .boolean) (v := 1) hx hb hr (by decide) (fun t ht hW => ⟨⟨1, (), rfl, rfl, by rw [ht]; exact hP9, va_K.moved hW.alike hK9, hD9⟩, hS.F ht⟩) hS.2.2 d_PStyle_read_92
set_option maxHeartbeats 4000000 in
set_option maxRecDepth 100000 in
/-- style of an empty TAPE -/
theorem c_SP_style (l : Launch) (dC : Nat → ClassId) (dI : Nat → Nat → Nat) (n0 zt : Nat) (fz : Nat → Int32) (x tp sg st ft hy : Nat) (cB : ClassId) (f3 : Nat → Int32) (sz : Nat) : Met l y_SP_style [w_SP_style] ({ frames := 4, cells := 11, slots := 37417, locals := 90 }) (va_Pc [.ref x] (prZ n0 zt fz sz (dC, dI) [(x, .inr (0, [.ref tp, .int 0, .int ((-1)), .ref sg, .null, .null, .ref st, .null, .ref ft, .null, .ref hy, .null, .null, .int 0, .null, .null, .null, .null, .null, .null, .int 0])), (tp, .inl (cB, 16384, .inl f3)), (sg, .inr (1, [.null, .int 0, .int 0, .int 0, .int 0, .int 0, .int 0, .long 0]))] [(cB, .byte)])) (va_Qi (fun (r : Int32) (u : Unit) => r = 0) (bw (dC, dI) (va_A [(x, .inr (0, [.ref tp, .int 0, .int ((-1)), .ref sg, .null, .null, .ref st, .null, .ref ft, .null, .ref hy, .null, .null, .int 0, .null, .null, .null, .null, .null, .null, .int 0])), (tp, .inl (cB, 16384, .inl f3)), (sg, .inr (1, [.null, .int 0, .int 0, .int 0, .int 0, .int 0, .int 0, .long 0]))] sz) (fun u : Unit => []) (fun u : Unit => [])) (va_A [(x, .inr (0, [.ref tp, .int 0, .int ((-1)), .ref sg, .null, .null, .ref st, .null, .ref ft, .null, .ref hy, .null, .null, .int 0, .null, .null, .null, .null, .null, .null, .int 0])), (tp, .inl (cB, 16384, .inl f3)), (sg, .inr (1, [.null, .int 0, .int 0, .int 0, .int 0, .int 0, .int 0, .long 0]))] sz)) 11 37417 (va_A [(x, .inr (0, [.ref tp, .int 0, .int ((-1)), .ref sg, .null, .null, .ref st, .null, .ref ft, .null, .ref hy, .null, .null, .int 0, .null, .null, .null, .null, .null, .null, .int 0])), (tp, .inl (cB, 16384, .inl f3)), (sg, .inr (1, [.null, .int 0, .int 0, .int 0, .int 0, .int 0, .int 0, .long 0]))] sz) := by
  refine Met.ofW (cc := b_SP_style) (maxL := 2) (ret := (some .int)) (by decide) rfl ?_
  intro p e s m args below meth c s₁ B hml hv
  obtain ⟨rfl, ⟨hsz, hb0, hP, hK, hD0⟩, hn0, hDn, hZ0⟩ := hv
  have hx := B.exec
  have hb := B.bytes
  have hr := B.returns
  have hts : ∀ wq ∈ tt, wq.before ([.ref x] : List Value).toArray s = true := hb0.hts
  have hown : s.vm.findClass "ScholarsPress" = some m.cls := findClass_of_methodNamed B.named
  have hlocks := B.notSynchronized
  subst hsz
  have hD := hD0.self (sz := s.heap.size)
  generalize hAe : va_A [(x, .inr (0, [.ref tp, .int 0, .int ((-1)), .ref sg, .null, .null, .ref st, .null, .ref ft, .null, .ref hy, .null, .null, .int 0, .null, .null, .null, .null, .null, .null, .int 0])), (tp, .inl (cB, 16384, .inl f3)), (sg, .inr (1, [.null, .int 0, .int 0, .int 0, .int 0, .int 0, .int 0, .long 0]))] s.heap.size = A at hD ⊢
  have hA : ∀ q : Nat, s.heap.size ≤ q → A q := fun q h => by rw [← hAe]; exact Or.inr h
  have hS : va_S A s.heap s.heap [] := va_S.rf
  have hP : va_P (dC, dI) classes [(x, .inr (0, [.ref tp, .int 0, .int ((-1)), .ref sg, .null, .null, .ref st, .null, .ref ft, .null, .ref hy, .null, .null, .int 0, .null, .null, .null, .null, .null, .null, .int 0])), (tp, .inl (cB, 16384, .inl f3)), (sg, .inr (1, [.null, .int 0, .int 0, .int 0, .int 0, .int 0, .int 0, .long 0]))] s.heap := hP
  have hAn : ∀ q : Nat, A q → n0 ≤ q := by rw [← hAe]; exact zn hDn hn0
  have hZA := hZ0.1.narrow hAn
  have hTA := hZ0.2.narrow hAn
  have hl := lv_entry ([.ref x]) (n := 2) (Nat.le_of_ble_eq_true rfl)
  rw [lg_entry_eq]
  generalize (lg_sl ([.ref x]) ++ List.replicate (2 - (lg_sl ([.ref x])).length) Slot.unset).toArray = ls at hl ⊢
  have hl : lv_has ls 2 [(0, .ref x)] := hl
  refine lv_aload_n hx hb d_SP_style_0 rfl (lv_at hl 0 rfl) ?_
  refine va_get (D := (dC, dI)) (ci := 0) (v := .null) (C := "ScholarsPress") (T := F_SP) (N := 21) hx hb hts in_SP hown hK hP 0 rfl rfl 7 (by decide) (hts (.fieldLink "ScholarsPress" 100 "ScholarsPress" "styleSpare" "LScholarsPress$Style;") k_507) (fun _ h9 => h9) rfl d_SP_style_1 ?_
  refine lv_ifnonnullN hx hb d_SP_style_4 ?_
  refine lv_aload_n hx hb d_SP_style_7 rfl (lv_at hl 0 rfl) ?_
  refine va_new (D := (dC, dI)) (ci := 2) (fs := DEF_PStyle) (C := "ScholarsPress$Style") (T := F_PStyle) (N := 15) hx hb hts in_PStyle t_PStyle t_PStyle_ok hown (hts (.classLink "ScholarsPress" 24 "ScholarsPress$Style") k_339) (hts (.instantiable "ScholarsPress$Style" 15) k_340) (hts (.initialized "ScholarsPress$Style") k_242) hK hP hD hS hA rfl df_PStyle (Nat.le_of_ble_eq_true rfl) (Nat.le_of_ble_eq_true rfl) d_SP_style_8 (fun q_1 H hP hD hS => ?_)
  have hP : va_P (dC, dI) classes [(x, .inr (0, [.ref tp, .int 0, .int ((-1)), .ref sg, .null, .null, .ref st, .null, .ref ft, .null, .ref hy, .null, .null, .int 0, .null, .null, .null, .null, .null, .null, .int 0])), (tp, .inl (cB, 16384, .inl f3)), (sg, .inr (1, [.null, .int 0, .int 0, .int 0, .int 0, .int 0, .int 0, .long 0])), (q_1, .inr (2, DEF_PStyle))] H := hP
  have hD : va_D A [(x, .inr (0, [.ref tp, .int 0, .int ((-1)), .ref sg, .null, .null, .ref st, .null, .ref ft, .null, .ref hy, .null, .null, .int 0, .null, .null, .null, .null, .null, .null, .int 0])), (tp, .inl (cB, 16384, .inl f3)), (sg, .inr (1, [.null, .int 0, .int 0, .int 0, .int 0, .int 0, .int 0, .long 0])), (q_1, .inr (2, DEF_PStyle))] := hD
  refine lv_dup hx hb d_SP_style_11 rfl ?_
  refine vi_v (wc := [(q_1, .inr (2, DEF_PStyle))]) (wr := [(x, .inr (0, [.ref tp, .int 0, .int ((-1)), .ref sg, .null, .null, .ref st, .null, .ref ft, .null, .ref hy, .null, .null, .int 0, .null, .null, .null, .null, .null, .null, .int 0])), (tp, .inl (cB, 16384, .inl f3)), (sg, .inr (1, [.null, .int 0, .int 0, .int 0, .int 0, .int 0, .int 0, .long 0]))]) (va_runI (As := []) (rest := [.ref q_1, .ref x]) ⟨hx, hb, hml, hown, hts⟩ (c_PStyle_init l dC dI n0 zt fz q_1 H.size) (cwI 0 hts (tt_1 kw_PStyle_init rfl) rfl rfl rfl (hts _ k_242) (hts _ k_341) (hts _ k_342) rfl (by decide +kernel) ⟨Nat.le_of_ble_eq_true rfl, Nat.le_of_ble_eq_true rfl⟩) ⟨prZ_blind, prZ_pre hb0 (hP.sub [3] rfl) (hK.sub [] rfl) (hD.sub [3] (by decide) rfl) hS hn0 hAn hZ0⟩ rfl rfl hl.1 rfl (lv_room (Nat.le_of_ble_eq_true rfl)) d_SP_style_12 ⟨Nat.le_of_ble_eq_true rfl, Nat.le_of_ble_eq_true rfl⟩) hP hD hK hS hA [3] [0, 1, 2] rfl rfl (by decide) (by decide) (fun u H locs hw hP hK hD hS => ?_)
  obtain ⟨U_2, rfl⟩ : ∃ z, z = u := ⟨_, rfl⟩
  have hP : va_P (dC, dI) classes [(x, .inr (0, [.ref tp, .int 0, .int ((-1)), .ref sg, .null, .null, .ref st, .null, .ref ft, .null, .ref hy, .null, .null, .int 0, .null, .null, .null, .null, .null, .null, .int 0])), (tp, .inl (cB, 16384, .inl f3)), (sg, .inr (1, [.null, .int 0, .int 0, .int 0, .int 0, .int 0, .int 0, .long 0])), (q_1, .inr (2, [.ref (U_2.1 0), .ref (U_2.1 1), .int 0, .ref (U_2.1 2), .int 0, .ref (U_2.1 3), .ref (U_2.1 4), .int 0, .ref (U_2.1 5), .ref (U_2.1 6), .int 0, .ref (U_2.1 7), .ref (U_2.1 8), .int 0, .ref (U_2.1 9)])), ((U_2.1 0), .inl ((U_2.2.2 0), 16384, .inl ((fun _ => 0)))), ((U_2.1 1), .inl ((U_2.2.2 1), 6, .inl U_2.2.1))] H := hP
  have hD : va_D A [(x, .inr (0, [.ref tp, .int 0, .int ((-1)), .ref sg, .null, .null, .ref st, .null, .ref ft, .null, .ref hy, .null, .null, .int 0, .null, .null, .null, .null, .null, .null, .int 0])), (tp, .inl (cB, 16384, .inl f3)), (sg, .inr (1, [.null, .int 0, .int 0, .int 0, .int 0, .int 0, .int 0, .long 0])), (q_1, .inr (2, [.ref (U_2.1 0), .ref (U_2.1 1), .int 0, .ref (U_2.1 2), .int 0, .ref (U_2.1 3), .ref (U_2.1 4), .int 0, .ref (U_2.1 5), .ref (U_2.1 6), .int 0, .ref (U_2.1 7), .ref (U_2.1 8), .int 0, .ref (U_2.1 9)])), ((U_2.1 0), .inl ((U_2.2.2 0), 16384, .inl ((fun _ => 0)))), ((U_2.1 1), .inl ((U_2.2.2 1), 6, .inl U_2.2.1))] := hD
  have hK : va_K (dC, dI) classes [(cB, .byte), ((U_2.2.2 0), .byte), ((U_2.2.2 1), .int)] s := hK.sub [0, 1, 2] rfl
  refine va_put (D := (dC, dI)) (ci := 0) (v := .ref q_1) (ty := .object "ScholarsPress$Style") (C := "ScholarsPress") (T := F_SP) (N := 21) hx hb hts in_SP t_SP t_SP_ok n_SP hown hK hP hD hS 0 rfl rfl 7 (by decide) (hts (.fieldLink "ScholarsPress" 100 "ScholarsPress" "styleSpare" "LScholarsPress$Style;") k_507) (fun _ h9 => h9) rfl (by decide +kernel) rfl rfl (Nat.le_of_ble_eq_true rfl) d_SP_style_15 (fun H locs hP hD hS => ?_)
  have hP : va_P (dC, dI) classes [(x, .inr (0, [.ref tp, .int 0, .int ((-1)), .ref sg, .null, .null, .ref st, .ref q_1, .ref ft, .null, .ref hy, .null, .null, .int 0, .null, .null, .null, .null, .null, .null, .int 0])), (tp, .inl (cB, 16384, .inl f3)), (sg, .inr (1, [.null, .int 0, .int 0, .int 0, .int 0, .int 0, .int 0, .long 0])), (q_1, .inr (2, [.ref (U_2.1 0), .ref (U_2.1 1), .int 0, .ref (U_2.1 2), .int 0, .ref (U_2.1 3), .ref (U_2.1 4), .int 0, .ref (U_2.1 5), .ref (U_2.1 6), .int 0, .ref (U_2.1 7), .ref (U_2.1 8), .int 0, .ref (U_2.1 9)])), ((U_2.1 0), .inl ((U_2.2.2 0), 16384, .inl ((fun _ => 0)))), ((U_2.1 1), .inl ((U_2.2.2 1), 6, .inl U_2.2.1))] H := hP
  have hD : va_D A [(x, .inr (0, [.ref tp, .int 0, .int ((-1)), .ref sg, .null, .null, .ref st, .ref q_1, .ref ft, .null, .ref hy, .null, .null, .int 0, .null, .null, .null, .null, .null, .null, .int 0])), (tp, .inl (cB, 16384, .inl f3)), (sg, .inr (1, [.null, .int 0, .int 0, .int 0, .int 0, .int 0, .int 0, .long 0])), (q_1, .inr (2, [.ref (U_2.1 0), .ref (U_2.1 1), .int 0, .ref (U_2.1 2), .int 0, .ref (U_2.1 3), .ref (U_2.1 4), .int 0, .ref (U_2.1 5), .ref (U_2.1 6), .int 0, .ref (U_2.1 7), .ref (U_2.1 8), .int 0, .ref (U_2.1 9)])), ((U_2.1 0), .inl ((U_2.2.2 0), 16384, .inl ((fun _ => 0)))), ((U_2.1 1), .inl ((U_2.2.2 1), 6, .inl U_2.2.1))] := hD
  refine lv_aload_n hx hb d_SP_style_18 rfl (lv_at hl 0 rfl) ?_
  refine va_get (D := (dC, dI)) (ci := 0) (v := .ref q_1) (C := "ScholarsPress") (T := F_SP) (N := 21) hx hb hts in_SP hown hK hP 0 rfl rfl 7 (by decide) (hts (.fieldLink "ScholarsPress" 100 "ScholarsPress" "styleSpare" "LScholarsPress$Style;") k_507) (fun _ h9 => h9) rfl d_SP_style_19 ?_
  refine lv_aload_n hx hb d_SP_style_22 rfl (lv_at hl 0 rfl) ?_
  refine va_get (D := (dC, dI)) (ci := 0) (v := .ref tp) (C := "ScholarsPress") (T := F_SP) (N := 21) hx hb hts in_SP hown hK hP 0 rfl rfl 0 (by decide) (hts (.fieldLink "ScholarsPress" 9 "ScholarsPress" "tape" "[B") k_500) (fun _ h9 => h9) rfl d_SP_style_23 ?_
  refine lv_aload_n hx hb d_SP_style_26 rfl (lv_at hl 0 rfl) ?_
  refine vi_i (wc := [(x, .inr (0, [.ref tp, .int 0, .int ((-1)), .ref sg, .null, .null, .ref st, .ref q_1, .ref ft, .null, .ref hy, .null, .null, .int 0, .null, .null, .null, .null, .null, .null, .int 0]))]) (wr := [(tp, .inl (cB, 16384, .inl f3)), (sg, .inr (1, [.null, .int 0, .int 0, .int 0, .int 0, .int 0, .int 0, .long 0])), (q_1, .inr (2, [.ref (U_2.1 0), .ref (U_2.1 1), .int 0, .ref (U_2.1 2), .int 0, .ref (U_2.1 3), .ref (U_2.1 4), .int 0, .ref (U_2.1 5), .ref (U_2.1 6), .int 0, .ref (U_2.1 7), .ref (U_2.1 8), .int 0, .ref (U_2.1 9)])), ((U_2.1 0), .inl ((U_2.2.2 0), 16384, .inl ((fun _ => 0)))), ((U_2.1 1), .inl ((U_2.2.2 1), 6, .inl U_2.2.1))]) (va_runV (As := []) (rest := [.ref tp, .ref q_1]) ⟨hx, hb, hml, hown, hts⟩ (c_SP_takeTape l dC dI x tp (fun k => match k with | 0 => (.ref tp : Value) | 1 => (.int 0 : Value) | 2 => (.int ((-1)) : Value) | 3 => (.ref sg : Value) | 4 => (.null : Value) | 5 => (.null : Value) | 6 => (.ref st : Value) | 7 => (.ref q_1 : Value) | 8 => (.ref ft : Value) | 9 => (.null : Value) | 10 => (.ref hy : Value) | 11 => (.null : Value) | 12 => (.null : Value) | 13 => (.int 0 : Value) | 14 => (.null : Value) | 15 => (.null : Value) | 16 => (.null : Value) | 17 => (.null : Value) | 18 => (.null : Value) | 19 => (.null : Value) | _ => (.int 0 : Value)) H.size) (cwV 0 hts (tt_V k_681 k_683 k_2 k_240 kw_SP_takeTape) rfl rfl rfl (by decide +kernel) ⟨Nat.le_of_ble_eq_true rfl, Nat.le_of_ble_eq_true rfl⟩) ⟨pr_blind, va_recv hK hP (ci := 0) (q0 := 0) rfl rfl, pr_pre hb0 (hP.sub [0] rfl) (hK.sub [] rfl) (hD.sub [0] (by decide) rfl)⟩ rfl rfl hl.1 rfl (lv_room (Nat.le_of_ble_eq_true rfl)) d_SP_style_27 ⟨Nat.le_of_ble_eq_true rfl, Nat.le_of_ble_eq_true rfl⟩) hP hD hK hS hA [0] [1, 2, 3, 4, 5] rfl rfl (by decide) (by decide) (fun r u H locs hw hP hK hD hS => ?_)
  subst hw
  have hP : va_P (dC, dI) classes [(tp, .inl (cB, 16384, .inl f3)), (sg, .inr (1, [.null, .int 0, .int 0, .int 0, .int 0, .int 0, .int 0, .long 0])), (q_1, .inr (2, [.ref (U_2.1 0), .ref (U_2.1 1), .int 0, .ref (U_2.1 2), .int 0, .ref (U_2.1 3), .ref (U_2.1 4), .int 0, .ref (U_2.1 5), .ref (U_2.1 6), .int 0, .ref (U_2.1 7), .ref (U_2.1 8), .int 0, .ref (U_2.1 9)])), ((U_2.1 0), .inl ((U_2.2.2 0), 16384, .inl ((fun _ => 0)))), ((U_2.1 1), .inl ((U_2.2.2 1), 6, .inl U_2.2.1)), (x, .inr (0, [.ref tp, .int 0, .int ((-1)), .ref sg, .null, .null, .ref st, .ref q_1, .ref ft, .null, .ref hy, .null, .null, .int 0, .null, .null, .null, .null, .null, .null, .int 0]))] H := hP
  have hD : va_D A [(tp, .inl (cB, 16384, .inl f3)), (sg, .inr (1, [.null, .int 0, .int 0, .int 0, .int 0, .int 0, .int 0, .long 0])), (q_1, .inr (2, [.ref (U_2.1 0), .ref (U_2.1 1), .int 0, .ref (U_2.1 2), .int 0, .ref (U_2.1 3), .ref (U_2.1 4), .int 0, .ref (U_2.1 5), .ref (U_2.1 6), .int 0, .ref (U_2.1 7), .ref (U_2.1 8), .int 0, .ref (U_2.1 9)])), ((U_2.1 0), .inl ((U_2.2.2 0), 16384, .inl ((fun _ => 0)))), ((U_2.1 1), .inl ((U_2.2.2 1), 6, .inl U_2.2.1)), (x, .inr (0, [.ref tp, .int 0, .int ((-1)), .ref sg, .null, .null, .ref st, .ref q_1, .ref ft, .null, .ref hy, .null, .null, .int 0, .null, .null, .null, .null, .null, .null, .int 0]))] := hD
  have hK : va_K (dC, dI) classes [(cB, .byte), ((U_2.2.2 0), .byte), ((U_2.2.2 1), .int)] s := hK.sub [0, 1, 2] rfl
  refine lv_aload_n hx hb d_SP_style_30 rfl (lv_at hl 0 rfl) ?_
  refine va_get (D := (dC, dI)) (ci := 0) (v := .ref sg) (C := "ScholarsPress") (T := F_SP) (N := 21) hx hb hts in_SP hown hK hP 5 rfl rfl 3 (by decide) (hts (.fieldLink "ScholarsPress" 20 "ScholarsPress" "signs" "LScholarsPress$Signs;") k_503) (fun _ h9 => h9) rfl d_SP_style_31 ?_
  refine vi_i (wc := [(q_1, .inr (2, [.ref (U_2.1 0), .ref (U_2.1 1), .int 0, .ref (U_2.1 2), .int 0, .ref (U_2.1 3), .ref (U_2.1 4), .int 0, .ref (U_2.1 5), .ref (U_2.1 6), .int 0, .ref (U_2.1 7), .ref (U_2.1 8), .int 0, .ref (U_2.1 9)])), ((U_2.1 0), .inl ((U_2.2.2 0), 16384, .inl ((fun _ => 0)))), ((U_2.1 1), .inl ((U_2.2.2 1), 6, .inl U_2.2.1)), (tp, .inl (cB, 16384, .inl f3)), (sg, .inr (1, [.null, .int 0, .int 0, .int 0, .int 0, .int 0, .int 0, .long 0]))]) (wr := [(x, .inr (0, [.ref tp, .int 0, .int ((-1)), .ref sg, .null, .null, .ref st, .ref q_1, .ref ft, .null, .ref hy, .null, .null, .int 0, .null, .null, .null, .null, .null, .null, .int 0]))]) (va_runV (As := [.ref tp, .int 0, .ref sg]) (rest := []) ⟨hx, hb, hml, hown, hts⟩ (c_PStyle_read l dC dI n0 zt fz q_1 ((U_2.1 0)) ((U_2.1 1)) tp sg (fun k => match k with | 0 => (U_2.1 2) | 1 => (U_2.1 3) | 2 => (U_2.1 4) | 3 => (U_2.1 5) | 4 => (U_2.1 6) | 5 => (U_2.1 7) | 6 => (U_2.1 8) | _ => (U_2.1 9)) ((U_2.2.2 0)) ((U_2.2.2 1)) cB ((fun _ => 0)) U_2.2.1 f3 H.size) (cwV 3 hts (tt_V k_1115 k_1116 k_1117 k_242 kw_PStyle_read) rfl rfl rfl (by decide +kernel) ⟨Nat.le_of_ble_eq_true rfl, Nat.le_of_ble_eq_true rfl⟩) ⟨prZ_blind, va_recv hK hP (ci := 2) (q0 := 2) rfl rfl, prZ_pre hb0 (hP.sub [2, 3, 4, 0, 1] rfl) (hK.sub [1, 2, 0] rfl) (hD.sub [2, 3, 4, 0, 1] (by decide) rfl) hS hn0 hAn hZ0⟩ rfl rfl hl.1 rfl (lv_room (Nat.le_of_ble_eq_true rfl)) d_SP_style_34 ⟨Nat.le_of_ble_eq_true rfl, Nat.le_of_ble_eq_true rfl⟩) hP hD hK hS hA [2, 3, 4, 0, 1] [5] rfl rfl (by decide) (by decide) (fun r u H locs hw hP hK hD hS => ?_)
  subst hw
  have hP : va_P (dC, dI) classes [(x, .inr (0, [.ref tp, .int 0, .int ((-1)), .ref sg, .null, .null, .ref st, .ref q_1, .ref ft, .null, .ref hy, .null, .null, .int 0, .null, .null, .null, .null, .null, .null, .int 0])), (q_1, .inr (2, [.ref (U_2.1 0), .ref (U_2.1 1), .int 0, .ref (U_2.1 2), .int 0, .ref (U_2.1 3), .ref (U_2.1 4), .int 0, .ref (U_2.1 5), .ref (U_2.1 6), .int 0, .ref (U_2.1 7), .ref (U_2.1 8), .int 0, .ref (U_2.1 9)]))] H := hP
  have hD : va_D A [(x, .inr (0, [.ref tp, .int 0, .int ((-1)), .ref sg, .null, .null, .ref st, .ref q_1, .ref ft, .null, .ref hy, .null, .null, .int 0, .null, .null, .null, .null, .null, .null, .int 0])), (q_1, .inr (2, [.ref (U_2.1 0), .ref (U_2.1 1), .int 0, .ref (U_2.1 2), .int 0, .ref (U_2.1 3), .ref (U_2.1 4), .int 0, .ref (U_2.1 5), .ref (U_2.1 6), .int 0, .ref (U_2.1 7), .ref (U_2.1 8), .int 0, .ref (U_2.1 9)]))] := hD
  have hK : va_K (dC, dI) classes [(cB, .byte), ((U_2.2.2 0), .byte), ((U_2.2.2 1), .int)] s := hK.sub [0, 1, 2] rfl
  refine lv_if_ne (tgt := 59) hx hb d_SP_style_37 (by decide) (fun c_3 => ?_) (fun c_3 => absurd c_3 (by decide))
  refine lv_aload_n hx hb d_SP_style_59 rfl (lv_at hl 0 rfl) ?_
  refine va_get (D := (dC, dI)) (ci := 0) (v := .ref q_1) (C := "ScholarsPress") (T := F_SP) (N := 21) hx hb hts in_SP hown hK hP 0 rfl rfl 7 (by decide) (hts (.fieldLink "ScholarsPress" 100 "ScholarsPress" "styleSpare" "LScholarsPress$Style;") k_507) (fun _ h9 => h9) rfl d_SP_style_60 ?_
  refine lv_astore_n (lv' := [(1, .ref q_1), (0, .ref x)]) hx hb d_SP_style_63 rfl hl (by decide) rfl (fun ls hl => ?_)
  refine lv_aload_n hx hb d_SP_style_64 rfl (lv_at hl 1 rfl) ?_
  refine lv_aload_n hx hb d_SP_style_65 rfl (lv_at hl 1 rfl) ?_
  refine va_get (D := (dC, dI)) (ci := 0) (v := .ref st) (C := "ScholarsPress") (T := F_SP) (N := 21) hx hb hts in_SP hown hK hP 0 rfl rfl 6 (by decide) (hts (.fieldLink "ScholarsPress" 27 "ScholarsPress" "styleNow" "LScholarsPress$Style;") k_506) (fun _ h9 => h9) rfl d_SP_style_66 ?_
  refine va_put (D := (dC, dI)) (ci := 0) (v := .ref st) (ty := .object "ScholarsPress$Style") (C := "ScholarsPress") (T := F_SP) (N := 21) hx hb hts in_SP t_SP t_SP_ok n_SP hown hK hP hD hS 0 rfl rfl 7 (by decide) (hts (.fieldLink "ScholarsPress" 100 "ScholarsPress" "styleSpare" "LScholarsPress$Style;") k_507) (fun _ h9 => h9) rfl (by decide +kernel) rfl rfl (Nat.le_of_ble_eq_true rfl) d_SP_style_69 (fun H locs hP hD hS => ?_)
  have hP : va_P (dC, dI) classes [(x, .inr (0, [.ref tp, .int 0, .int ((-1)), .ref sg, .null, .null, .ref st, .ref st, .ref ft, .null, .ref hy, .null, .null, .int 0, .null, .null, .null, .null, .null, .null, .int 0])), (q_1, .inr (2, [.ref (U_2.1 0), .ref (U_2.1 1), .int 0, .ref (U_2.1 2), .int 0, .ref (U_2.1 3), .ref (U_2.1 4), .int 0, .ref (U_2.1 5), .ref (U_2.1 6), .int 0, .ref (U_2.1 7), .ref (U_2.1 8), .int 0, .ref (U_2.1 9)]))] H := hP
  have hD : va_D A [(x, .inr (0, [.ref tp, .int 0, .int ((-1)), .ref sg, .null, .null, .ref st, .ref st, .ref ft, .null, .ref hy, .null, .null, .int 0, .null, .null, .null, .null, .null, .null, .int 0])), (q_1, .inr (2, [.ref (U_2.1 0), .ref (U_2.1 1), .int 0, .ref (U_2.1 2), .int 0, .ref (U_2.1 3), .ref (U_2.1 4), .int 0, .ref (U_2.1 5), .ref (U_2.1 6), .int 0, .ref (U_2.1 7), .ref (U_2.1 8), .int 0, .ref (U_2.1 9)]))] := hD
  refine lv_aload_n hx hb d_SP_style_72 rfl (lv_at hl 1 rfl) ?_
  refine lv_aload_n hx hb d_SP_style_73 rfl (lv_at hl 0 rfl) ?_
  refine va_put (D := (dC, dI)) (ci := 0) (v := .ref q_1) (ty := .object "ScholarsPress$Style") (C := "ScholarsPress") (T := F_SP) (N := 21) hx hb hts in_SP t_SP t_SP_ok n_SP hown hK hP hD hS 0 rfl rfl 6 (by decide) (hts (.fieldLink "ScholarsPress" 27 "ScholarsPress" "styleNow" "LScholarsPress$Style;") k_506) (fun _ h9 => h9) rfl (by decide +kernel) rfl rfl (Nat.le_of_ble_eq_true rfl) d_SP_style_74 (fun H locs hP hD hS => ?_)
  have hP : va_P (dC, dI) classes [(x, .inr (0, [.ref tp, .int 0, .int ((-1)), .ref sg, .null, .null, .ref q_1, .ref st, .ref ft, .null, .ref hy, .null, .null, .int 0, .null, .null, .null, .null, .null, .null, .int 0])), (q_1, .inr (2, [.ref (U_2.1 0), .ref (U_2.1 1), .int 0, .ref (U_2.1 2), .int 0, .ref (U_2.1 3), .ref (U_2.1 4), .int 0, .ref (U_2.1 5), .ref (U_2.1 6), .int 0, .ref (U_2.1 7), .ref (U_2.1 8), .int 0, .ref (U_2.1 9)]))] H := hP
  have hD : va_D A [(x, .inr (0, [.ref tp, .int 0, .int ((-1)), .ref sg, .null, .null, .ref q_1, .ref st, .ref ft, .null, .ref hy, .null, .null, .int 0, .null, .null, .null, .null, .null, .null, .int 0])), (q_1, .inr (2, [.ref (U_2.1 0), .ref (U_2.1 1), .int 0, .ref (U_2.1 2), .int 0, .ref (U_2.1 3), .ref (U_2.1 4), .int 0, .ref (U_2.1 5), .ref (U_2.1 6), .int 0, .ref (U_2.1 7), .ref (U_2.1 8), .int 0, .ref (U_2.1 9)]))] := hD
  refine lv_aload_n hx hb d_SP_style_77 rfl (lv_at hl 1 rfl) ?_
  refine lv_iconst (v := 0) hx hb d_SP_style_78 (by decide) ?_
  refine va_put (D := (dC, dI)) (ci := 0) (v := .int 0) (ty := .boolean) (C := "ScholarsPress") (T := F_SP) (N := 21) hx hb hts in_SP t_SP t_SP_ok n_SP hown hK hP hD hS 0 rfl rfl 13 (by decide) (hts (.fieldLink "ScholarsPress" 106 "ScholarsPress" "looksFresh" "Z") k_513) (fun _ h9 => h9) rfl (by decide +kernel) rfl rfl (Nat.le_of_ble_eq_true rfl) d_SP_style_79 (fun H locs hP hD hS => ?_)
  have hP : va_P (dC, dI) classes [(x, .inr (0, [.ref tp, .int 0, .int ((-1)), .ref sg, .null, .null, .ref q_1, .ref st, .ref ft, .null, .ref hy, .null, .null, .int 0, .null, .null, .null, .null, .null, .null, .int 0])), (q_1, .inr (2, [.ref (U_2.1 0), .ref (U_2.1 1), .int 0, .ref (U_2.1 2), .int 0, .ref (U_2.1 3), .ref (U_2.1 4), .int 0, .ref (U_2.1 5), .ref (U_2.1 6), .int 0, .ref (U_2.1 7), .ref (U_2.1 8), .int 0, .ref (U_2.1 9)]))] H := hP
  have hD : va_D A [(x, .inr (0, [.ref tp, .int 0, .int ((-1)), .ref sg, .null, .null, .ref q_1, .ref st, .ref ft, .null, .ref hy, .null, .null, .int 0, .null, .null, .null, .null, .null, .null, .int 0])), (q_1, .inr (2, [.ref (U_2.1 0), .ref (U_2.1 1), .int 0, .ref (U_2.1 2), .int 0, .ref (U_2.1 3), .ref (U_2.1 4), .int 0, .ref (U_2.1 5), .ref (U_2.1 6), .int 0, .ref (U_2.1 7), .ref (U_2.1 8), .int 0, .ref (U_2.1 9)]))] := hD
  refine lv_aload_n hx hb d_SP_style_82 rfl (lv_at hl 0 rfl) ?_
  refine va_get (D := (dC, dI)) (ci := 2) (v := .int 0) (C := "ScholarsPress$Style") (T := F_PStyle) (N := 15) hx hb hts in_PStyle hown hK hP 1 rfl rfl 2 (by decide) (hts (.fieldLink "ScholarsPress" 110 "ScholarsPress$Style" "selectors" "I") k_357) (fun _ h9 => h9) rfl d_SP_style_83 ?_
  have hP9 := hP.sub (ws' := []) [] rfl
  have hD9 := hD.sub (ws' := []) [] (by decide) rfl
  have hK9 := hK.sub (tys' := []) [] rfl
  exact W.iret (v := 0) hx hb hr (fun t ht hW => ⟨⟨0, (), rfl, rfl, by rw [ht]; exact hP9, va_K.moved hW.alike hK9, hD9⟩, hS.F ht⟩) hS.2.2 d_SP_style_86
set_option maxHeartbeats 4000000 in
set_option maxRecDepth 100000 in
/-- Source.read of an empty text -/
theorem c_PSource_read (l : Launch) (dC : Nat → ClassId) (dI : Nat → Nat → Nat) (r2 : Nat) (yr : Nat → Nat) (sz : Nat) : Met l y_PSource_read [w_PSource_read] ({ frames := 0, cells := 0, slots := 0, locals := 0 }) (va_Pc [.ref r2, .int 0] (pr sz (dC, dI) [(r2, .inr (5, [.ref (yr 0), .int 0, .ref (yr 1), .int 0, .int 0, .ref (yr 2), .ref (yr 3), .int 0, .ref (yr 4), .ref (yr 5), .int 0, .ref (yr 6), .ref (yr 7), .int 0, .int 0, .int 0, .int 0, .long 0, .int 0, .int 0]))] [])) (va_Qi (fun (r : Int32) (u : Unit) => r = 1) (bw (dC, dI) (va_A [(r2, .inr (5, [.ref (yr 0), .int 0, .ref (yr 1), .int 0, .int 0, .ref (yr 2), .ref (yr 3), .int 0, .ref (yr 4), .ref (yr 5), .int 0, .ref (yr 6), .ref (yr 7), .int 0, .int 0, .int 0, .int 0, .long 0, .int 0, .int 0]))] sz) (fun u : Unit => [(r2, .inr (5, [.ref (yr 0), .int 0, .ref (yr 1), .int 0, .int 0, .ref (yr 2), .ref (yr 3), .int 0, .ref (yr 4), .ref (yr 5), .int 0, .ref (yr 6), .ref (yr 7), .int 0, .int ((-1)), .int 0, .int ((-1)), .long 0, .int 0, .int 0]))]) (fun u : Unit => [])) (va_A [(r2, .inr (5, [.ref (yr 0), .int 0, .ref (yr 1), .int 0, .int 0, .ref (yr 2), .ref (yr 3), .int 0, .ref (yr 4), .ref (yr 5), .int 0, .ref (yr 6), .ref (yr 7), .int 0, .int 0, .int 0, .int 0, .long 0, .int 0, .int 0]))] sz)) 0 0 (va_A [(r2, .inr (5, [.ref (yr 0), .int 0, .ref (yr 1), .int 0, .int 0, .ref (yr 2), .ref (yr 3), .int 0, .ref (yr 4), .ref (yr 5), .int 0, .ref (yr 6), .ref (yr 7), .int 0, .int 0, .int 0, .int 0, .long 0, .int 0, .int 0]))] sz) := by
  refine Met.ofW (cc := b_PSource_read) (maxL := 5) (ret := (some .boolean)) (by decide) rfl ?_
  intro p e s m args below meth c s₁ B hml hv
  obtain ⟨rfl, hsz, hb0, hP, hK, hD0⟩ := hv
  have hx := B.exec
  have hb := B.bytes
  have hr := B.returns
  have hts : ∀ wq ∈ tt, wq.before ([.ref r2, .int 0] : List Value).toArray s = true := hb0.hts
  have hown : s.vm.findClass "ScholarsPress$Source" = some m.cls := findClass_of_methodNamed B.named
  have hlocks := B.notSynchronized
  subst hsz
  have hD := hD0.self (sz := s.heap.size)
  generalize hAe : va_A [(r2, .inr (5, [.ref (yr 0), .int 0, .ref (yr 1), .int 0, .int 0, .ref (yr 2), .ref (yr 3), .int 0, .ref (yr 4), .ref (yr 5), .int 0, .ref (yr 6), .ref (yr 7), .int 0, .int 0, .int 0, .int 0, .long 0, .int 0, .int 0]))] s.heap.size = A at hD ⊢
  have hA : ∀ q : Nat, s.heap.size ≤ q → A q := fun q h => by rw [← hAe]; exact Or.inr h
  have hS : va_S A s.heap s.heap [] := va_S.rf
  have hP : va_P (dC, dI) classes [(r2, .inr (5, [.ref (yr 0), .int 0, .ref (yr 1), .int 0, .int 0, .ref (yr 2), .ref (yr 3), .int 0, .ref (yr 4), .ref (yr 5), .int 0, .ref (yr 6), .ref (yr 7), .int 0, .int 0, .int 0, .int 0, .long 0, .int 0, .int 0]))] s.heap := hP
  have hl := lv_entry ([.ref r2, .int 0]) (n := 5) (Nat.le_of_ble_eq_true rfl)
  rw [lg_entry_eq]
  generalize (lg_sl ([.ref r2, .int 0]) ++ List.replicate (5 - (lg_sl ([.ref r2, .int 0])).length) Slot.unset).toArray = ls at hl ⊢
  have hl : lv_has ls 5 [(0, .ref r2), (1, .int 0)] := hl
  refine lv_aload_n hx hb d_PSource_read_0 rfl (lv_at hl 0 rfl) ?_
  refine lv_iload_n hx hb d_PSource_read_1 rfl (lv_at hl 1 rfl) ?_
  refine va_put (D := (dC, dI)) (ci := 5) (v := .int 0) (ty := .int) (C := "ScholarsPress$Source") (T := F_PSource) (N := 20) hx hb hts in_PSource t_PSource t_PSource_ok n_PSource hown hK hP hD hS 0 rfl rfl 1 (by decide) (hts (.fieldLink "ScholarsPress$Source" 65 "ScholarsPress$Source" "length" "I") k_1218) (fun _ h9 => h9) rfl (by decide +kernel) rfl rfl (Nat.le_of_ble_eq_true rfl) d_PSource_read_2 (fun H locs hP hD hS => ?_)
  have hP : va_P (dC, dI) classes [(r2, .inr (5, [.ref (yr 0), .int 0, .ref (yr 1), .int 0, .int 0, .ref (yr 2), .ref (yr 3), .int 0, .ref (yr 4), .ref (yr 5), .int 0, .ref (yr 6), .ref (yr 7), .int 0, .int 0, .int 0, .int 0, .long 0, .int 0, .int 0]))] H := hP
  have hD : va_D A [(r2, .inr (5, [.ref (yr 0), .int 0, .ref (yr 1), .int 0, .int 0, .ref (yr 2), .ref (yr 3), .int 0, .ref (yr 4), .ref (yr 5), .int 0, .ref (yr 6), .ref (yr 7), .int 0, .int 0, .int 0, .int 0, .long 0, .int 0, .int 0]))] := hD
  refine lv_aload_n hx hb d_PSource_read_5 rfl (lv_at hl 0 rfl) ?_
  refine lv_iconst (v := 0) hx hb d_PSource_read_6 (by decide) ?_
  refine va_put (D := (dC, dI)) (ci := 5) (v := .int 0) (ty := .int) (C := "ScholarsPress$Source") (T := F_PSource) (N := 20) hx hb hts in_PSource t_PSource t_PSource_ok n_PSource hown hK hP hD hS 0 rfl rfl 3 (by decide) (hts (.fieldLink "ScholarsPress$Source" 67 "ScholarsPress$Source" "streamLength" "I") k_1225) (fun _ h9 => h9) rfl (by decide +kernel) rfl rfl (Nat.le_of_ble_eq_true rfl) d_PSource_read_7 (fun H locs hP hD hS => ?_)
  have hP : va_P (dC, dI) classes [(r2, .inr (5, [.ref (yr 0), .int 0, .ref (yr 1), .int 0, .int 0, .ref (yr 2), .ref (yr 3), .int 0, .ref (yr 4), .ref (yr 5), .int 0, .ref (yr 6), .ref (yr 7), .int 0, .int 0, .int 0, .int 0, .long 0, .int 0, .int 0]))] H := hP
  have hD : va_D A [(r2, .inr (5, [.ref (yr 0), .int 0, .ref (yr 1), .int 0, .int 0, .ref (yr 2), .ref (yr 3), .int 0, .ref (yr 4), .ref (yr 5), .int 0, .ref (yr 6), .ref (yr 7), .int 0, .int 0, .int 0, .int 0, .long 0, .int 0, .int 0]))] := hD
  refine lv_aload_n hx hb d_PSource_read_10 rfl (lv_at hl 0 rfl) ?_
  refine lv_iconst (v := 0) hx hb d_PSource_read_11 (by decide) ?_
  refine va_put (D := (dC, dI)) (ci := 5) (v := .int 0) (ty := .int) (C := "ScholarsPress$Source") (T := F_PSource) (N := 20) hx hb hts in_PSource t_PSource t_PSource_ok n_PSource hown hK hP hD hS 0 rfl rfl 4 (by decide) (hts (.fieldLink "ScholarsPress$Source" 70 "ScholarsPress$Source" "elements" "I") k_1228) (fun _ h9 => h9) rfl (by decide +kernel) rfl rfl (Nat.le_of_ble_eq_true rfl) d_PSource_read_12 (fun H locs hP hD hS => ?_)
  have hP : va_P (dC, dI) classes [(r2, .inr (5, [.ref (yr 0), .int 0, .ref (yr 1), .int 0, .int 0, .ref (yr 2), .ref (yr 3), .int 0, .ref (yr 4), .ref (yr 5), .int 0, .ref (yr 6), .ref (yr 7), .int 0, .int 0, .int 0, .int 0, .long 0, .int 0, .int 0]))] H := hP
  have hD : va_D A [(r2, .inr (5, [.ref (yr 0), .int 0, .ref (yr 1), .int 0, .int 0, .ref (yr 2), .ref (yr 3), .int 0, .ref (yr 4), .ref (yr 5), .int 0, .ref (yr 6), .ref (yr 7), .int 0, .int 0, .int 0, .int 0, .long 0, .int 0, .int 0]))] := hD
  refine lv_aload_n hx hb d_PSource_read_15 rfl (lv_at hl 0 rfl) ?_
  refine lv_iconst (v := 0) hx hb d_PSource_read_16 (by decide) ?_
  refine va_put (D := (dC, dI)) (ci := 5) (v := .int 0) (ty := .int) (C := "ScholarsPress$Source") (T := F_PSource) (N := 20) hx hb hts in_PSource t_PSource t_PSource_ok n_PSource hown hK hP hD hS 0 rfl rfl 7 (by decide) (hts (.fieldLink "ScholarsPress$Source" 73 "ScholarsPress$Source" "fields" "I") k_1234) (fun _ h9 => h9) rfl (by decide +kernel) rfl rfl (Nat.le_of_ble_eq_true rfl) d_PSource_read_17 (fun H locs hP hD hS => ?_)
  have hP : va_P (dC, dI) classes [(r2, .inr (5, [.ref (yr 0), .int 0, .ref (yr 1), .int 0, .int 0, .ref (yr 2), .ref (yr 3), .int 0, .ref (yr 4), .ref (yr 5), .int 0, .ref (yr 6), .ref (yr 7), .int 0, .int 0, .int 0, .int 0, .long 0, .int 0, .int 0]))] H := hP
  have hD : va_D A [(r2, .inr (5, [.ref (yr 0), .int 0, .ref (yr 1), .int 0, .int 0, .ref (yr 2), .ref (yr 3), .int 0, .ref (yr 4), .ref (yr 5), .int 0, .ref (yr 6), .ref (yr 7), .int 0, .int 0, .int 0, .int 0, .long 0, .int 0, .int 0]))] := hD
  refine lv_aload_n hx hb d_PSource_read_20 rfl (lv_at hl 0 rfl) ?_
  refine lv_iconst (v := 0) hx hb d_PSource_read_21 (by decide) ?_
  refine va_put (D := (dC, dI)) (ci := 5) (v := .int 0) (ty := .int) (C := "ScholarsPress$Source") (T := F_PSource) (N := 20) hx hb hts in_PSource t_PSource t_PSource_ok n_PSource hown hK hP hD hS 0 rfl rfl 10 (by decide) (hts (.fieldLink "ScholarsPress$Source" 76 "ScholarsPress$Source" "entities" "I") k_1239) (fun _ h9 => h9) rfl (by decide +kernel) rfl rfl (Nat.le_of_ble_eq_true rfl) d_PSource_read_22 (fun H locs hP hD hS => ?_)
  have hP : va_P (dC, dI) classes [(r2, .inr (5, [.ref (yr 0), .int 0, .ref (yr 1), .int 0, .int 0, .ref (yr 2), .ref (yr 3), .int 0, .ref (yr 4), .ref (yr 5), .int 0, .ref (yr 6), .ref (yr 7), .int 0, .int 0, .int 0, .int 0, .long 0, .int 0, .int 0]))] H := hP
  have hD : va_D A [(r2, .inr (5, [.ref (yr 0), .int 0, .ref (yr 1), .int 0, .int 0, .ref (yr 2), .ref (yr 3), .int 0, .ref (yr 4), .ref (yr 5), .int 0, .ref (yr 6), .ref (yr 7), .int 0, .int 0, .int 0, .int 0, .long 0, .int 0, .int 0]))] := hD
  refine lv_aload_n hx hb d_PSource_read_25 rfl (lv_at hl 0 rfl) ?_
  refine lv_iconst (v := 0) hx hb d_PSource_read_26 (by decide) ?_
  refine va_put (D := (dC, dI)) (ci := 5) (v := .int 0) (ty := .int) (C := "ScholarsPress$Source") (T := F_PSource) (N := 20) hx hb hts in_PSource t_PSource t_PSource_ok n_PSource hown hK hP hD hS 0 rfl rfl 13 (by decide) (hts (.fieldLink "ScholarsPress$Source" 79 "ScholarsPress$Source" "at" "I") k_1245) (fun _ h9 => h9) rfl (by decide +kernel) rfl rfl (Nat.le_of_ble_eq_true rfl) d_PSource_read_27 (fun H locs hP hD hS => ?_)
  have hP : va_P (dC, dI) classes [(r2, .inr (5, [.ref (yr 0), .int 0, .ref (yr 1), .int 0, .int 0, .ref (yr 2), .ref (yr 3), .int 0, .ref (yr 4), .ref (yr 5), .int 0, .ref (yr 6), .ref (yr 7), .int 0, .int 0, .int 0, .int 0, .long 0, .int 0, .int 0]))] H := hP
  have hD : va_D A [(r2, .inr (5, [.ref (yr 0), .int 0, .ref (yr 1), .int 0, .int 0, .ref (yr 2), .ref (yr 3), .int 0, .ref (yr 4), .ref (yr 5), .int 0, .ref (yr 6), .ref (yr 7), .int 0, .int 0, .int 0, .int 0, .long 0, .int 0, .int 0]))] := hD
  refine lv_aload_n hx hb d_PSource_read_30 rfl (lv_at hl 0 rfl) ?_
  refine lv_iconst (v := (-1)) hx hb d_PSource_read_31 (by decide) ?_
  refine va_put (D := (dC, dI)) (ci := 5) (v := .int ((-1))) (ty := .int) (C := "ScholarsPress$Source") (T := F_PSource) (N := 20) hx hb hts in_PSource t_PSource t_PSource_ok n_PSource hown hK hP hD hS 0 rfl rfl 14 (by decide) (hts (.fieldLink "ScholarsPress$Source" 82 "ScholarsPress$Source" "open" "I") k_1247) (fun _ h9 => h9) rfl (by decide +kernel) rfl rfl (Nat.le_of_ble_eq_true rfl) d_PSource_read_32 (fun H locs hP hD hS => ?_)
  have hP : va_P (dC, dI) classes [(r2, .inr (5, [.ref (yr 0), .int 0, .ref (yr 1), .int 0, .int 0, .ref (yr 2), .ref (yr 3), .int 0, .ref (yr 4), .ref (yr 5), .int 0, .ref (yr 6), .ref (yr 7), .int 0, .int ((-1)), .int 0, .int 0, .long 0, .int 0, .int 0]))] H := hP
  have hD : va_D A [(r2, .inr (5, [.ref (yr 0), .int 0, .ref (yr 1), .int 0, .int 0, .ref (yr 2), .ref (yr 3), .int 0, .ref (yr 4), .ref (yr 5), .int 0, .ref (yr 6), .ref (yr 7), .int 0, .int ((-1)), .int 0, .int 0, .long 0, .int 0, .int 0]))] := hD
  refine lv_aload_n hx hb d_PSource_read_35 rfl (lv_at hl 0 rfl) ?_
  refine lv_iconst (v := 0) hx hb d_PSource_read_36 (by decide) ?_
  refine va_put (D := (dC, dI)) (ci := 5) (v := .int 0) (ty := .int) (C := "ScholarsPress$Source") (T := F_PSource) (N := 20) hx hb hts in_PSource t_PSource t_PSource_ok n_PSource hown hK hP hD hS 0 rfl rfl 15 (by decide) (hts (.fieldLink "ScholarsPress$Source" 85 "ScholarsPress$Source" "depth" "I") k_1248) (fun _ h9 => h9) rfl (by decide +kernel) rfl rfl (Nat.le_of_ble_eq_true rfl) d_PSource_read_37 (fun H locs hP hD hS => ?_)
  have hP : va_P (dC, dI) classes [(r2, .inr (5, [.ref (yr 0), .int 0, .ref (yr 1), .int 0, .int 0, .ref (yr 2), .ref (yr 3), .int 0, .ref (yr 4), .ref (yr 5), .int 0, .ref (yr 6), .ref (yr 7), .int 0, .int ((-1)), .int 0, .int 0, .long 0, .int 0, .int 0]))] H := hP
  have hD : va_D A [(r2, .inr (5, [.ref (yr 0), .int 0, .ref (yr 1), .int 0, .int 0, .ref (yr 2), .ref (yr 3), .int 0, .ref (yr 4), .ref (yr 5), .int 0, .ref (yr 6), .ref (yr 7), .int 0, .int ((-1)), .int 0, .int 0, .long 0, .int 0, .int 0]))] := hD
  refine lv_aload_n hx hb d_PSource_read_40 rfl (lv_at hl 0 rfl) ?_
  refine lv_iconst (v := (-1)) hx hb d_PSource_read_41 (by decide) ?_
  refine va_put (D := (dC, dI)) (ci := 5) (v := .int ((-1))) (ty := .int) (C := "ScholarsPress$Source") (T := F_PSource) (N := 20) hx hb hts in_PSource t_PSource t_PSource_ok n_PSource hown hK hP hD hS 0 rfl rfl 16 (by decide) (hts (.fieldLink "ScholarsPress$Source" 42 "ScholarsPress$Source" "lastTop" "I") k_1249) (fun _ h9 => h9) rfl (by decide +kernel) rfl rfl (Nat.le_of_ble_eq_true rfl) d_PSource_read_42 (fun H locs hP hD hS => ?_)
  have hP : va_P (dC, dI) classes [(r2, .inr (5, [.ref (yr 0), .int 0, .ref (yr 1), .int 0, .int 0, .ref (yr 2), .ref (yr 3), .int 0, .ref (yr 4), .ref (yr 5), .int 0, .ref (yr 6), .ref (yr 7), .int 0, .int ((-1)), .int 0, .int ((-1)), .long 0, .int 0, .int 0]))] H := hP
  have hD : va_D A [(r2, .inr (5, [.ref (yr 0), .int 0, .ref (yr 1), .int 0, .int 0, .ref (yr 2), .ref (yr 3), .int 0, .ref (yr 4), .ref (yr 5), .int 0, .ref (yr 6), .ref (yr 7), .int 0, .int ((-1)), .int 0, .int ((-1)), .long 0, .int 0, .int 0]))] := hD
  refine lv_iconst (v := 0) hx hb d_PSource_read_45 (by decide) ?_
  refine lv_istore_n (lv' := [(2, .int 0), (0, .ref r2), (1, .int 0)]) hx hb d_PSource_read_46 rfl hl (by decide) rfl (fun ls hl => ?_)
  refine lv_iload_n hx hb d_PSource_read_47 rfl (lv_at hl 0 rfl) ?_
  refine lv_aload_n hx hb d_PSource_read_48 rfl (lv_at hl 1 rfl) ?_
  refine va_get (D := (dC, dI)) (ci := 5) (v := .int 0) (C := "ScholarsPress$Source") (T := F_PSource) (N := 20) hx hb hts in_PSource hown hK hP 0 rfl rfl 1 (by decide) (hts (.fieldLink "ScholarsPress$Source" 65 "ScholarsPress$Source" "length" "I") k_1218) (fun _ h9 => h9) rfl d_PSource_read_49 ?_
  refine lv_icmp_gt (tgt := 178) hx hb d_PSource_read_52 (by decide) (fun c_1 => absurd c_1 (by decide)) (fun c_1 => ?_)
  refine lv_aload_n hx hb d_PSource_read_55 rfl (lv_at hl 1 rfl) ?_
  refine va_get (D := (dC, dI)) (ci := 5) (v := .int 0) (C := "ScholarsPress$Source") (T := F_PSource) (N := 20) hx hb hts in_PSource hown hK hP 0 rfl rfl 13 (by decide) (hts (.fieldLink "ScholarsPress$Source" 79 "ScholarsPress$Source" "at" "I") k_1245) (fun _ h9 => h9) rfl d_PSource_read_56 ?_
  refine lv_aload_n hx hb d_PSource_read_59 rfl (lv_at hl 1 rfl) ?_
  refine va_get (D := (dC, dI)) (ci := 5) (v := .int 0) (C := "ScholarsPress$Source") (T := F_PSource) (N := 20) hx hb hts in_PSource hown hK hP 0 rfl rfl 1 (by decide) (hts (.fieldLink "ScholarsPress$Source" 65 "ScholarsPress$Source" "length" "I") k_1218) (fun _ h9 => h9) rfl d_PSource_read_60 ?_
  refine lv_icmp_ge (tgt := 178) hx hb d_PSource_read_63 (by decide) (fun c_2 => ?_) (fun c_2 => absurd c_2 (by decide))
  refine lv_aload_n hx hb d_PSource_read_178 rfl (lv_at hl 1 rfl) ?_
  refine va_get (D := (dC, dI)) (ci := 5) (v := .int ((-1))) (C := "ScholarsPress$Source") (T := F_PSource) (N := 20) hx hb hts in_PSource hown hK hP 0 rfl rfl 14 (by decide) (hts (.fieldLink "ScholarsPress$Source" 82 "ScholarsPress$Source" "open" "I") k_1247) (fun _ h9 => h9) rfl d_PSource_read_179 ?_
  refine lv_if_ge (tgt := 189) hx hb d_PSource_read_182 (by decide) (fun c_3 => absurd c_3 (by decide)) (fun c_3 => ?_)
  refine lv_iconst (v := 1) hx hb d_PSource_read_185 (by decide) ?_
  refine lv_goto (tgt := 190) hx hb d_PSource_read_186 (by decide) ?_
  have hP9 := hP.sub (ws' := [(r2, .inr (5, [.ref (yr 0), .int 0, .ref (yr 1), .int 0, .int 0, .ref (yr 2), .ref (yr 3), .int 0, .ref (yr 4), .ref (yr 5), .int 0, .ref (yr 6), .ref (yr 7), .int 0, .int ((-1)), .int 0, .int ((-1)), .long 0, .int 0, .int 0]))]) [0] rfl
  have hD9 := hD.sub (ws' := [(r2, .inr (5, [.ref (yr 0), .int 0, .ref (yr 1), .int 0, .int 0, .ref (yr 2), .ref (yr 3), .int 0, .ref (yr 4), .ref (yr 5), .int 0, .ref (yr 6), .ref (yr 7), .int 0, .int ((-1)), .int 0, .int ((-1)), .long 0, .int 0, .int 0]))]) [0] (by decide) rfl
  have hK9 := hK.sub (tys' := []) [] rfl
  exact W.zret (ty := .boolean) (v := 1) hx hb hr (by decide) (fun t ht hW => ⟨⟨1, (), rfl, rfl, by rw [ht]; exact hP9, va_K.moved hW.alike hK9, hD9⟩, hS.F ht⟩) hS.2.2 d_PSource_read_190
set_option maxHeartbeats 4000000 in
set_option maxRecDepth 100000 in
/-- makeSpareSource -/
theorem c_SP_makeSpareSource (l : Launch) (dC : Nat → ClassId) (dI : Nat → Nat → Nat) (x tp sg st ft hy : Nat) (sz : Nat) : Met l y_SP_makeSpareSource [w_SP_makeSpareSource] ({ frames := 2, cells := 9, slots := 44868, locals := 40 }) (va_Pc [.ref x] (pr sz (dC, dI) [(x, .inr (0, [.ref tp, .int 0, .int ((-1)), .ref sg, .null, .null, .ref st, .null, .ref ft, .null, .ref hy, .null, .null, .int 0, .null, .null, .null, .null, .null, .null, .int 0]))] [])) (va_Qv (fun (u : Nat × ((Nat → Nat) × (Nat → Int32) × (Nat → ClassId))) => True) (bw (dC, dI) (va_A [(x, .inr (0, [.ref tp, .int 0, .int ((-1)), .ref sg, .null, .null, .ref st, .null, .ref ft, .null, .ref hy, .null, .null, .int 0, .null, .null, .null, .null, .null, .null, .int 0]))] sz) (fun u : Nat × ((Nat → Nat) × (Nat → Int32) × (Nat → ClassId)) => [(x, .inr (0, [.ref tp, .int 0, .int ((-1)), .ref sg, .null, .ref u.1, .ref st, .null, .ref ft, .null, .ref hy, .null, .null, .int 0, .null, .null, .null, .null, .null, .null, .int 0])), (u.1, .inr (5, [.ref (u.2.1 0), .int 0, .ref (u.2.1 1), .int 0, .int 0, .ref (u.2.1 2), .ref (u.2.1 3), .int 0, .ref (u.2.1 4), .ref (u.2.1 5), .int 0, .ref (u.2.1 6), .ref (u.2.1 7), .int 0, .int 0, .int 0, .int 0, .long 0, .int 0, .int 0])), ((u.2.1 0), .inl ((u.2.2.2 0), 16384, .inl ((fun _ => 0))))]) (fun u : Nat × ((Nat → Nat) × (Nat → Int32) × (Nat → ClassId)) => [((u.2.2.2 0), .byte)])) (va_A [(x, .inr (0, [.ref tp, .int 0, .int ((-1)), .ref sg, .null, .null, .ref st, .null, .ref ft, .null, .ref hy, .null, .null, .int 0, .null, .null, .null, .null, .null, .null, .int 0]))] sz)) 9 44868 (va_A [(x, .inr (0, [.ref tp, .int 0, .int ((-1)), .ref sg, .null, .null, .ref st, .null, .ref ft, .null, .ref hy, .null, .null, .int 0, .null, .null, .null, .null, .null, .null, .int 0]))] sz) := by
  refine Met.ofW (cc := b_SP_makeSpareSource) (maxL := 1) (ret := none) (by decide) rfl ?_
  intro p e s m args below meth c s₁ B hml hv
  obtain ⟨rfl, hsz, hb0, hP, hK, hD0⟩ := hv
  have hx := B.exec
  have hb := B.bytes
  have hr := B.returns
  have hts : ∀ wq ∈ tt, wq.before ([.ref x] : List Value).toArray s = true := hb0.hts
  have hown : s.vm.findClass "ScholarsPress" = some m.cls := findClass_of_methodNamed B.named
  have hlocks := B.notSynchronized
  subst hsz
  have hD := hD0.self (sz := s.heap.size)
  generalize hAe : va_A [(x, .inr (0, [.ref tp, .int 0, .int ((-1)), .ref sg, .null, .null, .ref st, .null, .ref ft, .null, .ref hy, .null, .null, .int 0, .null, .null, .null, .null, .null, .null, .int 0]))] s.heap.size = A at hD ⊢
  have hA : ∀ q : Nat, s.heap.size ≤ q → A q := fun q h => by rw [← hAe]; exact Or.inr h
  have hS : va_S A s.heap s.heap [] := va_S.rf
  have hP : va_P (dC, dI) classes [(x, .inr (0, [.ref tp, .int 0, .int ((-1)), .ref sg, .null, .null, .ref st, .null, .ref ft, .null, .ref hy, .null, .null, .int 0, .null, .null, .null, .null, .null, .null, .int 0]))] s.heap := hP
  have hl := lv_entry ([.ref x]) (n := 1) (Nat.le_of_ble_eq_true rfl)
  rw [lg_entry_eq]
  generalize (lg_sl ([.ref x]) ++ List.replicate (1 - (lg_sl ([.ref x])).length) Slot.unset).toArray = ls at hl ⊢
  have hl : lv_has ls 1 [(0, .ref x)] := hl
  refine lv_aload_n hx hb d_SP_makeSpareSource_0 rfl (lv_at hl 0 rfl) ?_
  refine va_get (D := (dC, dI)) (ci := 0) (v := .null) (C := "ScholarsPress") (T := F_SP) (N := 21) hx hb hts in_SP hown hK hP 0 rfl rfl 5 (by decide) (hts (.fieldLink "ScholarsPress" 116 "ScholarsPress" "sourceSpare" "LScholarsPress$Source;") k_505) (fun _ h9 => h9) rfl d_SP_makeSpareSource_1 ?_
  refine lv_ifnonnullN hx hb d_SP_makeSpareSource_4 ?_
  refine lv_aload_n hx hb d_SP_makeSpareSource_7 rfl (lv_at hl 0 rfl) ?_
  refine va_new (D := (dC, dI)) (ci := 5) (fs := DEF_PSource) (C := "ScholarsPress$Source") (T := F_PSource) (N := 20) hx hb hts in_PSource t_PSource t_PSource_ok hown (hts (.classLink "ScholarsPress" 121 "ScholarsPress$Source") k_1207) (hts (.instantiable "ScholarsPress$Source" 20) k_1208) (hts (.initialized "ScholarsPress$Source") k_272) hK hP hD hS hA rfl df_PSource (Nat.le_of_ble_eq_true rfl) (Nat.le_of_ble_eq_true rfl) d_SP_makeSpareSource_8 (fun q_1 H hP hD hS => ?_)
  have hP : va_P (dC, dI) classes [(x, .inr (0, [.ref tp, .int 0, .int ((-1)), .ref sg, .null, .null, .ref st, .null, .ref ft, .null, .ref hy, .null, .null, .int 0, .null, .null, .null, .null, .null, .null, .int 0])), (q_1, .inr (5, DEF_PSource))] H := hP
  have hD : va_D A [(x, .inr (0, [.ref tp, .int 0, .int ((-1)), .ref sg, .null, .null, .ref st, .null, .ref ft, .null, .ref hy, .null, .null, .int 0, .null, .null, .null, .null, .null, .null, .int 0])), (q_1, .inr (5, DEF_PSource))] := hD
  refine lv_dup hx hb d_SP_makeSpareSource_11 rfl ?_
  refine vi_v (wc := [(q_1, .inr (5, DEF_PSource))]) (wr := [(x, .inr (0, [.ref tp, .int 0, .int ((-1)), .ref sg, .null, .null, .ref st, .null, .ref ft, .null, .ref hy, .null, .null, .int 0, .null, .null, .null, .null, .null, .null, .int 0]))]) (va_runI (As := []) (rest := [.ref q_1, .ref x]) ⟨hx, hb, hml, hown, hts⟩ (c_PSource_init l dC dI q_1 H.size) (cwI 0 hts (tt_1 kw_PSource_init rfl) rfl rfl rfl (hts _ k_272) (hts _ k_1209) (hts _ k_1210) rfl (by decide +kernel) ⟨Nat.le_of_ble_eq_true rfl, Nat.le_of_ble_eq_true rfl⟩) ⟨pr_blind, pr_pre hb0 (hP.sub [1] rfl) (hK.sub [] rfl) (hD.sub [1] (by decide) rfl)⟩ rfl rfl hl.1 rfl (lv_room (Nat.le_of_ble_eq_true rfl)) d_SP_makeSpareSource_12 ⟨Nat.le_of_ble_eq_true rfl, Nat.le_of_ble_eq_true rfl⟩) hP hD hK hS hA [1] [0] rfl rfl (by decide) (by decide) (fun u H locs hw hP hK hD hS => ?_)
  obtain ⟨U_2, rfl⟩ : ∃ z, z = u := ⟨_, rfl⟩
  have hP : va_P (dC, dI) classes [(x, .inr (0, [.ref tp, .int 0, .int ((-1)), .ref sg, .null, .null, .ref st, .null, .ref ft, .null, .ref hy, .null, .null, .int 0, .null, .null, .null, .null, .null, .null, .int 0])), (q_1, .inr (5, [.ref (U_2.1 0), .int 0, .ref (U_2.1 1), .int 0, .int 0, .ref (U_2.1 2), .ref (U_2.1 3), .int 0, .ref (U_2.1 4), .ref (U_2.1 5), .int 0, .ref (U_2.1 6), .ref (U_2.1 7), .int 0, .int 0, .int 0, .int 0, .long 0, .int 0, .int 0])), ((U_2.1 0), .inl ((U_2.2.2 0), 16384, .inl ((fun _ => 0))))] H := hP
  have hD : va_D A [(x, .inr (0, [.ref tp, .int 0, .int ((-1)), .ref sg, .null, .null, .ref st, .null, .ref ft, .null, .ref hy, .null, .null, .int 0, .null, .null, .null, .null, .null, .null, .int 0])), (q_1, .inr (5, [.ref (U_2.1 0), .int 0, .ref (U_2.1 1), .int 0, .int 0, .ref (U_2.1 2), .ref (U_2.1 3), .int 0, .ref (U_2.1 4), .ref (U_2.1 5), .int 0, .ref (U_2.1 6), .ref (U_2.1 7), .int 0, .int 0, .int 0, .int 0, .long 0, .int 0, .int 0])), ((U_2.1 0), .inl ((U_2.2.2 0), 16384, .inl ((fun _ => 0))))] := hD
  have hK : va_K (dC, dI) classes [((U_2.2.2 0), .byte)] s := hK.sub [0] rfl
  refine va_put (D := (dC, dI)) (ci := 0) (v := .ref q_1) (ty := .object "ScholarsPress$Source") (C := "ScholarsPress") (T := F_SP) (N := 21) hx hb hts in_SP t_SP t_SP_ok n_SP hown hK hP hD hS 0 rfl rfl 5 (by decide) (hts (.fieldLink "ScholarsPress" 116 "ScholarsPress" "sourceSpare" "LScholarsPress$Source;") k_505) (fun _ h9 => h9) rfl (by decide +kernel) rfl rfl (Nat.le_of_ble_eq_true rfl) d_SP_makeSpareSource_15 (fun H locs hP hD hS => ?_)
  have hP : va_P (dC, dI) classes [(x, .inr (0, [.ref tp, .int 0, .int ((-1)), .ref sg, .null, .ref q_1, .ref st, .null, .ref ft, .null, .ref hy, .null, .null, .int 0, .null, .null, .null, .null, .null, .null, .int 0])), (q_1, .inr (5, [.ref (U_2.1 0), .int 0, .ref (U_2.1 1), .int 0, .int 0, .ref (U_2.1 2), .ref (U_2.1 3), .int 0, .ref (U_2.1 4), .ref (U_2.1 5), .int 0, .ref (U_2.1 6), .ref (U_2.1 7), .int 0, .int 0, .int 0, .int 0, .long 0, .int 0, .int 0])), ((U_2.1 0), .inl ((U_2.2.2 0), 16384, .inl ((fun _ => 0))))] H := hP
  have hD : va_D A [(x, .inr (0, [.ref tp, .int 0, .int ((-1)), .ref sg, .null, .ref q_1, .ref st, .null, .ref ft, .null, .ref hy, .null, .null, .int 0, .null, .null, .null, .null, .null, .null, .int 0])), (q_1, .inr (5, [.ref (U_2.1 0), .int 0, .ref (U_2.1 1), .int 0, .int 0, .ref (U_2.1 2), .ref (U_2.1 3), .int 0, .ref (U_2.1 4), .ref (U_2.1 5), .int 0, .ref (U_2.1 6), .ref (U_2.1 7), .int 0, .int 0, .int 0, .int 0, .long 0, .int 0, .int 0])), ((U_2.1 0), .inl ((U_2.2.2 0), 16384, .inl ((fun _ => 0))))] := hD
  have hP9 := hP.sub (ws' := [(x, .inr (0, [.ref tp, .int 0, .int ((-1)), .ref sg, .null, .ref q_1, .ref st, .null, .ref ft, .null, .ref hy, .null, .null, .int 0, .null, .null, .null, .null, .null, .null, .int 0])), (q_1, .inr (5, [.ref (U_2.1 0), .int 0, .ref (U_2.1 1), .int 0, .int 0, .ref (U_2.1 2), .ref (U_2.1 3), .int 0, .ref (U_2.1 4), .ref (U_2.1 5), .int 0, .ref (U_2.1 6), .ref (U_2.1 7), .int 0, .int 0, .int 0, .int 0, .long 0, .int 0, .int 0])), ((U_2.1 0), .inl ((U_2.2.2 0), 16384, .inl ((fun _ => 0))))]) [0, 1, 2] rfl
  have hD9 := hD.sub (ws' := [(x, .inr (0, [.ref tp, .int 0, .int ((-1)), .ref sg, .null, .ref q_1, .ref st, .null, .ref ft, .null, .ref hy, .null, .null, .int 0, .null, .null, .null, .null, .null, .null, .int 0])), (q_1, .inr (5, [.ref (U_2.1 0), .int 0, .ref (U_2.1 1), .int 0, .int 0, .ref (U_2.1 2), .ref (U_2.1 3), .int 0, .ref (U_2.1 4), .ref (U_2.1 5), .int 0, .ref (U_2.1 6), .ref (U_2.1 7), .int 0, .int 0, .int 0, .int 0, .long 0, .int 0, .int 0])), ((U_2.1 0), .inl ((U_2.2.2 0), 16384, .inl ((fun _ => 0))))]) [0, 1, 2] (by decide) rfl
  have hK9 := hK.sub (tys' := [((U_2.2.2 0), .byte)]) [0] rfl
  exact W.vret hx hb hr (fun t ht hW => ⟨⟨(q_1, U_2), rfl, trivial, by rw [ht]; exact hP9, va_K.moved hW.alike hK9, hD9⟩, hS.F ht⟩) hS.2.2 d_SP_makeSpareSource_18
set_option maxHeartbeats 4000000 in
set_option maxRecDepth 100000 in
/-- takeSource of an empty text -/
theorem c_SP_takeSource (l : Launch) (dC : Nat → ClassId) (dI : Nat → Nat → Nat) (x tp sg st ft hy : Nat) (r2 : Nat) (yr : Nat → Nat) (sz : Nat) : Met l y_SP_takeSource [w_SP_takeSource] ({ frames := 1, cells := 0, slots := 0, locals := 24 }) (va_Pc [.ref x, .int 0] (pr sz (dC, dI) [(x, .inr (0, [.ref tp, .int 0, .int ((-1)), .ref sg, .null, .ref r2, .ref st, .null, .ref ft, .null, .ref hy, .null, .null, .int 0, .null, .null, .null, .null, .null, .null, .int 0])), (r2, .inr (5, [.ref (yr 0), .int 0, .ref (yr 1), .int 0, .int 0, .ref (yr 2), .ref (yr 3), .int 0, .ref (yr 4), .ref (yr 5), .int 0, .ref (yr 6), .ref (yr 7), .int 0, .int 0, .int 0, .int 0, .long 0, .int 0, .int 0]))] [])) (va_Qi (fun (r : Int32) (u : Unit) => r = 1) (bw (dC, dI) (va_A [(x, .inr (0, [.ref tp, .int 0, .int ((-1)), .ref sg, .null, .ref r2, .ref st, .null, .ref ft, .null, .ref hy, .null, .null, .int 0, .null, .null, .null, .null, .null, .null, .int 0])), (r2, .inr (5, [.ref (yr 0), .int 0, .ref (yr 1), .int 0, .int 0, .ref (yr 2), .ref (yr 3), .int 0, .ref (yr 4), .ref (yr 5), .int 0, .ref (yr 6), .ref (yr 7), .int 0, .int 0, .int 0, .int 0, .long 0, .int 0, .int 0]))] sz) (fun u : Unit => [(x, .inr (0, [.ref tp, .int 0, .int ((-1)), .ref sg, .ref r2, .null, .ref st, .null, .ref ft, .null, .ref hy, .null, .null, .int 0, .null, .null, .null, .null, .null, .null, .int 0])), (r2, .inr (5, [.ref (yr 0), .int 0, .ref (yr 1), .int 0, .int 0, .ref (yr 2), .ref (yr 3), .int 0, .ref (yr 4), .ref (yr 5), .int 0, .ref (yr 6), .ref (yr 7), .int 0, .int ((-1)), .int 0, .int ((-1)), .long 0, .int 0, .int 0]))]) (fun u : Unit => [])) (va_A [(x, .inr (0, [.ref tp, .int 0, .int ((-1)), .ref sg, .null, .ref r2, .ref st, .null, .ref ft, .null, .ref hy, .null, .null, .int 0, .null, .null, .null, .null, .null, .null, .int 0])), (r2, .inr (5, [.ref (yr 0), .int 0, .ref (yr 1), .int 0, .int 0, .ref (yr 2), .ref (yr 3), .int 0, .ref (yr 4), .ref (yr 5), .int 0, .ref (yr 6), .ref (yr 7), .int 0, .int 0, .int 0, .int 0, .long 0, .int 0, .int 0]))] sz)) 0 0 (va_A [(x, .inr (0, [.ref tp, .int 0, .int ((-1)), .ref sg, .null, .ref r2, .ref st, .null, .ref ft, .null, .ref hy, .null, .null, .int 0, .null, .null, .null, .null, .null, .null, .int 0])), (r2, .inr (5, [.ref (yr 0), .int 0, .ref (yr 1), .int 0, .int 0, .ref (yr 2), .ref (yr 3), .int 0, .ref (yr 4), .ref (yr 5), .int 0, .ref (yr 6), .ref (yr 7), .int 0, .int 0, .int 0, .int 0, .long 0, .int 0, .int 0]))] sz) := by
  refine Met.ofW (cc := b_SP_takeSource) (maxL := 3) (ret := (some .boolean)) (by decide) rfl ?_
  intro p e s m args below meth c s₁ B hml hv
  obtain ⟨rfl, hsz, hb0, hP, hK, hD0⟩ := hv
  have hx := B.exec
  have hb := B.bytes
  have hr := B.returns
  have hts : ∀ wq ∈ tt, wq.before ([.ref x, .int 0] : List Value).toArray s = true := hb0.hts
  have hown : s.vm.findClass "ScholarsPress" = some m.cls := findClass_of_methodNamed B.named
  have hlocks := B.notSynchronized
  subst hsz
  have hD := hD0.self (sz := s.heap.size)
  generalize hAe : va_A [(x, .inr (0, [.ref tp, .int 0, .int ((-1)), .ref sg, .null, .ref r2, .ref st, .null, .ref ft, .null, .ref hy, .null, .null, .int 0, .null, .null, .null, .null, .null, .null, .int 0])), (r2, .inr (5, [.ref (yr 0), .int 0, .ref (yr 1), .int 0, .int 0, .ref (yr 2), .ref (yr 3), .int 0, .ref (yr 4), .ref (yr 5), .int 0, .ref (yr 6), .ref (yr 7), .int 0, .int 0, .int 0, .int 0, .long 0, .int 0, .int 0]))] s.heap.size = A at hD ⊢
  have hA : ∀ q : Nat, s.heap.size ≤ q → A q := fun q h => by rw [← hAe]; exact Or.inr h
  have hS : va_S A s.heap s.heap [] := va_S.rf
  have hP : va_P (dC, dI) classes [(x, .inr (0, [.ref tp, .int 0, .int ((-1)), .ref sg, .null, .ref r2, .ref st, .null, .ref ft, .null, .ref hy, .null, .null, .int 0, .null, .null, .null, .null, .null, .null, .int 0])), (r2, .inr (5, [.ref (yr 0), .int 0, .ref (yr 1), .int 0, .int 0, .ref (yr 2), .ref (yr 3), .int 0, .ref (yr 4), .ref (yr 5), .int 0, .ref (yr 6), .ref (yr 7), .int 0, .int 0, .int 0, .int 0, .long 0, .int 0, .int 0]))] s.heap := hP
  have hl := lv_entry ([.ref x, .int 0]) (n := 3) (Nat.le_of_ble_eq_true rfl)
  rw [lg_entry_eq]
  generalize (lg_sl ([.ref x, .int 0]) ++ List.replicate (3 - (lg_sl ([.ref x, .int 0])).length) Slot.unset).toArray = ls at hl ⊢
  have hl : lv_has ls 3 [(0, .ref x), (1, .int 0)] := hl
  refine lv_aload_n hx hb d_SP_takeSource_0 rfl (lv_at hl 0 rfl) ?_
  refine va_get (D := (dC, dI)) (ci := 0) (v := .ref r2) (C := "ScholarsPress") (T := F_SP) (N := 21) hx hb hts in_SP hown hK hP 0 rfl rfl 5 (by decide) (hts (.fieldLink "ScholarsPress" 116 "ScholarsPress" "sourceSpare" "LScholarsPress$Source;") k_505) (fun _ h9 => h9) rfl d_SP_takeSource_1 ?_
  refine lv_iload_n hx hb d_SP_takeSource_4 rfl (lv_at hl 1 rfl) ?_
  refine vi_i (wc := [(r2, .inr (5, [.ref (yr 0), .int 0, .ref (yr 1), .int 0, .int 0, .ref (yr 2), .ref (yr 3), .int 0, .ref (yr 4), .ref (yr 5), .int 0, .ref (yr 6), .ref (yr 7), .int 0, .int 0, .int 0, .int 0, .long 0, .int 0, .int 0]))]) (wr := [(x, .inr (0, [.ref tp, .int 0, .int ((-1)), .ref sg, .null, .ref r2, .ref st, .null, .ref ft, .null, .ref hy, .null, .null, .int 0, .null, .null, .null, .null, .null, .null, .int 0]))]) (va_runV (As := [.int 0]) (rest := []) ⟨hx, hb, hml, hown, hts⟩ (c_PSource_read l dC dI r2 yr s.heap.size) (cwV 1 hts (tt_V k_1299 k_1300 k_1301 k_272 kw_PSource_read) rfl rfl rfl (by decide +kernel) ⟨Nat.le_of_ble_eq_true rfl, Nat.le_of_ble_eq_true rfl⟩) ⟨pr_blind, va_recv hK hP (ci := 5) (q0 := 1) rfl rfl, pr_pre hb0 (hP.sub [1] rfl) (hK.sub [] rfl) (hD.sub [1] (by decide) rfl)⟩ rfl rfl hl.1 rfl (lv_room (Nat.le_of_ble_eq_true rfl)) d_SP_takeSource_5 ⟨Nat.le_of_ble_eq_true rfl, Nat.le_of_ble_eq_true rfl⟩) hP hD hK hS hA [1] [0] rfl rfl (by decide) (by decide) (fun r u H locs hw hP hK hD hS => ?_)
  subst hw
  have hP : va_P (dC, dI) classes [(x, .inr (0, [.ref tp, .int 0, .int ((-1)), .ref sg, .null, .ref r2, .ref st, .null, .ref ft, .null, .ref hy, .null, .null, .int 0, .null, .null, .null, .null, .null, .null, .int 0])), (r2, .inr (5, [.ref (yr 0), .int 0, .ref (yr 1), .int 0, .int 0, .ref (yr 2), .ref (yr 3), .int 0, .ref (yr 4), .ref (yr 5), .int 0, .ref (yr 6), .ref (yr 7), .int 0, .int ((-1)), .int 0, .int ((-1)), .long 0, .int 0, .int 0]))] H := hP
  have hD : va_D A [(x, .inr (0, [.ref tp, .int 0, .int ((-1)), .ref sg, .null, .ref r2, .ref st, .null, .ref ft, .null, .ref hy, .null, .null, .int 0, .null, .null, .null, .null, .null, .null, .int 0])), (r2, .inr (5, [.ref (yr 0), .int 0, .ref (yr 1), .int 0, .int 0, .ref (yr 2), .ref (yr 3), .int 0, .ref (yr 4), .ref (yr 5), .int 0, .ref (yr 6), .ref (yr 7), .int 0, .int ((-1)), .int 0, .int ((-1)), .long 0, .int 0, .int 0]))] := hD
  have hK : va_K (dC, dI) classes [] s := hK.sub [] rfl
  refine lv_if_ne (tgt := 24) hx hb d_SP_takeSource_8 (by decide) (fun c_1 => ?_) (fun c_1 => absurd c_1 (by decide))
  refine lv_aload_n hx hb d_SP_takeSource_24 rfl (lv_at hl 0 rfl) ?_
  refine va_get (D := (dC, dI)) (ci := 0) (v := .ref r2) (C := "ScholarsPress") (T := F_SP) (N := 21) hx hb hts in_SP hown hK hP 0 rfl rfl 5 (by decide) (hts (.fieldLink "ScholarsPress" 116 "ScholarsPress" "sourceSpare" "LScholarsPress$Source;") k_505) (fun _ h9 => h9) rfl d_SP_takeSource_25 ?_
  refine lv_astore_n (lv' := [(2, .ref r2), (0, .ref x), (1, .int 0)]) hx hb d_SP_takeSource_28 rfl hl (by decide) rfl (fun ls hl => ?_)
  refine lv_aload_n hx hb d_SP_takeSource_29 rfl (lv_at hl 1 rfl) ?_
  refine lv_aload_n hx hb d_SP_takeSource_30 rfl (lv_at hl 1 rfl) ?_
  refine va_get (D := (dC, dI)) (ci := 0) (v := .null) (C := "ScholarsPress") (T := F_SP) (N := 21) hx hb hts in_SP hown hK hP 0 rfl rfl 4 (by decide) (hts (.fieldLink "ScholarsPress" 135 "ScholarsPress" "sourceNow" "LScholarsPress$Source;") k_504) (fun _ h9 => h9) rfl d_SP_takeSource_31 ?_
  refine va_put (D := (dC, dI)) (ci := 0) (v := .null) (ty := .object "ScholarsPress$Source") (C := "ScholarsPress") (T := F_SP) (N := 21) hx hb hts in_SP t_SP t_SP_ok n_SP hown hK hP hD hS 0 rfl rfl 5 (by decide) (hts (.fieldLink "ScholarsPress" 116 "ScholarsPress" "sourceSpare" "LScholarsPress$Source;") k_505) (fun _ h9 => h9) rfl (by decide +kernel) rfl rfl (Nat.le_of_ble_eq_true rfl) d_SP_takeSource_34 (fun H locs hP hD hS => ?_)
  have hP : va_P (dC, dI) classes [(x, .inr (0, [.ref tp, .int 0, .int ((-1)), .ref sg, .null, .null, .ref st, .null, .ref ft, .null, .ref hy, .null, .null, .int 0, .null, .null, .null, .null, .null, .null, .int 0])), (r2, .inr (5, [.ref (yr 0), .int 0, .ref (yr 1), .int 0, .int 0, .ref (yr 2), .ref (yr 3), .int 0, .ref (yr 4), .ref (yr 5), .int 0, .ref (yr 6), .ref (yr 7), .int 0, .int ((-1)), .int 0, .int ((-1)), .long 0, .int 0, .int 0]))] H := hP
  have hD : va_D A [(x, .inr (0, [.ref tp, .int 0, .int ((-1)), .ref sg, .null, .null, .ref st, .null, .ref ft, .null, .ref hy, .null, .null, .int 0, .null, .null, .null, .null, .null, .null, .int 0])), (r2, .inr (5, [.ref (yr 0), .int 0, .ref (yr 1), .int 0, .int 0, .ref (yr 2), .ref (yr 3), .int 0, .ref (yr 4), .ref (yr 5), .int 0, .ref (yr 6), .ref (yr 7), .int 0, .int ((-1)), .int 0, .int ((-1)), .long 0, .int 0, .int 0]))] := hD
  refine lv_aload_n hx hb d_SP_takeSource_37 rfl (lv_at hl 1 rfl) ?_
  refine lv_aload_n hx hb d_SP_takeSource_38 rfl (lv_at hl 0 rfl) ?_
  refine va_put (D := (dC, dI)) (ci := 0) (v := .ref r2) (ty := .object "ScholarsPress$Source") (C := "ScholarsPress") (T := F_SP) (N := 21) hx hb hts in_SP t_SP t_SP_ok n_SP hown hK hP hD hS 0 rfl rfl 4 (by decide) (hts (.fieldLink "ScholarsPress" 135 "ScholarsPress" "sourceNow" "LScholarsPress$Source;") k_504) (fun _ h9 => h9) rfl (by decide +kernel) rfl rfl (Nat.le_of_ble_eq_true rfl) d_SP_takeSource_39 (fun H locs hP hD hS => ?_)
  have hP : va_P (dC, dI) classes [(x, .inr (0, [.ref tp, .int 0, .int ((-1)), .ref sg, .ref r2, .null, .ref st, .null, .ref ft, .null, .ref hy, .null, .null, .int 0, .null, .null, .null, .null, .null, .null, .int 0])), (r2, .inr (5, [.ref (yr 0), .int 0, .ref (yr 1), .int 0, .int 0, .ref (yr 2), .ref (yr 3), .int 0, .ref (yr 4), .ref (yr 5), .int 0, .ref (yr 6), .ref (yr 7), .int 0, .int ((-1)), .int 0, .int ((-1)), .long 0, .int 0, .int 0]))] H := hP
  have hD : va_D A [(x, .inr (0, [.ref tp, .int 0, .int ((-1)), .ref sg, .ref r2, .null, .ref st, .null, .ref ft, .null, .ref hy, .null, .null, .int 0, .null, .null, .null, .null, .null, .null, .int 0])), (r2, .inr (5, [.ref (yr 0), .int 0, .ref (yr 1), .int 0, .int 0, .ref (yr 2), .ref (yr 3), .int 0, .ref (yr 4), .ref (yr 5), .int 0, .ref (yr 6), .ref (yr 7), .int 0, .int ((-1)), .int 0, .int ((-1)), .long 0, .int 0, .int 0]))] := hD
  refine lv_aload_n hx hb d_SP_takeSource_42 rfl (lv_at hl 1 rfl) ?_
  refine lv_iconst (v := 0) hx hb d_SP_takeSource_43 (by decide) ?_
  refine va_put (D := (dC, dI)) (ci := 0) (v := .int 0) (ty := .boolean) (C := "ScholarsPress") (T := F_SP) (N := 21) hx hb hts in_SP t_SP t_SP_ok n_SP hown hK hP hD hS 0 rfl rfl 13 (by decide) (hts (.fieldLink "ScholarsPress" 106 "ScholarsPress" "looksFresh" "Z") k_513) (fun _ h9 => h9) rfl (by decide +kernel) rfl rfl (Nat.le_of_ble_eq_true rfl) d_SP_takeSource_44 (fun H locs hP hD hS => ?_)
  have hP : va_P (dC, dI) classes [(x, .inr (0, [.ref tp, .int 0, .int ((-1)), .ref sg, .ref r2, .null, .ref st, .null, .ref ft, .null, .ref hy, .null, .null, .int 0, .null, .null, .null, .null, .null, .null, .int 0])), (r2, .inr (5, [.ref (yr 0), .int 0, .ref (yr 1), .int 0, .int 0, .ref (yr 2), .ref (yr 3), .int 0, .ref (yr 4), .ref (yr 5), .int 0, .ref (yr 6), .ref (yr 7), .int 0, .int ((-1)), .int 0, .int ((-1)), .long 0, .int 0, .int 0]))] H := hP
  have hD : va_D A [(x, .inr (0, [.ref tp, .int 0, .int ((-1)), .ref sg, .ref r2, .null, .ref st, .null, .ref ft, .null, .ref hy, .null, .null, .int 0, .null, .null, .null, .null, .null, .null, .int 0])), (r2, .inr (5, [.ref (yr 0), .int 0, .ref (yr 1), .int 0, .int 0, .ref (yr 2), .ref (yr 3), .int 0, .ref (yr 4), .ref (yr 5), .int 0, .ref (yr 6), .ref (yr 7), .int 0, .int ((-1)), .int 0, .int ((-1)), .long 0, .int 0, .int 0]))] := hD
  refine lv_iconst (v := 1) hx hb d_SP_takeSource_47 (by decide) ?_
  have hP9 := hP.sub (ws' := [(x, .inr (0, [.ref tp, .int 0, .int ((-1)), .ref sg, .ref r2, .null, .ref st, .null, .ref ft, .null, .ref hy, .null, .null, .int 0, .null, .null, .null, .null, .null, .null, .int 0])), (r2, .inr (5, [.ref (yr 0), .int 0, .ref (yr 1), .int 0, .int 0, .ref (yr 2), .ref (yr 3), .int 0, .ref (yr 4), .ref (yr 5), .int 0, .ref (yr 6), .ref (yr 7), .int 0, .int ((-1)), .int 0, .int ((-1)), .long 0, .int 0, .int 0]))]) [0, 1] rfl
  have hD9 := hD.sub (ws' := [(x, .inr (0, [.ref tp, .int 0, .int ((-1)), .ref sg, .ref r2, .null, .ref st, .null, .ref ft, .null, .ref hy, .null, .null, .int 0, .null, .null, .null, .null, .null, .null, .int 0])), (r2, .inr (5, [.ref (yr 0), .int 0, .ref (yr 1), .int 0, .int 0, .ref (yr 2), .ref (yr 3), .int 0, .ref (yr 4), .ref (yr 5), .int 0, .ref (yr 6), .ref (yr 7), .int 0, .int ((-1)), .int 0, .int ((-1)), .long 0, .int 0, .int 0]))]) [0, 1] (by decide) rfl
  have hK9 := hK.sub (tys' := []) [] rfl
  exact W.zret (ty := .boolean) (v := 1) hx hb hr (by decide) (fun t ht hW => ⟨⟨1, (), rfl, rfl, by rw [ht]; exact hP9, va_K.moved hW.alike hK9, hD9⟩, hS.F ht⟩) hS.2.2 d_SP_takeSource_48
set_option maxHeartbeats 4000000 in
set_option maxRecDepth 100000 in
/-- source of an empty TAPE -/
theorem c_SP_source (l : Launch) (dC : Nat → ClassId) (dI : Nat → Nat → Nat) (x tp sg st ft hy : Nat) (cB : ClassId) (f3 : Nat → Int32) (sz : Nat) : Met l y_SP_source [w_SP_source] ({ frames := 3, cells := 9, slots := 44868, locals := 60 }) (va_Pc [.ref x] (pr sz (dC, dI) [(x, .inr (0, [.ref tp, .int 0, .int ((-1)), .ref sg, .null, .null, .ref st, .null, .ref ft, .null, .ref hy, .null, .null, .int 0, .null, .null, .null, .null, .null, .null, .int 0])), (tp, .inl (cB, 16384, .inl f3))] [(cB, .byte)])) (va_Qi (fun (r : Int32) (u : Unit) => r = 0) (bw (dC, dI) (va_A [(x, .inr (0, [.ref tp, .int 0, .int ((-1)), .ref sg, .null, .null, .ref st, .null, .ref ft, .null, .ref hy, .null, .null, .int 0, .null, .null, .null, .null, .null, .null, .int 0])), (tp, .inl (cB, 16384, .inl f3))] sz) (fun u : Unit => []) (fun u : Unit => [])) (va_A [(x, .inr (0, [.ref tp, .int 0, .int ((-1)), .ref sg, .null, .null, .ref st, .null, .ref ft, .null, .ref hy, .null, .null, .int 0, .null, .null, .null, .null, .null, .null, .int 0])), (tp, .inl (cB, 16384, .inl f3))] sz)) 9 44868 (va_A [(x, .inr (0, [.ref tp, .int 0, .int ((-1)), .ref sg, .null, .null, .ref st, .null, .ref ft, .null, .ref hy, .null, .null, .int 0, .null, .null, .null, .null, .null, .null, .int 0])), (tp, .inl (cB, 16384, .inl f3))] sz) := by
  refine Met.ofW (cc := b_SP_source) (maxL := 2) (ret := (some .int)) (by decide) rfl ?_
  intro p e s m args below meth c s₁ B hml hv
  obtain ⟨rfl, hsz, hb0, hP, hK, hD0⟩ := hv
  have hx := B.exec
  have hb := B.bytes
  have hr := B.returns
  have hts : ∀ wq ∈ tt, wq.before ([.ref x] : List Value).toArray s = true := hb0.hts
  have hown : s.vm.findClass "ScholarsPress" = some m.cls := findClass_of_methodNamed B.named
  have hlocks := B.notSynchronized
  subst hsz
  have hD := hD0.self (sz := s.heap.size)
  generalize hAe : va_A [(x, .inr (0, [.ref tp, .int 0, .int ((-1)), .ref sg, .null, .null, .ref st, .null, .ref ft, .null, .ref hy, .null, .null, .int 0, .null, .null, .null, .null, .null, .null, .int 0])), (tp, .inl (cB, 16384, .inl f3))] s.heap.size = A at hD ⊢
  have hA : ∀ q : Nat, s.heap.size ≤ q → A q := fun q h => by rw [← hAe]; exact Or.inr h
  have hS : va_S A s.heap s.heap [] := va_S.rf
  have hP : va_P (dC, dI) classes [(x, .inr (0, [.ref tp, .int 0, .int ((-1)), .ref sg, .null, .null, .ref st, .null, .ref ft, .null, .ref hy, .null, .null, .int 0, .null, .null, .null, .null, .null, .null, .int 0])), (tp, .inl (cB, 16384, .inl f3))] s.heap := hP
  have hl := lv_entry ([.ref x]) (n := 2) (Nat.le_of_ble_eq_true rfl)
  rw [lg_entry_eq]
  generalize (lg_sl ([.ref x]) ++ List.replicate (2 - (lg_sl ([.ref x])).length) Slot.unset).toArray = ls at hl ⊢
  have hl : lv_has ls 2 [(0, .ref x)] := hl
  refine lv_aload_n hx hb d_SP_source_0 rfl (lv_at hl 0 rfl) ?_
  refine vi_v (wc := [(x, .inr (0, [.ref tp, .int 0, .int ((-1)), .ref sg, .null, .null, .ref st, .null, .ref ft, .null, .ref hy, .null, .null, .int 0, .null, .null, .null, .null, .null, .null, .int 0]))]) (wr := [(tp, .inl (cB, 16384, .inl f3))]) (va_runV (As := []) (rest := []) ⟨hx, hb, hml, hown, hts⟩ (c_SP_makeSpareSource l dC dI x tp sg st ft hy s.heap.size) (cwV 0 hts (tt_V k_1203 k_1205 k_25 k_240 kw_SP_makeSpareSource) rfl rfl rfl (by decide +kernel) ⟨Nat.le_of_ble_eq_true rfl, Nat.le_of_ble_eq_true rfl⟩) ⟨pr_blind, va_recv hK hP (ci := 0) (q0 := 0) rfl rfl, pr_pre hb0 (hP.sub [0] rfl) (hK.sub [] rfl) (hD.sub [0] (by decide) rfl)⟩ rfl rfl hl.1 rfl (lv_room (Nat.le_of_ble_eq_true rfl)) d_SP_source_1 ⟨Nat.le_of_ble_eq_true rfl, Nat.le_of_ble_eq_true rfl⟩) hP hD hK hS hA [0] [1] rfl rfl (by decide) (by decide) (fun u H locs hw hP hK hD hS => ?_)
  obtain ⟨U_1, rfl⟩ : ∃ z, z = u := ⟨_, rfl⟩
  have hP : va_P (dC, dI) classes [(tp, .inl (cB, 16384, .inl f3)), (x, .inr (0, [.ref tp, .int 0, .int ((-1)), .ref sg, .null, .ref U_1.1, .ref st, .null, .ref ft, .null, .ref hy, .null, .null, .int 0, .null, .null, .null, .null, .null, .null, .int 0])), (U_1.1, .inr (5, [.ref (U_1.2.1 0), .int 0, .ref (U_1.2.1 1), .int 0, .int 0, .ref (U_1.2.1 2), .ref (U_1.2.1 3), .int 0, .ref (U_1.2.1 4), .ref (U_1.2.1 5), .int 0, .ref (U_1.2.1 6), .ref (U_1.2.1 7), .int 0, .int 0, .int 0, .int 0, .long 0, .int 0, .int 0])), ((U_1.2.1 0), .inl ((U_1.2.2.2 0), 16384, .inl ((fun _ => 0))))] H := hP
  have hD : va_D A [(tp, .inl (cB, 16384, .inl f3)), (x, .inr (0, [.ref tp, .int 0, .int ((-1)), .ref sg, .null, .ref U_1.1, .ref st, .null, .ref ft, .null, .ref hy, .null, .null, .int 0, .null, .null, .null, .null, .null, .null, .int 0])), (U_1.1, .inr (5, [.ref (U_1.2.1 0), .int 0, .ref (U_1.2.1 1), .int 0, .int 0, .ref (U_1.2.1 2), .ref (U_1.2.1 3), .int 0, .ref (U_1.2.1 4), .ref (U_1.2.1 5), .int 0, .ref (U_1.2.1 6), .ref (U_1.2.1 7), .int 0, .int 0, .int 0, .int 0, .long 0, .int 0, .int 0])), ((U_1.2.1 0), .inl ((U_1.2.2.2 0), 16384, .inl ((fun _ => 0))))] := hD
  have hK : va_K (dC, dI) classes [(cB, .byte), ((U_1.2.2.2 0), .byte)] s := hK
  refine lv_aload_n hx hb d_SP_source_4 rfl (lv_at hl 0 rfl) ?_
  refine vi_i (wc := [(x, .inr (0, [.ref tp, .int 0, .int ((-1)), .ref sg, .null, .ref U_1.1, .ref st, .null, .ref ft, .null, .ref hy, .null, .null, .int 0, .null, .null, .null, .null, .null, .null, .int 0]))]) (wr := [(tp, .inl (cB, 16384, .inl f3)), (U_1.1, .inr (5, [.ref (U_1.2.1 0), .int 0, .ref (U_1.2.1 1), .int 0, .int 0, .ref (U_1.2.1 2), .ref (U_1.2.1 3), .int 0, .ref (U_1.2.1 4), .ref (U_1.2.1 5), .int 0, .ref (U_1.2.1 6), .ref (U_1.2.1 7), .int 0, .int 0, .int 0, .int 0, .long 0, .int 0, .int 0])), ((U_1.2.1 0), .inl ((U_1.2.2.2 0), 16384, .inl ((fun _ => 0))))]) (va_runV (As := []) (rest := []) ⟨hx, hb, hml, hown, hts⟩ (c_SP_takeTape l dC dI x tp (fun k => match k with | 0 => (.ref tp : Value) | 1 => (.int 0 : Value) | 2 => (.int ((-1)) : Value) | 3 => (.ref sg : Value) | 4 => (.null : Value) | 5 => (.ref U_1.1 : Value) | 6 => (.ref st : Value) | 7 => (.null : Value) | 8 => (.ref ft : Value) | 9 => (.null : Value) | 10 => (.ref hy : Value) | 11 => (.null : Value) | 12 => (.null : Value) | 13 => (.int 0 : Value) | 14 => (.null : Value) | 15 => (.null : Value) | 16 => (.null : Value) | 17 => (.null : Value) | 18 => (.null : Value) | 19 => (.null : Value) | _ => (.int 0 : Value)) H.size) (cwV 0 hts (tt_V k_681 k_683 k_2 k_240 kw_SP_takeTape) rfl rfl rfl (by decide +kernel) ⟨Nat.le_of_ble_eq_true rfl, Nat.le_of_ble_eq_true rfl⟩) ⟨pr_blind, va_recv hK hP (ci := 0) (q0 := 1) rfl rfl, pr_pre hb0 (hP.sub [1] rfl) (hK.sub [] rfl) (hD.sub [1] (by decide) rfl)⟩ rfl rfl hl.1 rfl (lv_room (Nat.le_of_ble_eq_true rfl)) d_SP_source_5 ⟨Nat.le_of_ble_eq_true rfl, Nat.le_of_ble_eq_true rfl⟩) hP hD hK hS hA [1] [0, 2, 3] rfl rfl (by decide) (by decide) (fun r u H locs hw hP hK hD hS => ?_)
  subst hw
  have hP : va_P (dC, dI) classes [(tp, .inl (cB, 16384, .inl f3)), (U_1.1, .inr (5, [.ref (U_1.2.1 0), .int 0, .ref (U_1.2.1 1), .int 0, .int 0, .ref (U_1.2.1 2), .ref (U_1.2.1 3), .int 0, .ref (U_1.2.1 4), .ref (U_1.2.1 5), .int 0, .ref (U_1.2.1 6), .ref (U_1.2.1 7), .int 0, .int 0, .int 0, .int 0, .long 0, .int 0, .int 0])), ((U_1.2.1 0), .inl ((U_1.2.2.2 0), 16384, .inl ((fun _ => 0)))), (x, .inr (0, [.ref tp, .int 0, .int ((-1)), .ref sg, .null, .ref U_1.1, .ref st, .null, .ref ft, .null, .ref hy, .null, .null, .int 0, .null, .null, .null, .null, .null, .null, .int 0]))] H := hP
  have hD : va_D A [(tp, .inl (cB, 16384, .inl f3)), (U_1.1, .inr (5, [.ref (U_1.2.1 0), .int 0, .ref (U_1.2.1 1), .int 0, .int 0, .ref (U_1.2.1 2), .ref (U_1.2.1 3), .int 0, .ref (U_1.2.1 4), .ref (U_1.2.1 5), .int 0, .ref (U_1.2.1 6), .ref (U_1.2.1 7), .int 0, .int 0, .int 0, .int 0, .long 0, .int 0, .int 0])), ((U_1.2.1 0), .inl ((U_1.2.2.2 0), 16384, .inl ((fun _ => 0)))), (x, .inr (0, [.ref tp, .int 0, .int ((-1)), .ref sg, .null, .ref U_1.1, .ref st, .null, .ref ft, .null, .ref hy, .null, .null, .int 0, .null, .null, .null, .null, .null, .null, .int 0]))] := hD
  have hK : va_K (dC, dI) classes [(cB, .byte), ((U_1.2.2.2 0), .byte)] s := hK.sub [0, 1] rfl
  refine lv_istore_n (lv' := [(1, .int 0), (0, .ref x)]) hx hb d_SP_source_8 rfl hl (by decide) rfl (fun ls hl => ?_)
  refine lv_aload_n hx hb d_SP_source_9 rfl (lv_at hl 1 rfl) ?_
  refine va_get (D := (dC, dI)) (ci := 0) (v := .ref tp) (C := "ScholarsPress") (T := F_SP) (N := 21) hx hb hts in_SP hown hK hP 3 rfl rfl 0 (by decide) (hts (.fieldLink "ScholarsPress" 9 "ScholarsPress" "tape" "[B") k_500) (fun _ h9 => h9) rfl d_SP_source_10 ?_
  refine lv_iconst (v := 0) hx hb d_SP_source_13 (by decide) ?_
  refine lv_aload_n hx hb d_SP_source_14 rfl (lv_at hl 1 rfl) ?_
  refine va_get (D := (dC, dI)) (ci := 0) (v := .ref U_1.1) (C := "ScholarsPress") (T := F_SP) (N := 21) hx hb hts in_SP hown hK hP 3 rfl rfl 5 (by decide) (hts (.fieldLink "ScholarsPress" 116 "ScholarsPress" "sourceSpare" "LScholarsPress$Source;") k_505) (fun _ h9 => h9) rfl d_SP_source_15 ?_
  refine va_get (D := (dC, dI)) (ci := 5) (v := .ref (U_1.2.1 0)) (C := "ScholarsPress$Source") (T := F_PSource) (N := 20) hx hb hts in_PSource hown hK hP 1 rfl rfl 0 (by decide) (hts (.fieldLink "ScholarsPress" 120 "ScholarsPress$Source" "text" "[B") k_1214) (fun _ h9 => h9) rfl d_SP_source_18 ?_
  refine lv_iconst (v := 0) hx hb d_SP_source_21 (by decide) ?_
  refine lv_iload_n hx hb d_SP_source_22 rfl (lv_at hl 0 rfl) ?_
  refine va_copyi (sp := 0) (dp := 0) (n := 0) (ty := .byte) hx hb (hml.trans hl.1.symm) hown (hts _ k_1294) (hts _ k_349) (hts _ k_348) (hts _ k_243) hK hP hD hS 0 2 0 1 rfl rfl rfl rfl rfl (by decide) (by decide) (by decide) (by decide) (by decide) (fun i hi => absurd (show i < 0 from hi) (Nat.not_lt_zero i)) (Nat.le_of_ble_eq_true rfl) (Nat.le_of_ble_eq_true rfl) d_SP_source_23 (fun H locs hP hD hS => ?_)
  obtain ⟨g_2, eg_2⟩ : ∃ g, g = va_cpy f3 ((fun _ => 0)) (0 : Int32).toNatClampNeg (0 : Int32).toNatClampNeg (0 : Int32).toNatClampNeg := ⟨_, rfl⟩
  have hP : va_P (dC, dI) classes [(tp, .inl (cB, 16384, .inl f3)), (U_1.1, .inr (5, [.ref (U_1.2.1 0), .int 0, .ref (U_1.2.1 1), .int 0, .int 0, .ref (U_1.2.1 2), .ref (U_1.2.1 3), .int 0, .ref (U_1.2.1 4), .ref (U_1.2.1 5), .int 0, .ref (U_1.2.1 6), .ref (U_1.2.1 7), .int 0, .int 0, .int 0, .int 0, .long 0, .int 0, .int 0])), ((U_1.2.1 0), .inl ((U_1.2.2.2 0), 16384, .inl g_2)), (x, .inr (0, [.ref tp, .int 0, .int ((-1)), .ref sg, .null, .ref U_1.1, .ref st, .null, .ref ft, .null, .ref hy, .null, .null, .int 0, .null, .null, .null, .null, .null, .null, .int 0]))] H := by rw [eg_2]; exact hP
  have hD : va_D A [(tp, .inl (cB, 16384, .inl f3)), (U_1.1, .inr (5, [.ref (U_1.2.1 0), .int 0, .ref (U_1.2.1 1), .int 0, .int 0, .ref (U_1.2.1 2), .ref (U_1.2.1 3), .int 0, .ref (U_1.2.1 4), .ref (U_1.2.1 5), .int 0, .ref (U_1.2.1 6), .ref (U_1.2.1 7), .int 0, .int 0, .int 0, .int 0, .long 0, .int 0, .int 0])), ((U_1.2.1 0), .inl ((U_1.2.2.2 0), 16384, .inl g_2)), (x, .inr (0, [.ref tp, .int 0, .int ((-1)), .ref sg, .null, .ref U_1.1, .ref st, .null, .ref ft, .null, .ref hy, .null, .null, .int 0, .null, .null, .null, .null, .null, .null, .int 0]))] := by rw [eg_2]; exact hD
  refine lv_aload_n hx hb d_SP_source_26 rfl (lv_at hl 1 rfl) ?_
  refine lv_iload_n hx hb d_SP_source_27 rfl (lv_at hl 0 rfl) ?_
  refine vi_i (wc := [(x, .inr (0, [.ref tp, .int 0, .int ((-1)), .ref sg, .null, .ref U_1.1, .ref st, .null, .ref ft, .null, .ref hy, .null, .null, .int 0, .null, .null, .null, .null, .null, .null, .int 0])), (U_1.1, .inr (5, [.ref (U_1.2.1 0), .int 0, .ref (U_1.2.1 1), .int 0, .int 0, .ref (U_1.2.1 2), .ref (U_1.2.1 3), .int 0, .ref (U_1.2.1 4), .ref (U_1.2.1 5), .int 0, .ref (U_1.2.1 6), .ref (U_1.2.1 7), .int 0, .int 0, .int 0, .int 0, .long 0, .int 0, .int 0]))]) (wr := [(tp, .inl (cB, 16384, .inl f3)), ((U_1.2.1 0), .inl ((U_1.2.2.2 0), 16384, .inl g_2))]) (va_runV (As := [.int 0]) (rest := []) ⟨hx, hb, hml, hown, hts⟩ (c_SP_takeSource l dC dI x tp sg st ft hy U_1.1 (fun k => match k with | 0 => (U_1.2.1 0) | 1 => (U_1.2.1 1) | 2 => (U_1.2.1 2) | 3 => (U_1.2.1 3) | 4 => (U_1.2.1 4) | 5 => (U_1.2.1 5) | 6 => (U_1.2.1 6) | _ => (U_1.2.1 7)) H.size) (cwV 1 hts (tt_V k_1295 k_1297 k_26 k_240 kw_SP_takeSource) rfl rfl rfl (by decide +kernel) ⟨Nat.le_of_ble_eq_true rfl, Nat.le_of_ble_eq_true rfl⟩) ⟨pr_blind, va_recv hK hP (ci := 0) (q0 := 3) rfl rfl, pr_pre hb0 (hP.sub [3, 1] rfl) (hK.sub [] rfl) (hD.sub [3, 1] (by decide) rfl)⟩ rfl rfl hl.1 rfl (lv_room (Nat.le_of_ble_eq_true rfl)) d_SP_source_28 ⟨Nat.le_of_ble_eq_true rfl, Nat.le_of_ble_eq_true rfl⟩) hP hD hK hS hA [3, 1] [0, 2] rfl rfl (by decide) (by decide) (fun r u H locs hw hP hK hD hS => ?_)
  subst hw
  have hP : va_P (dC, dI) classes [(tp, .inl (cB, 16384, .inl f3)), ((U_1.2.1 0), .inl ((U_1.2.2.2 0), 16384, .inl g_2)), (x, .inr (0, [.ref tp, .int 0, .int ((-1)), .ref sg, .ref U_1.1, .null, .ref st, .null, .ref ft, .null, .ref hy, .null, .null, .int 0, .null, .null, .null, .null, .null, .null, .int 0])), (U_1.1, .inr (5, [.ref (U_1.2.1 0), .int 0, .ref (U_1.2.1 1), .int 0, .int 0, .ref (U_1.2.1 2), .ref (U_1.2.1 3), .int 0, .ref (U_1.2.1 4), .ref (U_1.2.1 5), .int 0, .ref (U_1.2.1 6), .ref (U_1.2.1 7), .int 0, .int ((-1)), .int 0, .int ((-1)), .long 0, .int 0, .int 0]))] H := hP
  have hD : va_D A [(tp, .inl (cB, 16384, .inl f3)), ((U_1.2.1 0), .inl ((U_1.2.2.2 0), 16384, .inl g_2)), (x, .inr (0, [.ref tp, .int 0, .int ((-1)), .ref sg, .ref U_1.1, .null, .ref st, .null, .ref ft, .null, .ref hy, .null, .null, .int 0, .null, .null, .null, .null, .null, .null, .int 0])), (U_1.1, .inr (5, [.ref (U_1.2.1 0), .int 0, .ref (U_1.2.1 1), .int 0, .int 0, .ref (U_1.2.1 2), .ref (U_1.2.1 3), .int 0, .ref (U_1.2.1 4), .ref (U_1.2.1 5), .int 0, .ref (U_1.2.1 6), .ref (U_1.2.1 7), .int 0, .int ((-1)), .int 0, .int ((-1)), .long 0, .int 0, .int 0]))] := hD
  have hK : va_K (dC, dI) classes [(cB, .byte), ((U_1.2.2.2 0), .byte)] s := hK.sub [0, 1] rfl
  refine lv_if_ne (tgt := 42) hx hb d_SP_source_31 (by decide) (fun c_3 => ?_) (fun c_3 => absurd c_3 (by decide))
  refine lv_aload_n hx hb d_SP_source_42 rfl (lv_at hl 1 rfl) ?_
  refine va_get (D := (dC, dI)) (ci := 0) (v := .ref U_1.1) (C := "ScholarsPress") (T := F_SP) (N := 21) hx hb hts in_SP hown hK hP 2 rfl rfl 4 (by decide) (hts (.fieldLink "ScholarsPress" 135 "ScholarsPress" "sourceNow" "LScholarsPress$Source;") k_504) (fun _ h9 => h9) rfl d_SP_source_43 ?_
  refine va_get (D := (dC, dI)) (ci := 5) (v := .int 0) (C := "ScholarsPress$Source") (T := F_PSource) (N := 20) hx hb hts in_PSource hown hK hP 3 rfl rfl 4 (by decide) (hts (.fieldLink "ScholarsPress" 138 "ScholarsPress$Source" "elements" "I") k_1229) (fun _ h9 => h9) rfl d_SP_source_46 ?_
  have hP9 := hP.sub (ws' := []) [] rfl
  have hD9 := hD.sub (ws' := []) [] (by decide) rfl
  have hK9 := hK.sub (tys' := []) [] rfl
  exact W.iret (v := 0) hx hb hr (fun t ht hW => ⟨⟨0, (), rfl, rfl, by rw [ht]; exact hP9, va_K.moved hW.alike hK9, hD9⟩, hS.F ht⟩) hS.2.2 d_SP_source_49
