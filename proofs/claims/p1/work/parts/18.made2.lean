set_option maxHeartbeats 4000000 in
set_option maxRecDepth 100000 in
/-- Signs() -/
theorem c_PSigns_init (l : Launch) (dC : Nat → ClassId) (dI : Nat → Nat → Nat) (h0 : Nat) (sz : Nat) : Met l y_PSigns_init [w_PSigns_init] ({ frames := 1, cells := 0, slots := 0, locals := 20 }) (va_Pc [.ref h0] (pr sz (dC, dI) [(h0, .inr (1, [.null, .int 0, .int 0, .int 0, .int 0, .int 0, .int 0, .long 0]))] [])) (va_Qv (fun (u : (Nat → Nat) × (Nat → Int32) × (Nat → ClassId)) => True) (bw (dC, dI) (va_A [(h0, .inr (1, [.null, .int 0, .int 0, .int 0, .int 0, .int 0, .int 0, .long 0]))] sz) (fun u : (Nat → Nat) × (Nat → Int32) × (Nat → ClassId) => [(h0, .inr (1, [.null, .int 0, .int 0, .int 0, .int 0, .int 0, .int 0, .long 0]))]) (fun u : (Nat → Nat) × (Nat → Int32) × (Nat → ClassId) => [])) (va_A [(h0, .inr (1, [.null, .int 0, .int 0, .int 0, .int 0, .int 0, .int 0, .long 0]))] sz)) 0 0 (va_A [(h0, .inr (1, [.null, .int 0, .int 0, .int 0, .int 0, .int 0, .int 0, .long 0]))] sz) := by
  refine Met.ofW (cc := b_PSigns_init) (maxL := 1) (ret := none) (by decide) rfl ?_
  intro p e s m args below meth c s₁ B hml hv
  obtain ⟨rfl, hsz, hb0, hP, hK, hD0⟩ := hv
  have hx := B.exec
  have hb := B.bytes
  have hr := B.returns
  have hts : ∀ wq ∈ tt, wq.before ([.ref h0] : List Value).toArray s = true := hb0.hts
  have hown : s.vm.findClass "ScholarsPress$Signs" = some m.cls := findClass_of_methodNamed B.named
  have hlocks := B.notSynchronized
  have hin : meth.name = "<init>" := (name_of_methodNamed B.named B.method).1
  subst hsz
  have hD := hD0.self (sz := s.heap.size)
  generalize hAe : va_A [(h0, .inr (1, [.null, .int 0, .int 0, .int 0, .int 0, .int 0, .int 0, .long 0]))] s.heap.size = A at hD ⊢
  have hA : ∀ q : Nat, s.heap.size ≤ q → A q := fun q h => by rw [← hAe]; exact Or.inr h
  have hS : va_S A s.heap s.heap [] := va_S.rf
  have hP : va_P (dC, dI) classes [(h0, .inr (1, [.null, .int 0, .int 0, .int 0, .int 0, .int 0, .int 0, .long 0]))] s.heap := hP
  have hl := lv_entry ([.ref h0]) (n := 1) (Nat.le_of_ble_eq_true rfl)
  rw [lg_entry_eq]
  generalize (lg_sl ([.ref h0]) ++ List.replicate (1 - (lg_sl ([.ref h0])).length) Slot.unset).toArray = ls at hl ⊢
  have hl : lv_has ls 1 [(0, .ref h0)] := hl
  refine lv_aload_n hx hb d_PSigns_init_0 rfl (lv_at hl 0 rfl) ?_
  refine W.objInit hx hb hown (hts (.methodLink "ScholarsPress$Signs" 1 objectInit) k_296) (hts (.instanceMethod objectInit) k_289) (hts _ k_oi) rfl (by rw [hml]; exact hl.1) rfl d_PSigns_init_1 (Nat.le_of_ble_eq_true rfl) (Nat.le_of_ble_eq_true rfl) ?_
  refine W.eq (g2 := F0 m 4 ls []) rfl ?_
  have hP9 := hP.sub (ws' := [(h0, .inr (1, [.null, .int 0, .int 0, .int 0, .int 0, .int 0, .int 0, .long 0]))]) [0] rfl
  have hD9 := hD.sub (ws' := [(h0, .inr (1, [.null, .int 0, .int 0, .int 0, .int 0, .int 0, .int 0, .long 0]))]) [0] (by decide) rfl
  have hK9 := hK.sub (tys' := []) [] rfl
  exact W.vret hx hb hr (fun t ht hW => ⟨⟨((fun _ => 0), (fun _ => 0), (fun _ => 0)), rfl, trivial, by rw [ht]; exact hP9, va_K.moved hW.alike hK9, hD9⟩, hS.F ht⟩) hS.2.2 d_PSigns_init_4
set_option maxHeartbeats 4000000 in
set_option maxRecDepth 100000 in
/-- Font(): widths are 500 -/
theorem c_PFont_init (l : Launch) (dC : Nat → ClassId) (dI : Nat → Nat → Nat) (h0 : Nat) (sz : Nat) : Met l y_PFont_init [w_PFont_init] ({ frames := 1, cells := 5, slots := 1800, locals := 23 }) (va_Pc [.ref h0] (pr sz (dC, dI) [(h0, .inr (3, [.null, .null, .int 0, .null, .null, .null, .int 0, .int 0]))] [])) (va_Qv (fun (u : (Nat → Nat) × (Nat → Int32) × (Nat → ClassId)) => ∀ j, j < 128 → u.2.1 j = 500) (bw (dC, dI) (va_A [(h0, .inr (3, [.null, .null, .int 0, .null, .null, .null, .int 0, .int 0]))] sz) (fun u : (Nat → Nat) × (Nat → Int32) × (Nat → ClassId) => [(h0, .inr (3, [.ref (u.1 0), .ref (u.1 1), .int 0, .ref (u.1 2), .ref (u.1 3), .ref (u.1 4), .int 0, .int 0])), ((u.1 0), .inl ((u.2.2 0), 128, .inl u.2.1)), ((u.1 1), .inl ((u.2.2 1), 128, .inl ((fun _ => 0)))), ((u.1 4), .inl ((u.2.2 2), 1024, .inl ((fun _ => 0))))]) (fun u : (Nat → Nat) × (Nat → Int32) × (Nat → ClassId) => [((u.2.2 0), .int), ((u.2.2 1), .boolean), ((u.2.2 2), .int)])) (va_A [(h0, .inr (3, [.null, .null, .int 0, .null, .null, .null, .int 0, .int 0]))] sz)) 5 1800 (va_A [(h0, .inr (3, [.null, .null, .int 0, .null, .null, .null, .int 0, .int 0]))] sz) := by
  refine Met.ofW (cc := b_PFont_init) (maxL := 1) (ret := none) (by decide) rfl ?_
  intro p e s m args below meth c s₁ B hml hv
  obtain ⟨rfl, hsz, hb0, hP, hK, hD0⟩ := hv
  have hx := B.exec
  have hb := B.bytes
  have hr := B.returns
  have hts : ∀ wq ∈ tt, wq.before ([.ref h0] : List Value).toArray s = true := hb0.hts
  have hown : s.vm.findClass "ScholarsPress$Font" = some m.cls := findClass_of_methodNamed B.named
  have hlocks := B.notSynchronized
  have hin : meth.name = "<init>" := (name_of_methodNamed B.named B.method).1
  subst hsz
  have hD := hD0.self (sz := s.heap.size)
  generalize hAe : va_A [(h0, .inr (3, [.null, .null, .int 0, .null, .null, .null, .int 0, .int 0]))] s.heap.size = A at hD ⊢
  have hA : ∀ q : Nat, s.heap.size ≤ q → A q := fun q h => by rw [← hAe]; exact Or.inr h
  have hS : va_S A s.heap s.heap [] := va_S.rf
  have hP : va_P (dC, dI) classes [(h0, .inr (3, [.null, .null, .int 0, .null, .null, .null, .int 0, .int 0]))] s.heap := hP
  have hl := lv_entry ([.ref h0]) (n := 1) (Nat.le_of_ble_eq_true rfl)
  rw [lg_entry_eq]
  generalize (lg_sl ([.ref h0]) ++ List.replicate (1 - (lg_sl ([.ref h0])).length) Slot.unset).toArray = ls at hl ⊢
  have hl : lv_has ls 1 [(0, .ref h0)] := hl
  refine lv_aload_n hx hb d_PFont_init_0 rfl (lv_at hl 0 rfl) ?_
  refine W.objInit hx hb hown (hts (.methodLink "ScholarsPress$Font" 1 objectInit) k_415) (hts (.instanceMethod objectInit) k_289) (hts _ k_oi) rfl (by rw [hml]; exact hl.1) rfl d_PFont_init_1 (Nat.le_of_ble_eq_true rfl) (Nat.le_of_ble_eq_true rfl) ?_
  refine W.eq (g2 := F0 m 4 ls []) rfl ?_
  refine lv_aload_n hx hb d_PFont_init_4 rfl (lv_at hl 0 rfl) ?_
  refine lv_sipush (v := 128) hx hb d_PFont_init_5 (by decide) ?_
  refine va_newa (D := (dC, dI)) hx hb (atype := .int) (hts _ k_408) rfl hK hP hD hS hA (a0 := (128, .inl (fun _ => 0))) (n := 128) (fun _ => rfl) (by decide) (by decide) (by decide) (Nat.le_of_ble_eq_true rfl) (Nat.le_of_ble_eq_true rfl) d_PFont_init_8 (fun q_1 cA_2 H hK hP hD hS => ?_)
  have hP : va_P (dC, dI) classes [(h0, .inr (3, [.null, .null, .int 0, .null, .null, .null, .int 0, .int 0])), (q_1, .inl (cA_2, 128, .inl ((fun _ => 0))))] H := hP
  have hD : va_D A [(h0, .inr (3, [.null, .null, .int 0, .null, .null, .null, .int 0, .int 0])), (q_1, .inl (cA_2, 128, .inl ((fun _ => 0))))] := hD
  have hK : va_K (dC, dI) classes [(cA_2, .int)] s := hK
  refine va_putF (D := (dC, dI)) (ci := 3) (v := .ref q_1) (ty := .array .int) (C := "ScholarsPress$Font") (T := F_PFont) (N := 8) hx hb hts in_PFont t_PFont t_PFont_ok n_PFont hown hK hP hD hS 0 rfl rfl 0 (by decide) (hts (.fieldLink "ScholarsPress$Font" 7 "ScholarsPress$Font" "widths" "[I") k_419) (fun _ h9 => h9) rfl hin rfl (by decide +kernel) rfl rfl (Nat.le_of_ble_eq_true rfl) d_PFont_init_10 (fun H locs hP hD hS => ?_)
  have hP : va_P (dC, dI) classes [(h0, .inr (3, [.ref q_1, .null, .int 0, .null, .null, .null, .int 0, .int 0])), (q_1, .inl (cA_2, 128, .inl ((fun _ => 0))))] H := hP
  have hD : va_D A [(h0, .inr (3, [.ref q_1, .null, .int 0, .null, .null, .null, .int 0, .int 0])), (q_1, .inl (cA_2, 128, .inl ((fun _ => 0))))] := hD
  refine lv_aload_n hx hb d_PFont_init_13 rfl (lv_at hl 0 rfl) ?_
  refine lv_sipush (v := 128) hx hb d_PFont_init_14 (by decide) ?_
  refine va_newa (D := (dC, dI)) hx hb (atype := .boolean) (hts _ k_446) rfl hK hP hD hS hA (a0 := (128, .inl (fun _ => 0))) (n := 128) (fun _ => rfl) (by decide) (by decide) (by decide) (Nat.le_of_ble_eq_true rfl) (Nat.le_of_ble_eq_true rfl) d_PFont_init_17 (fun q_3 cA_4 H hK hP hD hS => ?_)
  have hP : va_P (dC, dI) classes [(h0, .inr (3, [.ref q_1, .null, .int 0, .null, .null, .null, .int 0, .int 0])), (q_1, .inl (cA_2, 128, .inl ((fun _ => 0)))), (q_3, .inl (cA_4, 128, .inl ((fun _ => 0))))] H := hP
  have hD : va_D A [(h0, .inr (3, [.ref q_1, .null, .int 0, .null, .null, .null, .int 0, .int 0])), (q_1, .inl (cA_2, 128, .inl ((fun _ => 0)))), (q_3, .inl (cA_4, 128, .inl ((fun _ => 0))))] := hD
  have hK : va_K (dC, dI) classes [(cA_2, .int), (cA_4, .boolean)] s := hK
  refine va_putF (D := (dC, dI)) (ci := 3) (v := .ref q_3) (ty := .array .boolean) (C := "ScholarsPress$Font") (T := F_PFont) (N := 8) hx hb hts in_PFont t_PFont t_PFont_ok n_PFont hown hK hP hD hS 0 rfl rfl 1 (by decide) (hts (.fieldLink "ScholarsPress$Font" 13 "ScholarsPress$Font" "told" "[Z") k_420) (fun _ h9 => h9) rfl hin rfl (by decide +kernel) rfl rfl (Nat.le_of_ble_eq_true rfl) d_PFont_init_19 (fun H locs hP hD hS => ?_)
  have hP : va_P (dC, dI) classes [(h0, .inr (3, [.ref q_1, .ref q_3, .int 0, .null, .null, .null, .int 0, .int 0])), (q_1, .inl (cA_2, 128, .inl ((fun _ => 0)))), (q_3, .inl (cA_4, 128, .inl ((fun _ => 0))))] H := hP
  have hD : va_D A [(h0, .inr (3, [.ref q_1, .ref q_3, .int 0, .null, .null, .null, .int 0, .int 0])), (q_1, .inl (cA_2, 128, .inl ((fun _ => 0)))), (q_3, .inl (cA_4, 128, .inl ((fun _ => 0))))] := hD
  refine lv_aload_n hx hb d_PFont_init_22 rfl (lv_at hl 0 rfl) ?_
  refine lv_sipush (v := 260) hx hb d_PFont_init_23 (by decide) ?_
  refine ca_np (n := 260) (Nn := 260) (a0 := (260, .inl (fun _ => 0))) (q0 := 0) (ci := 3) (k := 3) (C := "ScholarsPress$Font") (T := F_PFont) (N := 8) hx hb hts in_PFont t_PFont t_PFont_ok n_PFont hown k_408 rfl hK hP hD hS hA rfl rfl rfl (by decide) (hts (.fieldLink "ScholarsPress$Font" 17 "ScholarsPress$Font" "keys" "[I") k_423) (fun _ h9 => h9) rfl hin rfl (by decide +kernel) (fun _ => rfl) (by decide) (by decide) (by decide) (Nat.le_of_ble_eq_true rfl) (Nat.le_of_ble_eq_true rfl) d_PFont_init_26 d_PFont_init_28 (fun q_5 H locs hP hD hS => ?_)
  have hP : va_P (dC, dI) classes [(h0, .inr (3, [.ref q_1, .ref q_3, .int 0, .ref q_5, .null, .null, .int 0, .int 0])), (q_1, .inl (cA_2, 128, .inl ((fun _ => 0)))), (q_3, .inl (cA_4, 128, .inl ((fun _ => 0))))] H := hP
  have hD : va_D A [(h0, .inr (3, [.ref q_1, .ref q_3, .int 0, .ref q_5, .null, .null, .int 0, .int 0])), (q_1, .inl (cA_2, 128, .inl ((fun _ => 0)))), (q_3, .inl (cA_4, 128, .inl ((fun _ => 0))))] := hD
  refine lv_aload_n hx hb d_PFont_init_31 rfl (lv_at hl 0 rfl) ?_
  refine lv_sipush (v := 260) hx hb d_PFont_init_32 (by decide) ?_
  refine ca_np (n := 260) (Nn := 260) (a0 := (260, .inl (fun _ => 0))) (q0 := 0) (ci := 3) (k := 4) (C := "ScholarsPress$Font") (T := F_PFont) (N := 8) hx hb hts in_PFont t_PFont t_PFont_ok n_PFont hown k_408 rfl hK hP hD hS hA rfl rfl rfl (by decide) (hts (.fieldLink "ScholarsPress$Font" 20 "ScholarsPress$Font" "values" "[I") k_424) (fun _ h9 => h9) rfl hin rfl (by decide +kernel) (fun _ => rfl) (by decide) (by decide) (by decide) (Nat.le_of_ble_eq_true rfl) (Nat.le_of_ble_eq_true rfl) d_PFont_init_35 d_PFont_init_37 (fun q_6 H locs hP hD hS => ?_)
  have hP : va_P (dC, dI) classes [(h0, .inr (3, [.ref q_1, .ref q_3, .int 0, .ref q_5, .ref q_6, .null, .int 0, .int 0])), (q_1, .inl (cA_2, 128, .inl ((fun _ => 0)))), (q_3, .inl (cA_4, 128, .inl ((fun _ => 0))))] H := hP
  have hD : va_D A [(h0, .inr (3, [.ref q_1, .ref q_3, .int 0, .ref q_5, .ref q_6, .null, .int 0, .int 0])), (q_1, .inl (cA_2, 128, .inl ((fun _ => 0)))), (q_3, .inl (cA_4, 128, .inl ((fun _ => 0))))] := hD
  refine lv_aload_n hx hb d_PFont_init_40 rfl (lv_at hl 0 rfl) ?_
  refine lv_sipush (v := 1024) hx hb d_PFont_init_41 (by decide) ?_
  refine va_newa (D := (dC, dI)) hx hb (atype := .int) (hts _ k_408) rfl hK hP hD hS hA (a0 := (1024, .inl (fun _ => 0))) (n := 1024) (fun _ => rfl) (by decide) (by decide) (by decide) (Nat.le_of_ble_eq_true rfl) (Nat.le_of_ble_eq_true rfl) d_PFont_init_44 (fun q_7 cA_8 H hK hP hD hS => ?_)
  have hP : va_P (dC, dI) classes [(h0, .inr (3, [.ref q_1, .ref q_3, .int 0, .ref q_5, .ref q_6, .null, .int 0, .int 0])), (q_1, .inl (cA_2, 128, .inl ((fun _ => 0)))), (q_3, .inl (cA_4, 128, .inl ((fun _ => 0)))), (q_7, .inl (cA_8, 1024, .inl ((fun _ => 0))))] H := hP
  have hD : va_D A [(h0, .inr (3, [.ref q_1, .ref q_3, .int 0, .ref q_5, .ref q_6, .null, .int 0, .int 0])), (q_1, .inl (cA_2, 128, .inl ((fun _ => 0)))), (q_3, .inl (cA_4, 128, .inl ((fun _ => 0)))), (q_7, .inl (cA_8, 1024, .inl ((fun _ => 0))))] := hD
  have hK : va_K (dC, dI) classes [(cA_2, .int), (cA_4, .boolean), (cA_8, .int)] s := hK
  refine va_putF (D := (dC, dI)) (ci := 3) (v := .ref q_7) (ty := .array .int) (C := "ScholarsPress$Font") (T := F_PFont) (N := 8) hx hb hts in_PFont t_PFont t_PFont_ok n_PFont hown hK hP hD hS 0 rfl rfl 5 (by decide) (hts (.fieldLink "ScholarsPress$Font" 23 "ScholarsPress$Font" "slots" "[I") k_425) (fun _ h9 => h9) rfl hin rfl (by decide +kernel) rfl rfl (Nat.le_of_ble_eq_true rfl) d_PFont_init_46 (fun H locs hP hD hS => ?_)
  have hP : va_P (dC, dI) classes [(h0, .inr (3, [.ref q_1, .ref q_3, .int 0, .ref q_5, .ref q_6, .ref q_7, .int 0, .int 0])), (q_1, .inl (cA_2, 128, .inl ((fun _ => 0)))), (q_3, .inl (cA_4, 128, .inl ((fun _ => 0)))), (q_7, .inl (cA_8, 1024, .inl ((fun _ => 0))))] H := hP
  have hD : va_D A [(h0, .inr (3, [.ref q_1, .ref q_3, .int 0, .ref q_5, .ref q_6, .ref q_7, .int 0, .int 0])), (q_1, .inl (cA_2, 128, .inl ((fun _ => 0)))), (q_3, .inl (cA_4, 128, .inl ((fun _ => 0)))), (q_7, .inl (cA_8, 1024, .inl ((fun _ => 0))))] := hD
  refine lv_aload_n hx hb d_PFont_init_49 rfl (lv_at hl 0 rfl) ?_
  refine va_get (D := (dC, dI)) (ci := 3) (v := .ref q_1) (C := "ScholarsPress$Font") (T := F_PFont) (N := 8) hx hb hts in_PFont hown hK hP 0 rfl rfl 0 (by decide) (hts (.fieldLink "ScholarsPress$Font" 7 "ScholarsPress$Font" "widths" "[I") k_419) (fun _ h9 => h9) rfl d_PFont_init_50 ?_
  refine lv_sipush (v := 500) hx hb d_PFont_init_53 (by decide) ?_
  refine vi_v (wc := [(q_1, .inl (cA_2, 128, .inl ((fun _ => 0))))]) (wr := [(h0, .inr (3, [.ref q_1, .ref q_3, .int 0, .ref q_5, .ref q_6, .ref q_7, .int 0, .int 0])), (q_3, .inl (cA_4, 128, .inl ((fun _ => 0)))), (q_7, .inl (cA_8, 1024, .inl ((fun _ => 0))))]) (va_runS (As := [.ref q_1, .int 500]) (rest := []) ⟨hx, hb, hml, hown, hts⟩ (c_Arrays_fill l dC dI q_1 cA_2 128 (fun _ => 0) 500 H.size (by decide)) (va_cwS 2 hts (tt_S2 k_416 k_417 k_245 kw_Arrays_fill) rfl rfl rfl (by decide +kernel) ⟨Nat.le_of_ble_eq_true rfl, Nat.le_of_ble_eq_true rfl⟩) ⟨pr_blind, pr_pre hb0 (hP.sub [1] rfl) (hK.sub [0] rfl) (hD.sub [1] (by decide) rfl)⟩ rfl rfl hl.1 rfl (lv_room (Nat.le_of_ble_eq_true rfl)) d_PFont_init_56 ⟨Nat.le_of_ble_eq_true rfl, Nat.le_of_ble_eq_true rfl⟩) hP hD hK hS hA [1] [0, 2, 3] rfl rfl (by decide) (by decide) (fun u H locs hw hP hK hD hS => ?_)
  have hP : va_P (dC, dI) classes [(h0, .inr (3, [.ref q_1, .ref q_3, .int 0, .ref q_5, .ref q_6, .ref q_7, .int 0, .int 0])), (q_3, .inl (cA_4, 128, .inl ((fun _ => 0)))), (q_7, .inl (cA_8, 1024, .inl ((fun _ => 0)))), (q_1, .inl (cA_2, 128, .inl u))] H := hP
  have hD : va_D A [(h0, .inr (3, [.ref q_1, .ref q_3, .int 0, .ref q_5, .ref q_6, .ref q_7, .int 0, .int 0])), (q_3, .inl (cA_4, 128, .inl ((fun _ => 0)))), (q_7, .inl (cA_8, 1024, .inl ((fun _ => 0)))), (q_1, .inl (cA_2, 128, .inl u))] := hD
  have hK : va_K (dC, dI) classes [(cA_2, .int), (cA_4, .boolean), (cA_8, .int)] s := hK.sub [0, 1, 2] rfl
  have hP9 := hP.sub (ws' := [(h0, .inr (3, [.ref q_1, .ref q_3, .int 0, .ref q_5, .ref q_6, .ref q_7, .int 0, .int 0])), (q_1, .inl (cA_2, 128, .inl u)), (q_3, .inl (cA_4, 128, .inl ((fun _ => 0)))), (q_7, .inl (cA_8, 1024, .inl ((fun _ => 0))))]) [0, 3, 1, 2] rfl
  have hD9 := hD.sub (ws' := [(h0, .inr (3, [.ref q_1, .ref q_3, .int 0, .ref q_5, .ref q_6, .ref q_7, .int 0, .int 0])), (q_1, .inl (cA_2, 128, .inl u)), (q_3, .inl (cA_4, 128, .inl ((fun _ => 0)))), (q_7, .inl (cA_8, 1024, .inl ((fun _ => 0))))]) [0, 3, 1, 2] (by decide) rfl
  have hK9 := hK.sub (tys' := [(cA_2, .int), (cA_4, .boolean), (cA_8, .int)]) [0, 1, 2] rfl
  exact W.vret hx hb hr (fun t ht hW => ⟨⟨((fun k => match k with | 0 => q_1 | 1 => q_3 | 2 => q_5 | 3 => q_6 | _ => q_7), u, (fun k => match k with | 0 => cA_2 | 1 => cA_4 | _ => cA_8)), rfl, hw, by rw [ht]; exact hP9, va_K.moved hW.alike hK9, hD9⟩, hS.F ht⟩) hS.2.2 d_PFont_init_59
set_option maxHeartbeats 4000000 in
set_option maxRecDepth 100000 in
/-- Hyphens(): no heads -/
theorem c_PHyphens_init (l : Launch) (dC : Nat → ClassId) (dI : Nat → Nat → Nat) (h0 : Nat) (sz : Nat) : Met l y_PHyphens_init [w_PHyphens_init] ({ frames := 1, cells := 8, slots := 11711, locals := 23 }) (va_Pc [.ref h0] (pr sz (dC, dI) [(h0, .inr (4, [.int 0, .int 0, .int 0, .int 0, .int 0, .null, .null, .null, .null, .null, .int 0, .null, .null, .null]))] [])) (va_Qv (fun (u : (Nat → Nat) × (Nat → Int32) × (Nat → ClassId)) => ∀ j, j < 128 → u.2.1 j = (-1)) (bw (dC, dI) (va_A [(h0, .inr (4, [.int 0, .int 0, .int 0, .int 0, .int 0, .null, .null, .null, .null, .null, .int 0, .null, .null, .null]))] sz) (fun u : (Nat → Nat) × (Nat → Int32) × (Nat → ClassId) => [(h0, .inr (4, [.int 0, .int 2, .int 3, .int 0, .int 0, .ref (u.1 0), .ref (u.1 1), .ref (u.1 2), .ref (u.1 3), .ref (u.1 4), .int 0, .ref (u.1 5), .ref (u.1 6), .ref (u.1 7)])), ((u.1 4), .inl ((u.2.2 0), 128, .inl u.2.1))]) (fun u : (Nat → Nat) × (Nat → Int32) × (Nat → ClassId) => [((u.2.2 0), .int)])) (va_A [(h0, .inr (4, [.int 0, .int 0, .int 0, .int 0, .int 0, .null, .null, .null, .null, .null, .int 0, .null, .null, .null]))] sz)) 8 11711 (va_A [(h0, .inr (4, [.int 0, .int 0, .int 0, .int 0, .int 0, .null, .null, .null, .null, .null, .int 0, .null, .null, .null]))] sz) := by
  refine Met.ofW (cc := b_PHyphens_init) (maxL := 1) (ret := none) (by decide) rfl ?_
  intro p e s m args below meth c s₁ B hml hv
  obtain ⟨rfl, hsz, hb0, hP, hK, hD0⟩ := hv
  have hx := B.exec
  have hb := B.bytes
  have hr := B.returns
  have hts : ∀ wq ∈ tt, wq.before ([.ref h0] : List Value).toArray s = true := hb0.hts
  have hown : s.vm.findClass "ScholarsPress$Hyphens" = some m.cls := findClass_of_methodNamed B.named
  have hlocks := B.notSynchronized
  have hin : meth.name = "<init>" := (name_of_methodNamed B.named B.method).1
  subst hsz
  have hD := hD0.self (sz := s.heap.size)
  generalize hAe : va_A [(h0, .inr (4, [.int 0, .int 0, .int 0, .int 0, .int 0, .null, .null, .null, .null, .null, .int 0, .null, .null, .null]))] s.heap.size = A at hD ⊢
  have hA : ∀ q : Nat, s.heap.size ≤ q → A q := fun q h => by rw [← hAe]; exact Or.inr h
  have hS : va_S A s.heap s.heap [] := va_S.rf
  have hP : va_P (dC, dI) classes [(h0, .inr (4, [.int 0, .int 0, .int 0, .int 0, .int 0, .null, .null, .null, .null, .null, .int 0, .null, .null, .null]))] s.heap := hP
  have hl := lv_entry ([.ref h0]) (n := 1) (Nat.le_of_ble_eq_true rfl)
  rw [lg_entry_eq]
  generalize (lg_sl ([.ref h0]) ++ List.replicate (1 - (lg_sl ([.ref h0])).length) Slot.unset).toArray = ls at hl ⊢
  have hl : lv_has ls 1 [(0, .ref h0)] := hl
  refine lv_aload_n hx hb d_PHyphens_init_0 rfl (lv_at hl 0 rfl) ?_
  refine W.objInit hx hb hown (hts (.methodLink "ScholarsPress$Hyphens" 1 objectInit) k_452) (hts (.instanceMethod objectInit) k_289) (hts _ k_oi) rfl (by rw [hml]; exact hl.1) rfl d_PHyphens_init_1 (Nat.le_of_ble_eq_true rfl) (Nat.le_of_ble_eq_true rfl) ?_
  refine W.eq (g2 := F0 m 4 ls []) rfl ?_
  refine lv_aload_n hx hb d_PHyphens_init_4 rfl (lv_at hl 0 rfl) ?_
  refine lv_iconst (v := 2) hx hb d_PHyphens_init_5 (by decide) ?_
  refine va_put (D := (dC, dI)) (ci := 4) (v := .int 2) (ty := .int) (C := "ScholarsPress$Hyphens") (T := F_PHyphens) (N := 14) hx hb hts in_PHyphens t_PHyphens t_PHyphens_ok n_PHyphens hown hK hP hD hS 0 rfl rfl 1 (by decide) (hts (.fieldLink "ScholarsPress$Hyphens" 7 "ScholarsPress$Hyphens" "ahead" "I") k_456) (fun _ h9 => h9) rfl (by decide +kernel) rfl rfl (Nat.le_of_ble_eq_true rfl) d_PHyphens_init_6 (fun H locs hP hD hS => ?_)
  have hP : va_P (dC, dI) classes [(h0, .inr (4, [.int 0, .int 2, .int 0, .int 0, .int 0, .null, .null, .null, .null, .null, .int 0, .null, .null, .null]))] H := hP
  have hD : va_D A [(h0, .inr (4, [.int 0, .int 2, .int 0, .int 0, .int 0, .null, .null, .null, .null, .null, .int 0, .null, .null, .null]))] := hD
  refine lv_aload_n hx hb d_PHyphens_init_9 rfl (lv_at hl 0 rfl) ?_
  refine lv_iconst (v := 3) hx hb d_PHyphens_init_10 (by decide) ?_
  refine va_put (D := (dC, dI)) (ci := 4) (v := .int 3) (ty := .int) (C := "ScholarsPress$Hyphens") (T := F_PHyphens) (N := 14) hx hb hts in_PHyphens t_PHyphens t_PHyphens_ok n_PHyphens hown hK hP hD hS 0 rfl rfl 2 (by decide) (hts (.fieldLink "ScholarsPress$Hyphens" 13 "ScholarsPress$Hyphens" "behind" "I") k_457) (fun _ h9 => h9) rfl (by decide +kernel) rfl rfl (Nat.le_of_ble_eq_true rfl) d_PHyphens_init_11 (fun H locs hP hD hS => ?_)
  have hP : va_P (dC, dI) classes [(h0, .inr (4, [.int 0, .int 2, .int 3, .int 0, .int 0, .null, .null, .null, .null, .null, .int 0, .null, .null, .null]))] H := hP
  have hD : va_D A [(h0, .inr (4, [.int 0, .int 2, .int 3, .int 0, .int 0, .null, .null, .null, .null, .null, .int 0, .null, .null, .null]))] := hD
  refine lv_aload_n hx hb d_PHyphens_init_14 rfl (lv_at hl 0 rfl) ?_
  refine lv_sipush (v := 4515) hx hb d_PHyphens_init_15 (by decide) ?_
  refine ca_np (n := 4515) (Nn := 4515) (a0 := (4515, .inl (fun _ => 0))) (q0 := 0) (ci := 4) (k := 5) (C := "ScholarsPress$Hyphens") (T := F_PHyphens) (N := 14) hx hb hts in_PHyphens t_PHyphens t_PHyphens_ok n_PHyphens hown k_338 rfl hK hP hD hS hA rfl rfl rfl (by decide) (hts (.fieldLink "ScholarsPress$Hyphens" 16 "ScholarsPress$Hyphens" "signs" "[B") k_461) (fun _ h9 => h9) rfl hin rfl (by decide +kernel) (fun _ => rfl) (by decide) (by decide) (by decide) (Nat.le_of_ble_eq_true rfl) (Nat.le_of_ble_eq_true rfl) d_PHyphens_init_18 d_PHyphens_init_20 (fun q_1 H locs hP hD hS => ?_)
  have hP : va_P (dC, dI) classes [(h0, .inr (4, [.int 0, .int 2, .int 3, .int 0, .int 0, .ref q_1, .null, .null, .null, .null, .int 0, .null, .null, .null]))] H := hP
  have hD : va_D A [(h0, .inr (4, [.int 0, .int 2, .int 3, .int 0, .int 0, .ref q_1, .null, .null, .null, .null, .int 0, .null, .null, .null]))] := hD
  refine lv_aload_n hx hb d_PHyphens_init_23 rfl (lv_at hl 0 rfl) ?_
  refine lv_sipush (v := 4515) hx hb d_PHyphens_init_24 (by decide) ?_
  refine ca_np (n := 4515) (Nn := 4515) (a0 := (4515, .inl (fun _ => 0))) (q0 := 0) (ci := 4) (k := 6) (C := "ScholarsPress$Hyphens") (T := F_PHyphens) (N := 14) hx hb hts in_PHyphens t_PHyphens t_PHyphens_ok n_PHyphens hown k_338 rfl hK hP hD hS hA rfl rfl rfl (by decide) (hts (.fieldLink "ScholarsPress$Hyphens" 20 "ScholarsPress$Hyphens" "digits" "[B") k_462) (fun _ h9 => h9) rfl hin rfl (by decide +kernel) (fun _ => rfl) (by decide) (by decide) (by decide) (Nat.le_of_ble_eq_true rfl) (Nat.le_of_ble_eq_true rfl) d_PHyphens_init_27 d_PHyphens_init_29 (fun q_2 H locs hP hD hS => ?_)
  have hP : va_P (dC, dI) classes [(h0, .inr (4, [.int 0, .int 2, .int 3, .int 0, .int 0, .ref q_1, .ref q_2, .null, .null, .null, .int 0, .null, .null, .null]))] H := hP
  have hD : va_D A [(h0, .inr (4, [.int 0, .int 2, .int 3, .int 0, .int 0, .ref q_1, .ref q_2, .null, .null, .null, .int 0, .null, .null, .null]))] := hD
  refine lv_aload_n hx hb d_PHyphens_init_32 rfl (lv_at hl 0 rfl) ?_
  refine lv_sipush (v := 301) hx hb d_PHyphens_init_33 (by decide) ?_
  refine ca_np (n := 301) (Nn := 301) (a0 := (301, .inl (fun _ => 0))) (q0 := 0) (ci := 4) (k := 7) (C := "ScholarsPress$Hyphens") (T := F_PHyphens) (N := 14) hx hb hts in_PHyphens t_PHyphens t_PHyphens_ok n_PHyphens hown k_408 rfl hK hP hD hS hA rfl rfl rfl (by decide) (hts (.fieldLink "ScholarsPress$Hyphens" 23 "ScholarsPress$Hyphens" "sizes" "[I") k_463) (fun _ h9 => h9) rfl hin rfl (by decide +kernel) (fun _ => rfl) (by decide) (by decide) (by decide) (Nat.le_of_ble_eq_true rfl) (Nat.le_of_ble_eq_true rfl) d_PHyphens_init_36 d_PHyphens_init_38 (fun q_3 H locs hP hD hS => ?_)
  have hP : va_P (dC, dI) classes [(h0, .inr (4, [.int 0, .int 2, .int 3, .int 0, .int 0, .ref q_1, .ref q_2, .ref q_3, .null, .null, .int 0, .null, .null, .null]))] H := hP
  have hD : va_D A [(h0, .inr (4, [.int 0, .int 2, .int 3, .int 0, .int 0, .ref q_1, .ref q_2, .ref q_3, .null, .null, .int 0, .null, .null, .null]))] := hD
  refine lv_aload_n hx hb d_PHyphens_init_41 rfl (lv_at hl 0 rfl) ?_
  refine lv_sipush (v := 300) hx hb d_PHyphens_init_42 (by decide) ?_
  refine ca_np (n := 300) (Nn := 300) (a0 := (300, .inl (fun _ => 0))) (q0 := 0) (ci := 4) (k := 8) (C := "ScholarsPress$Hyphens") (T := F_PHyphens) (N := 14) hx hb hts in_PHyphens t_PHyphens t_PHyphens_ok n_PHyphens hown k_408 rfl hK hP hD hS hA rfl rfl rfl (by decide) (hts (.fieldLink "ScholarsPress$Hyphens" 27 "ScholarsPress$Hyphens" "links" "[I") k_464) (fun _ h9 => h9) rfl hin rfl (by decide +kernel) (fun _ => rfl) (by decide) (by decide) (by decide) (Nat.le_of_ble_eq_true rfl) (Nat.le_of_ble_eq_true rfl) d_PHyphens_init_45 d_PHyphens_init_47 (fun q_4 H locs hP hD hS => ?_)
  have hP : va_P (dC, dI) classes [(h0, .inr (4, [.int 0, .int 2, .int 3, .int 0, .int 0, .ref q_1, .ref q_2, .ref q_3, .ref q_4, .null, .int 0, .null, .null, .null]))] H := hP
  have hD : va_D A [(h0, .inr (4, [.int 0, .int 2, .int 3, .int 0, .int 0, .ref q_1, .ref q_2, .ref q_3, .ref q_4, .null, .int 0, .null, .null, .null]))] := hD
  refine lv_aload_n hx hb d_PHyphens_init_50 rfl (lv_at hl 0 rfl) ?_
  refine lv_sipush (v := 128) hx hb d_PHyphens_init_51 (by decide) ?_
  refine va_newa (D := (dC, dI)) hx hb (atype := .int) (hts _ k_408) rfl hK hP hD hS hA (a0 := (128, .inl (fun _ => 0))) (n := 128) (fun _ => rfl) (by decide) (by decide) (by decide) (Nat.le_of_ble_eq_true rfl) (Nat.le_of_ble_eq_true rfl) d_PHyphens_init_54 (fun q_5 cA_6 H hK hP hD hS => ?_)
  have hP : va_P (dC, dI) classes [(h0, .inr (4, [.int 0, .int 2, .int 3, .int 0, .int 0, .ref q_1, .ref q_2, .ref q_3, .ref q_4, .null, .int 0, .null, .null, .null])), (q_5, .inl (cA_6, 128, .inl ((fun _ => 0))))] H := hP
  have hD : va_D A [(h0, .inr (4, [.int 0, .int 2, .int 3, .int 0, .int 0, .ref q_1, .ref q_2, .ref q_3, .ref q_4, .null, .int 0, .null, .null, .null])), (q_5, .inl (cA_6, 128, .inl ((fun _ => 0))))] := hD
  have hK : va_K (dC, dI) classes [(cA_6, .int)] s := hK
  refine va_putF (D := (dC, dI)) (ci := 4) (v := .ref q_5) (ty := .array .int) (C := "ScholarsPress$Hyphens") (T := F_PHyphens) (N := 14) hx hb hts in_PHyphens t_PHyphens t_PHyphens_ok n_PHyphens hown hK hP hD hS 0 rfl rfl 9 (by decide) (hts (.fieldLink "ScholarsPress$Hyphens" 30 "ScholarsPress$Hyphens" "heads" "[I") k_465) (fun _ h9 => h9) rfl hin rfl (by decide +kernel) rfl rfl (Nat.le_of_ble_eq_true rfl) d_PHyphens_init_56 (fun H locs hP hD hS => ?_)
  have hP : va_P (dC, dI) classes [(h0, .inr (4, [.int 0, .int 2, .int 3, .int 0, .int 0, .ref q_1, .ref q_2, .ref q_3, .ref q_4, .ref q_5, .int 0, .null, .null, .null])), (q_5, .inl (cA_6, 128, .inl ((fun _ => 0))))] H := hP
  have hD : va_D A [(h0, .inr (4, [.int 0, .int 2, .int 3, .int 0, .int 0, .ref q_1, .ref q_2, .ref q_3, .ref q_4, .ref q_5, .int 0, .null, .null, .null])), (q_5, .inl (cA_6, 128, .inl ((fun _ => 0))))] := hD
  refine lv_aload_n hx hb d_PHyphens_init_59 rfl (lv_at hl 0 rfl) ?_
  refine lv_sipush (v := 1830) hx hb d_PHyphens_init_60 (by decide) ?_
  refine ca_np (n := 1830) (Nn := 1830) (a0 := (1830, .inl (fun _ => 0))) (q0 := 0) (ci := 4) (k := 11) (C := "ScholarsPress$Hyphens") (T := F_PHyphens) (N := 14) hx hb hts in_PHyphens t_PHyphens t_PHyphens_ok n_PHyphens hown k_338 rfl hK hP hD hS hA rfl rfl rfl (by decide) (hts (.fieldLink "ScholarsPress$Hyphens" 33 "ScholarsPress$Hyphens" "letters" "[B") k_468) (fun _ h9 => h9) rfl hin rfl (by decide +kernel) (fun _ => rfl) (by decide) (by decide) (by decide) (Nat.le_of_ble_eq_true rfl) (Nat.le_of_ble_eq_true rfl) d_PHyphens_init_63 d_PHyphens_init_65 (fun q_7 H locs hP hD hS => ?_)
  have hP : va_P (dC, dI) classes [(h0, .inr (4, [.int 0, .int 2, .int 3, .int 0, .int 0, .ref q_1, .ref q_2, .ref q_3, .ref q_4, .ref q_5, .int 0, .ref q_7, .null, .null])), (q_5, .inl (cA_6, 128, .inl ((fun _ => 0))))] H := hP
  have hD : va_D A [(h0, .inr (4, [.int 0, .int 2, .int 3, .int 0, .int 0, .ref q_1, .ref q_2, .ref q_3, .ref q_4, .ref q_5, .int 0, .ref q_7, .null, .null])), (q_5, .inl (cA_6, 128, .inl ((fun _ => 0))))] := hD
  refine lv_aload_n hx hb d_PHyphens_init_68 rfl (lv_at hl 0 rfl) ?_
  refine lv_bipush (v := 61) hx hb d_PHyphens_init_69 (by decide) ?_
  refine ca_np (n := 61) (Nn := 61) (a0 := (61, .inl (fun _ => 0))) (q0 := 0) (ci := 4) (k := 12) (C := "ScholarsPress$Hyphens") (T := F_PHyphens) (N := 14) hx hb hts in_PHyphens t_PHyphens t_PHyphens_ok n_PHyphens hown k_408 rfl hK hP hD hS hA rfl rfl rfl (by decide) (hts (.fieldLink "ScholarsPress$Hyphens" 36 "ScholarsPress$Hyphens" "lengths" "[I") k_469) (fun _ h9 => h9) rfl hin rfl (by decide +kernel) (fun _ => rfl) (by decide) (by decide) (by decide) (Nat.le_of_ble_eq_true rfl) (Nat.le_of_ble_eq_true rfl) d_PHyphens_init_71 d_PHyphens_init_73 (fun q_8 H locs hP hD hS => ?_)
  have hP : va_P (dC, dI) classes [(h0, .inr (4, [.int 0, .int 2, .int 3, .int 0, .int 0, .ref q_1, .ref q_2, .ref q_3, .ref q_4, .ref q_5, .int 0, .ref q_7, .ref q_8, .null])), (q_5, .inl (cA_6, 128, .inl ((fun _ => 0))))] H := hP
  have hD : va_D A [(h0, .inr (4, [.int 0, .int 2, .int 3, .int 0, .int 0, .ref q_1, .ref q_2, .ref q_3, .ref q_4, .ref q_5, .int 0, .ref q_7, .ref q_8, .null])), (q_5, .inl (cA_6, 128, .inl ((fun _ => 0))))] := hD
  refine lv_aload_n hx hb d_PHyphens_init_76 rfl (lv_at hl 0 rfl) ?_
  refine lv_bipush (v := 61) hx hb d_PHyphens_init_77 (by decide) ?_
  refine ca_np (n := 61) (Nn := 61) (a0 := (61, .inl (fun _ => 0))) (q0 := 0) (ci := 4) (k := 13) (C := "ScholarsPress$Hyphens") (T := F_PHyphens) (N := 14) hx hb hts in_PHyphens t_PHyphens t_PHyphens_ok n_PHyphens hown k_408 rfl hK hP hD hS hA rfl rfl rfl (by decide) (hts (.fieldLink "ScholarsPress$Hyphens" 39 "ScholarsPress$Hyphens" "places" "[I") k_470) (fun _ h9 => h9) rfl hin rfl (by decide +kernel) (fun _ => rfl) (by decide) (by decide) (by decide) (Nat.le_of_ble_eq_true rfl) (Nat.le_of_ble_eq_true rfl) d_PHyphens_init_79 d_PHyphens_init_81 (fun q_9 H locs hP hD hS => ?_)
  have hP : va_P (dC, dI) classes [(h0, .inr (4, [.int 0, .int 2, .int 3, .int 0, .int 0, .ref q_1, .ref q_2, .ref q_3, .ref q_4, .ref q_5, .int 0, .ref q_7, .ref q_8, .ref q_9])), (q_5, .inl (cA_6, 128, .inl ((fun _ => 0))))] H := hP
  have hD : va_D A [(h0, .inr (4, [.int 0, .int 2, .int 3, .int 0, .int 0, .ref q_1, .ref q_2, .ref q_3, .ref q_4, .ref q_5, .int 0, .ref q_7, .ref q_8, .ref q_9])), (q_5, .inl (cA_6, 128, .inl ((fun _ => 0))))] := hD
  refine lv_aload_n hx hb d_PHyphens_init_84 rfl (lv_at hl 0 rfl) ?_
  refine va_get (D := (dC, dI)) (ci := 4) (v := .ref q_5) (C := "ScholarsPress$Hyphens") (T := F_PHyphens) (N := 14) hx hb hts in_PHyphens hown hK hP 0 rfl rfl 9 (by decide) (hts (.fieldLink "ScholarsPress$Hyphens" 30 "ScholarsPress$Hyphens" "heads" "[I") k_465) (fun _ h9 => h9) rfl d_PHyphens_init_85 ?_
  refine lv_iconst (v := (-1)) hx hb d_PHyphens_init_88 (by decide) ?_
  refine vi_v (wc := [(q_5, .inl (cA_6, 128, .inl ((fun _ => 0))))]) (wr := [(h0, .inr (4, [.int 0, .int 2, .int 3, .int 0, .int 0, .ref q_1, .ref q_2, .ref q_3, .ref q_4, .ref q_5, .int 0, .ref q_7, .ref q_8, .ref q_9]))]) (va_runS (As := [.ref q_5, .int ((-1))]) (rest := []) ⟨hx, hb, hml, hown, hts⟩ (c_Arrays_fill l dC dI q_5 cA_6 128 (fun _ => 0) (-1) H.size (by decide)) (va_cwS 2 hts (tt_S2 k_453 k_417 k_245 kw_Arrays_fill) rfl rfl rfl (by decide +kernel) ⟨Nat.le_of_ble_eq_true rfl, Nat.le_of_ble_eq_true rfl⟩) ⟨pr_blind, pr_pre hb0 (hP.sub [1] rfl) (hK.sub [0] rfl) (hD.sub [1] (by decide) rfl)⟩ rfl rfl hl.1 rfl (lv_room (Nat.le_of_ble_eq_true rfl)) d_PHyphens_init_89 ⟨Nat.le_of_ble_eq_true rfl, Nat.le_of_ble_eq_true rfl⟩) hP hD hK hS hA [1] [0] rfl rfl (by decide) (by decide) (fun u H locs hw hP hK hD hS => ?_)
  have hP : va_P (dC, dI) classes [(h0, .inr (4, [.int 0, .int 2, .int 3, .int 0, .int 0, .ref q_1, .ref q_2, .ref q_3, .ref q_4, .ref q_5, .int 0, .ref q_7, .ref q_8, .ref q_9])), (q_5, .inl (cA_6, 128, .inl u))] H := hP
  have hD : va_D A [(h0, .inr (4, [.int 0, .int 2, .int 3, .int 0, .int 0, .ref q_1, .ref q_2, .ref q_3, .ref q_4, .ref q_5, .int 0, .ref q_7, .ref q_8, .ref q_9])), (q_5, .inl (cA_6, 128, .inl u))] := hD
  have hK : va_K (dC, dI) classes [(cA_6, .int)] s := hK.sub [0] rfl
  have hP9 := hP.sub (ws' := [(h0, .inr (4, [.int 0, .int 2, .int 3, .int 0, .int 0, .ref q_1, .ref q_2, .ref q_3, .ref q_4, .ref q_5, .int 0, .ref q_7, .ref q_8, .ref q_9])), (q_5, .inl (cA_6, 128, .inl u))]) [0, 1] rfl
  have hD9 := hD.sub (ws' := [(h0, .inr (4, [.int 0, .int 2, .int 3, .int 0, .int 0, .ref q_1, .ref q_2, .ref q_3, .ref q_4, .ref q_5, .int 0, .ref q_7, .ref q_8, .ref q_9])), (q_5, .inl (cA_6, 128, .inl u))]) [0, 1] (by decide) rfl
  have hK9 := hK.sub (tys' := [(cA_6, .int)]) [0] rfl
  exact W.vret hx hb hr (fun t ht hW => ⟨⟨((fun k => match k with | 0 => q_1 | 1 => q_2 | 2 => q_3 | 3 => q_4 | 4 => q_5 | 5 => q_7 | 6 => q_8 | _ => q_9), u, (fun k => match k with | _ => cA_6)), rfl, hw, by rw [ht]; exact hP9, va_K.moved hW.alike hK9, hD9⟩, hS.F ht⟩) hS.2.2 d_PHyphens_init_92
set_option maxHeartbeats 4000000 in
set_option maxRecDepth 100000 in
/-- Source() -/
theorem c_PSource_init (l : Launch) (dC : Nat → ClassId) (dI : Nat → Nat → Nat) (h0 : Nat) (sz : Nat) : Met l y_PSource_init [w_PSource_init] ({ frames := 1, cells := 8, slots := 44848, locals := 20 }) (va_Pc [.ref h0] (pr sz (dC, dI) [(h0, .inr (5, [.null, .int 0, .null, .int 0, .int 0, .null, .null, .int 0, .null, .null, .int 0, .null, .null, .int 0, .int 0, .int 0, .int 0, .long 0, .int 0, .int 0]))] [])) (va_Qv (fun (u : (Nat → Nat) × (Nat → Int32) × (Nat → ClassId)) => True) (bw (dC, dI) (va_A [(h0, .inr (5, [.null, .int 0, .null, .int 0, .int 0, .null, .null, .int 0, .null, .null, .int 0, .null, .null, .int 0, .int 0, .int 0, .int 0, .long 0, .int 0, .int 0]))] sz) (fun u : (Nat → Nat) × (Nat → Int32) × (Nat → ClassId) => [(h0, .inr (5, [.ref (u.1 0), .int 0, .ref (u.1 1), .int 0, .int 0, .ref (u.1 2), .ref (u.1 3), .int 0, .ref (u.1 4), .ref (u.1 5), .int 0, .ref (u.1 6), .ref (u.1 7), .int 0, .int 0, .int 0, .int 0, .long 0, .int 0, .int 0])), ((u.1 0), .inl ((u.2.2 0), 16384, .inl ((fun _ => 0))))]) (fun u : (Nat → Nat) × (Nat → Int32) × (Nat → ClassId) => [((u.2.2 0), .byte)])) (va_A [(h0, .inr (5, [.null, .int 0, .null, .int 0, .int 0, .null, .null, .int 0, .null, .null, .int 0, .null, .null, .int 0, .int 0, .int 0, .int 0, .long 0, .int 0, .int 0]))] sz)) 8 44848 (va_A [(h0, .inr (5, [.null, .int 0, .null, .int 0, .int 0, .null, .null, .int 0, .null, .null, .int 0, .null, .null, .int 0, .int 0, .int 0, .int 0, .long 0, .int 0, .int 0]))] sz) := by
  refine Met.ofW (cc := b_PSource_init) (maxL := 1) (ret := none) (by decide) rfl ?_
  intro p e s m args below meth c s₁ B hml hv
  obtain ⟨rfl, hsz, hb0, hP, hK, hD0⟩ := hv
  have hx := B.exec
  have hb := B.bytes
  have hr := B.returns
  have hts : ∀ wq ∈ tt, wq.before ([.ref h0] : List Value).toArray s = true := hb0.hts
  have hown : s.vm.findClass "ScholarsPress$Source" = some m.cls := findClass_of_methodNamed B.named
  have hlocks := B.notSynchronized
  have hin : meth.name = "<init>" := (name_of_methodNamed B.named B.method).1
  subst hsz
  have hD := hD0.self (sz := s.heap.size)
  generalize hAe : va_A [(h0, .inr (5, [.null, .int 0, .null, .int 0, .int 0, .null, .null, .int 0, .null, .null, .int 0, .null, .null, .int 0, .int 0, .int 0, .int 0, .long 0, .int 0, .int 0]))] s.heap.size = A at hD ⊢
  have hA : ∀ q : Nat, s.heap.size ≤ q → A q := fun q h => by rw [← hAe]; exact Or.inr h
  have hS : va_S A s.heap s.heap [] := va_S.rf
  have hP : va_P (dC, dI) classes [(h0, .inr (5, [.null, .int 0, .null, .int 0, .int 0, .null, .null, .int 0, .null, .null, .int 0, .null, .null, .int 0, .int 0, .int 0, .int 0, .long 0, .int 0, .int 0]))] s.heap := hP
  have hl := lv_entry ([.ref h0]) (n := 1) (Nat.le_of_ble_eq_true rfl)
  rw [lg_entry_eq]
  generalize (lg_sl ([.ref h0]) ++ List.replicate (1 - (lg_sl ([.ref h0])).length) Slot.unset).toArray = ls at hl ⊢
  have hl : lv_has ls 1 [(0, .ref h0)] := hl
  refine lv_aload_n hx hb d_PSource_init_0 rfl (lv_at hl 0 rfl) ?_
  refine W.objInit hx hb hown (hts (.methodLink "ScholarsPress$Source" 3 objectInit) k_1212) (hts (.instanceMethod objectInit) k_289) (hts _ k_oi) rfl (by rw [hml]; exact hl.1) rfl d_PSource_init_1 (Nat.le_of_ble_eq_true rfl) (Nat.le_of_ble_eq_true rfl) ?_
  refine W.eq (g2 := F0 m 4 ls []) rfl ?_
  refine lv_aload_n hx hb d_PSource_init_4 rfl (lv_at hl 0 rfl) ?_
  refine lv_sipush (v := 16384) hx hb d_PSource_init_5 (by decide) ?_
  refine va_newa (D := (dC, dI)) hx hb (atype := .byte) (hts _ k_338) rfl hK hP hD hS hA (a0 := (16384, .inl (fun _ => 0))) (n := 16384) (fun _ => rfl) (by decide) (by decide) (by decide) (Nat.le_of_ble_eq_true rfl) (Nat.le_of_ble_eq_true rfl) d_PSource_init_8 (fun q_1 cA_2 H hK hP hD hS => ?_)
  have hP : va_P (dC, dI) classes [(h0, .inr (5, [.null, .int 0, .null, .int 0, .int 0, .null, .null, .int 0, .null, .null, .int 0, .null, .null, .int 0, .int 0, .int 0, .int 0, .long 0, .int 0, .int 0])), (q_1, .inl (cA_2, 16384, .inl ((fun _ => 0))))] H := hP
  have hD : va_D A [(h0, .inr (5, [.null, .int 0, .null, .int 0, .int 0, .null, .null, .int 0, .null, .null, .int 0, .null, .null, .int 0, .int 0, .int 0, .int 0, .long 0, .int 0, .int 0])), (q_1, .inl (cA_2, 16384, .inl ((fun _ => 0))))] := hD
  have hK : va_K (dC, dI) classes [(cA_2, .byte)] s := hK
  refine va_putF (D := (dC, dI)) (ci := 5) (v := .ref q_1) (ty := .array .byte) (C := "ScholarsPress$Source") (T := F_PSource) (N := 20) hx hb hts in_PSource t_PSource t_PSource_ok n_PSource hown hK hP hD hS 0 rfl rfl 0 (by decide) (hts (.fieldLink "ScholarsPress$Source" 9 "ScholarsPress$Source" "text" "[B") k_1213) (fun _ h9 => h9) rfl hin rfl (by decide +kernel) rfl rfl (Nat.le_of_ble_eq_true rfl) d_PSource_init_10 (fun H locs hP hD hS => ?_)
  have hP : va_P (dC, dI) classes [(h0, .inr (5, [.ref q_1, .int 0, .null, .int 0, .int 0, .null, .null, .int 0, .null, .null, .int 0, .null, .null, .int 0, .int 0, .int 0, .int 0, .long 0, .int 0, .int 0])), (q_1, .inl (cA_2, 16384, .inl ((fun _ => 0))))] H := hP
  have hD : va_D A [(h0, .inr (5, [.ref q_1, .int 0, .null, .int 0, .int 0, .null, .null, .int 0, .null, .null, .int 0, .null, .null, .int 0, .int 0, .int 0, .int 0, .long 0, .int 0, .int 0])), (q_1, .inl (cA_2, 16384, .inl ((fun _ => 0))))] := hD
  refine lv_aload_n hx hb d_PSource_init_13 rfl (lv_at hl 0 rfl) ?_
  refine lv_sipush (v := 16384) hx hb d_PSource_init_14 (by decide) ?_
  refine ca_np (n := 16384) (Nn := 16384) (a0 := (16384, .inl (fun _ => 0))) (q0 := 0) (ci := 5) (k := 2) (C := "ScholarsPress$Source") (T := F_PSource) (N := 20) hx hb hts in_PSource t_PSource t_PSource_ok n_PSource hown k_408 rfl hK hP hD hS hA rfl rfl rfl (by decide) (hts (.fieldLink "ScholarsPress$Source" 15 "ScholarsPress$Source" "stream" "[I") k_1221) (fun _ h9 => h9) rfl hin rfl (by decide +kernel) (fun _ => rfl) (by decide) (by decide) (by decide) (Nat.le_of_ble_eq_true rfl) (Nat.le_of_ble_eq_true rfl) d_PSource_init_17 d_PSource_init_19 (fun q_3 H locs hP hD hS => ?_)
  have hP : va_P (dC, dI) classes [(h0, .inr (5, [.ref q_1, .int 0, .ref q_3, .int 0, .int 0, .null, .null, .int 0, .null, .null, .int 0, .null, .null, .int 0, .int 0, .int 0, .int 0, .long 0, .int 0, .int 0])), (q_1, .inl (cA_2, 16384, .inl ((fun _ => 0))))] H := hP
  have hD : va_D A [(h0, .inr (5, [.ref q_1, .int 0, .ref q_3, .int 0, .int 0, .null, .null, .int 0, .null, .null, .int 0, .null, .null, .int 0, .int 0, .int 0, .int 0, .long 0, .int 0, .int 0])), (q_1, .inl (cA_2, 16384, .inl ((fun _ => 0))))] := hD
  refine lv_aload_n hx hb d_PSource_init_22 rfl (lv_at hl 0 rfl) ?_
  refine lv_sipush (v := 500) hx hb d_PSource_init_23 (by decide) ?_
  refine ca_np (n := 500) (Nn := 500) (a0 := (500, .inr (.inl (fun _ => 0)))) (q0 := 0) (ci := 5) (k := 5) (C := "ScholarsPress$Source") (T := F_PSource) (N := 20) hx hb hts in_PSource t_PSource t_PSource_ok n_PSource hown k_409 rfl hK hP hD hS hA rfl rfl rfl (by decide) (hts (.fieldLink "ScholarsPress$Source" 19 "ScholarsPress$Source" "names" "[J") k_1231) (fun _ h9 => h9) rfl hin rfl (by decide +kernel) (fun _ => rfl) (by decide) (by decide) (by decide) (Nat.le_of_ble_eq_true rfl) (Nat.le_of_ble_eq_true rfl) d_PSource_init_26 d_PSource_init_28 (fun q_4 H locs hP hD hS => ?_)
  have hP : va_P (dC, dI) classes [(h0, .inr (5, [.ref q_1, .int 0, .ref q_3, .int 0, .int 0, .ref q_4, .null, .int 0, .null, .null, .int 0, .null, .null, .int 0, .int 0, .int 0, .int 0, .long 0, .int 0, .int 0])), (q_1, .inl (cA_2, 16384, .inl ((fun _ => 0))))] H := hP
  have hD : va_D A [(h0, .inr (5, [.ref q_1, .int 0, .ref q_3, .int 0, .int 0, .ref q_4, .null, .int 0, .null, .null, .int 0, .null, .null, .int 0, .int 0, .int 0, .int 0, .long 0, .int 0, .int 0])), (q_1, .inl (cA_2, 16384, .inl ((fun _ => 0))))] := hD
  refine lv_aload_n hx hb d_PSource_init_31 rfl (lv_at hl 0 rfl) ?_
  refine lv_sipush (v := 5500) hx hb d_PSource_init_32 (by decide) ?_
  refine ca_np (n := 5500) (Nn := 5500) (a0 := (5500, .inl (fun _ => 0))) (q0 := 0) (ci := 5) (k := 6) (C := "ScholarsPress$Source") (T := F_PSource) (N := 20) hx hb hts in_PSource t_PSource t_PSource_ok n_PSource hown k_408 rfl hK hP hD hS hA rfl rfl rfl (by decide) (hts (.fieldLink "ScholarsPress$Source" 23 "ScholarsPress$Source" "facts" "[I") k_1233) (fun _ h9 => h9) rfl hin rfl (by decide +kernel) (fun _ => rfl) (by decide) (by decide) (by decide) (Nat.le_of_ble_eq_true rfl) (Nat.le_of_ble_eq_true rfl) d_PSource_init_35 d_PSource_init_37 (fun q_5 H locs hP hD hS => ?_)
  have hP : va_P (dC, dI) classes [(h0, .inr (5, [.ref q_1, .int 0, .ref q_3, .int 0, .int 0, .ref q_4, .ref q_5, .int 0, .null, .null, .int 0, .null, .null, .int 0, .int 0, .int 0, .int 0, .long 0, .int 0, .int 0])), (q_1, .inl (cA_2, 16384, .inl ((fun _ => 0))))] H := hP
  have hD : va_D A [(h0, .inr (5, [.ref q_1, .int 0, .ref q_3, .int 0, .int 0, .ref q_4, .ref q_5, .int 0, .null, .null, .int 0, .null, .null, .int 0, .int 0, .int 0, .int 0, .long 0, .int 0, .int 0])), (q_1, .inl (cA_2, 16384, .inl ((fun _ => 0))))] := hD
  refine lv_aload_n hx hb d_PSource_init_40 rfl (lv_at hl 0 rfl) ?_
  refine lv_sipush (v := 3000) hx hb d_PSource_init_41 (by decide) ?_
  refine ca_np (n := 3000) (Nn := 3000) (a0 := (3000, .inr (.inl (fun _ => 0)))) (q0 := 0) (ci := 5) (k := 8) (C := "ScholarsPress$Source") (T := F_PSource) (N := 20) hx hb hts in_PSource t_PSource t_PSource_ok n_PSource hown k_409 rfl hK hP hD hS hA rfl rfl rfl (by decide) (hts (.fieldLink "ScholarsPress$Source" 26 "ScholarsPress$Source" "fieldNames" "[J") k_1235) (fun _ h9 => h9) rfl hin rfl (by decide +kernel) (fun _ => rfl) (by decide) (by decide) (by decide) (Nat.le_of_ble_eq_true rfl) (Nat.le_of_ble_eq_true rfl) d_PSource_init_44 d_PSource_init_46 (fun q_6 H locs hP hD hS => ?_)
  have hP : va_P (dC, dI) classes [(h0, .inr (5, [.ref q_1, .int 0, .ref q_3, .int 0, .int 0, .ref q_4, .ref q_5, .int 0, .ref q_6, .null, .int 0, .null, .null, .int 0, .int 0, .int 0, .int 0, .long 0, .int 0, .int 0])), (q_1, .inl (cA_2, 16384, .inl ((fun _ => 0))))] H := hP
  have hD : va_D A [(h0, .inr (5, [.ref q_1, .int 0, .ref q_3, .int 0, .int 0, .ref q_4, .ref q_5, .int 0, .ref q_6, .null, .int 0, .null, .null, .int 0, .int 0, .int 0, .int 0, .long 0, .int 0, .int 0])), (q_1, .inl (cA_2, 16384, .inl ((fun _ => 0))))] := hD
  refine lv_aload_n hx hb d_PSource_init_49 rfl (lv_at hl 0 rfl) ?_
  refine lv_sipush (v := 3000) hx hb d_PSource_init_50 (by decide) ?_
  refine ca_np (n := 3000) (Nn := 3000) (a0 := (3000, .inl (fun _ => 0))) (q0 := 0) (ci := 5) (k := 9) (C := "ScholarsPress$Source") (T := F_PSource) (N := 20) hx hb hts in_PSource t_PSource t_PSource_ok n_PSource hown k_408 rfl hK hP hD hS hA rfl rfl rfl (by decide) (hts (.fieldLink "ScholarsPress$Source" 29 "ScholarsPress$Source" "fieldSpans" "[I") k_1236) (fun _ h9 => h9) rfl hin rfl (by decide +kernel) (fun _ => rfl) (by decide) (by decide) (by decide) (Nat.le_of_ble_eq_true rfl) (Nat.le_of_ble_eq_true rfl) d_PSource_init_53 d_PSource_init_55 (fun q_7 H locs hP hD hS => ?_)
  have hP : va_P (dC, dI) classes [(h0, .inr (5, [.ref q_1, .int 0, .ref q_3, .int 0, .int 0, .ref q_4, .ref q_5, .int 0, .ref q_6, .ref q_7, .int 0, .null, .null, .int 0, .int 0, .int 0, .int 0, .long 0, .int 0, .int 0])), (q_1, .inl (cA_2, 16384, .inl ((fun _ => 0))))] H := hP
  have hD : va_D A [(h0, .inr (5, [.ref q_1, .int 0, .ref q_3, .int 0, .int 0, .ref q_4, .ref q_5, .int 0, .ref q_6, .ref q_7, .int 0, .null, .null, .int 0, .int 0, .int 0, .int 0, .long 0, .int 0, .int 0])), (q_1, .inl (cA_2, 16384, .inl ((fun _ => 0))))] := hD
  refine lv_aload_n hx hb d_PSource_init_58 rfl (lv_at hl 0 rfl) ?_
  refine lv_bipush (v := 40) hx hb d_PSource_init_59 (by decide) ?_
  refine ca_np (n := 40) (Nn := 40) (a0 := (40, .inr (.inl (fun _ => 0)))) (q0 := 0) (ci := 5) (k := 11) (C := "ScholarsPress$Source") (T := F_PSource) (N := 20) hx hb hts in_PSource t_PSource t_PSource_ok n_PSource hown k_409 rfl hK hP hD hS hA rfl rfl rfl (by decide) (hts (.fieldLink "ScholarsPress$Source" 32 "ScholarsPress$Source" "entityNames" "[J") k_1241) (fun _ h9 => h9) rfl hin rfl (by decide +kernel) (fun _ => rfl) (by decide) (by decide) (by decide) (Nat.le_of_ble_eq_true rfl) (Nat.le_of_ble_eq_true rfl) d_PSource_init_61 d_PSource_init_63 (fun q_8 H locs hP hD hS => ?_)
  have hP : va_P (dC, dI) classes [(h0, .inr (5, [.ref q_1, .int 0, .ref q_3, .int 0, .int 0, .ref q_4, .ref q_5, .int 0, .ref q_6, .ref q_7, .int 0, .ref q_8, .null, .int 0, .int 0, .int 0, .int 0, .long 0, .int 0, .int 0])), (q_1, .inl (cA_2, 16384, .inl ((fun _ => 0))))] H := hP
  have hD : va_D A [(h0, .inr (5, [.ref q_1, .int 0, .ref q_3, .int 0, .int 0, .ref q_4, .ref q_5, .int 0, .ref q_6, .ref q_7, .int 0, .ref q_8, .null, .int 0, .int 0, .int 0, .int 0, .long 0, .int 0, .int 0])), (q_1, .inl (cA_2, 16384, .inl ((fun _ => 0))))] := hD
  refine lv_aload_n hx hb d_PSource_init_66 rfl (lv_at hl 0 rfl) ?_
  refine lv_bipush (v := 40) hx hb d_PSource_init_67 (by decide) ?_
  refine ca_np (n := 40) (Nn := 40) (a0 := (40, .inl (fun _ => 0))) (q0 := 0) (ci := 5) (k := 12) (C := "ScholarsPress$Source") (T := F_PSource) (N := 20) hx hb hts in_PSource t_PSource t_PSource_ok n_PSource hown k_408 rfl hK hP hD hS hA rfl rfl rfl (by decide) (hts (.fieldLink "ScholarsPress$Source" 35 "ScholarsPress$Source" "entitySpans" "[I") k_1242) (fun _ h9 => h9) rfl hin rfl (by decide +kernel) (fun _ => rfl) (by decide) (by decide) (by decide) (Nat.le_of_ble_eq_true rfl) (Nat.le_of_ble_eq_true rfl) d_PSource_init_69 d_PSource_init_71 (fun q_9 H locs hP hD hS => ?_)
  have hP : va_P (dC, dI) classes [(h0, .inr (5, [.ref q_1, .int 0, .ref q_3, .int 0, .int 0, .ref q_4, .ref q_5, .int 0, .ref q_6, .ref q_7, .int 0, .ref q_8, .ref q_9, .int 0, .int 0, .int 0, .int 0, .long 0, .int 0, .int 0])), (q_1, .inl (cA_2, 16384, .inl ((fun _ => 0))))] H := hP
  have hD : va_D A [(h0, .inr (5, [.ref q_1, .int 0, .ref q_3, .int 0, .int 0, .ref q_4, .ref q_5, .int 0, .ref q_6, .ref q_7, .int 0, .ref q_8, .ref q_9, .int 0, .int 0, .int 0, .int 0, .long 0, .int 0, .int 0])), (q_1, .inl (cA_2, 16384, .inl ((fun _ => 0))))] := hD
  have hP9 := hP.sub (ws' := [(h0, .inr (5, [.ref q_1, .int 0, .ref q_3, .int 0, .int 0, .ref q_4, .ref q_5, .int 0, .ref q_6, .ref q_7, .int 0, .ref q_8, .ref q_9, .int 0, .int 0, .int 0, .int 0, .long 0, .int 0, .int 0])), (q_1, .inl (cA_2, 16384, .inl ((fun _ => 0))))]) [0, 1] rfl
  have hD9 := hD.sub (ws' := [(h0, .inr (5, [.ref q_1, .int 0, .ref q_3, .int 0, .int 0, .ref q_4, .ref q_5, .int 0, .ref q_6, .ref q_7, .int 0, .ref q_8, .ref q_9, .int 0, .int 0, .int 0, .int 0, .long 0, .int 0, .int 0])), (q_1, .inl (cA_2, 16384, .inl ((fun _ => 0))))]) [0, 1] (by decide) rfl
  have hK9 := hK.sub (tys' := [(cA_2, .byte)]) [0] rfl
  exact W.vret hx hb hr (fun t ht hW => ⟨⟨((fun k => match k with | 0 => q_1 | 1 => q_3 | 2 => q_4 | 3 => q_5 | 4 => q_6 | 5 => q_7 | 6 => q_8 | _ => q_9), (fun _ => 0), (fun k => match k with | _ => cA_2)), rfl, trivial, by rw [ht]; exact hP9, va_K.moved hW.alike hK9, hD9⟩, hS.F ht⟩) hS.2.2 d_PSource_init_74
set_option maxHeartbeats 4000000 in
set_option maxRecDepth 100000 in
/-- Signs() -/
theorem c_MSigns_init (l : Launch) (dC : Nat → ClassId) (dI : Nat → Nat → Nat) (h0 : Nat) (sz : Nat) : Met l y_MSigns_init [w_MSigns_init] ({ frames := 1, cells := 0, slots := 0, locals := 20 }) (va_Pc [.ref h0] (pr sz (dC, dI) [(h0, .inr (8, [.null, .int 0, .int 0, .int 0, .int 0, .int 0, .int 0, .int 0]))] [])) (va_Qv (fun (u : (Nat → Nat) × (Nat → Int32) × (Nat → ClassId)) => True) (bw (dC, dI) (va_A [(h0, .inr (8, [.null, .int 0, .int 0, .int 0, .int 0, .int 0, .int 0, .int 0]))] sz) (fun u : (Nat → Nat) × (Nat → Int32) × (Nat → ClassId) => [(h0, .inr (8, [.null, .int 0, .int 0, .int 0, .int 0, .int 0, .int 0, .int 0]))]) (fun u : (Nat → Nat) × (Nat → Int32) × (Nat → ClassId) => [])) (va_A [(h0, .inr (8, [.null, .int 0, .int 0, .int 0, .int 0, .int 0, .int 0, .int 0]))] sz)) 0 0 (va_A [(h0, .inr (8, [.null, .int 0, .int 0, .int 0, .int 0, .int 0, .int 0, .int 0]))] sz) := by
  refine Met.ofW (cc := b_MSigns_init) (maxL := 1) (ret := none) (by decide) rfl ?_
  intro p e s m args below meth c s₁ B hml hv
  obtain ⟨rfl, hsz, hb0, hP, hK, hD0⟩ := hv
  have hx := B.exec
  have hb := B.bytes
  have hr := B.returns
  have hts : ∀ wq ∈ tt, wq.before ([.ref h0] : List Value).toArray s = true := hb0.hts
  have hown : s.vm.findClass "ScholarsPressModel$Signs" = some m.cls := findClass_of_methodNamed B.named
  have hlocks := B.notSynchronized
  have hin : meth.name = "<init>" := (name_of_methodNamed B.named B.method).1
  subst hsz
  have hD := hD0.self (sz := s.heap.size)
  generalize hAe : va_A [(h0, .inr (8, [.null, .int 0, .int 0, .int 0, .int 0, .int 0, .int 0, .int 0]))] s.heap.size = A at hD ⊢
  have hA : ∀ q : Nat, s.heap.size ≤ q → A q := fun q h => by rw [← hAe]; exact Or.inr h
  have hS : va_S A s.heap s.heap [] := va_S.rf
  have hP : va_P (dC, dI) classes [(h0, .inr (8, [.null, .int 0, .int 0, .int 0, .int 0, .int 0, .int 0, .int 0]))] s.heap := hP
  have hl := lv_entry ([.ref h0]) (n := 1) (Nat.le_of_ble_eq_true rfl)
  rw [lg_entry_eq]
  generalize (lg_sl ([.ref h0]) ++ List.replicate (1 - (lg_sl ([.ref h0])).length) Slot.unset).toArray = ls at hl ⊢
  have hl : lv_has ls 1 [(0, .ref h0)] := hl
  refine lv_aload_n hx hb d_MSigns_init_0 rfl (lv_at hl 0 rfl) ?_
  refine W.objInit hx hb hown (hts (.methodLink "ScholarsPressModel$Signs" 1 objectInit) k_2716) (hts (.instanceMethod objectInit) k_289) (hts _ k_oi) rfl (by rw [hml]; exact hl.1) rfl d_MSigns_init_1 (Nat.le_of_ble_eq_true rfl) (Nat.le_of_ble_eq_true rfl) ?_
  refine W.eq (g2 := F0 m 4 ls []) rfl ?_
  have hP9 := hP.sub (ws' := [(h0, .inr (8, [.null, .int 0, .int 0, .int 0, .int 0, .int 0, .int 0, .int 0]))]) [0] rfl
  have hD9 := hD.sub (ws' := [(h0, .inr (8, [.null, .int 0, .int 0, .int 0, .int 0, .int 0, .int 0, .int 0]))]) [0] (by decide) rfl
  have hK9 := hK.sub (tys' := []) [] rfl
  exact W.vret hx hb hr (fun t ht hW => ⟨⟨((fun _ => 0), (fun _ => 0), (fun _ => 0)), rfl, trivial, by rw [ht]; exact hP9, va_K.moved hW.alike hK9, hD9⟩, hS.F ht⟩) hS.2.2 d_MSigns_init_4
set_option maxHeartbeats 4000000 in
set_option maxRecDepth 100000 in
/-- Parting() -/
theorem c_MParting_init (l : Launch) (dC : Nat → ClassId) (dI : Nat → Nat → Nat) (h0 : Nat) (sz : Nat) : Met l y_MParting_init [w_MParting_init] ({ frames := 1, cells := 9, slots := 13212, locals := 20 }) (va_Pc [.ref h0] (pr sz (dC, dI) [(h0, .inr (9, [.int 0, .int 0, .int 0, .int 0, .null, .null, .null, .null, .null, .null, .null, .null, .int 0, .null]))] [])) (va_Qv (fun (u : (Nat → Nat) × (Nat → Int32) × (Nat → ClassId)) => True) (bw (dC, dI) (va_A [(h0, .inr (9, [.int 0, .int 0, .int 0, .int 0, .null, .null, .null, .null, .null, .null, .null, .null, .int 0, .null]))] sz) (fun u : (Nat → Nat) × (Nat → Int32) × (Nat → ClassId) => [(h0, .inr (9, [.int 2, .int 3, .int 0, .int 0, .ref (u.1 0), .ref (u.1 1), .ref (u.1 2), .ref (u.1 3), .ref (u.1 4), .ref (u.1 5), .ref (u.1 6), .ref (u.1 7), .int 0, .ref (u.1 8)]))]) (fun u : (Nat → Nat) × (Nat → Int32) × (Nat → ClassId) => [])) (va_A [(h0, .inr (9, [.int 0, .int 0, .int 0, .int 0, .null, .null, .null, .null, .null, .null, .null, .null, .int 0, .null]))] sz)) 9 13212 (va_A [(h0, .inr (9, [.int 0, .int 0, .int 0, .int 0, .null, .null, .null, .null, .null, .null, .null, .null, .int 0, .null]))] sz) := by
  refine Met.ofW (cc := b_MParting_init) (maxL := 1) (ret := none) (by decide) rfl ?_
  intro p e s m args below meth c s₁ B hml hv
  obtain ⟨rfl, hsz, hb0, hP, hK, hD0⟩ := hv
  have hx := B.exec
  have hb := B.bytes
  have hr := B.returns
  have hts : ∀ wq ∈ tt, wq.before ([.ref h0] : List Value).toArray s = true := hb0.hts
  have hown : s.vm.findClass "ScholarsPressModel$Parting" = some m.cls := findClass_of_methodNamed B.named
  have hlocks := B.notSynchronized
  have hin : meth.name = "<init>" := (name_of_methodNamed B.named B.method).1
  subst hsz
  have hD := hD0.self (sz := s.heap.size)
  generalize hAe : va_A [(h0, .inr (9, [.int 0, .int 0, .int 0, .int 0, .null, .null, .null, .null, .null, .null, .null, .null, .int 0, .null]))] s.heap.size = A at hD ⊢
  have hA : ∀ q : Nat, s.heap.size ≤ q → A q := fun q h => by rw [← hAe]; exact Or.inr h
  have hS : va_S A s.heap s.heap [] := va_S.rf
  have hP : va_P (dC, dI) classes [(h0, .inr (9, [.int 0, .int 0, .int 0, .int 0, .null, .null, .null, .null, .null, .null, .null, .null, .int 0, .null]))] s.heap := hP
  have hl := lv_entry ([.ref h0]) (n := 1) (Nat.le_of_ble_eq_true rfl)
  rw [lg_entry_eq]
  generalize (lg_sl ([.ref h0]) ++ List.replicate (1 - (lg_sl ([.ref h0])).length) Slot.unset).toArray = ls at hl ⊢
  have hl : lv_has ls 1 [(0, .ref h0)] := hl
  refine lv_aload_n hx hb d_MParting_init_0 rfl (lv_at hl 0 rfl) ?_
  refine W.objInit hx hb hown (hts (.methodLink "ScholarsPressModel$Parting" 1 objectInit) k_2788) (hts (.instanceMethod objectInit) k_289) (hts _ k_oi) rfl (by rw [hml]; exact hl.1) rfl d_MParting_init_1 (Nat.le_of_ble_eq_true rfl) (Nat.le_of_ble_eq_true rfl) ?_
  refine W.eq (g2 := F0 m 4 ls []) rfl ?_
  refine lv_aload_n hx hb d_MParting_init_4 rfl (lv_at hl 0 rfl) ?_
  refine lv_iconst (v := 2) hx hb d_MParting_init_5 (by decide) ?_
  refine va_put (D := (dC, dI)) (ci := 9) (v := .int 2) (ty := .int) (C := "ScholarsPressModel$Parting") (T := F_MParting) (N := 14) hx hb hts in_MParting t_MParting t_MParting_ok n_MParting hown hK hP hD hS 0 rfl rfl 0 (by decide) (hts (.fieldLink "ScholarsPressModel$Parting" 7 "ScholarsPressModel$Parting" "ahead" "I") k_2789) (fun _ h9 => h9) rfl (by decide +kernel) rfl rfl (Nat.le_of_ble_eq_true rfl) d_MParting_init_6 (fun H locs hP hD hS => ?_)
  have hP : va_P (dC, dI) classes [(h0, .inr (9, [.int 2, .int 0, .int 0, .int 0, .null, .null, .null, .null, .null, .null, .null, .null, .int 0, .null]))] H := hP
  have hD : va_D A [(h0, .inr (9, [.int 2, .int 0, .int 0, .int 0, .null, .null, .null, .null, .null, .null, .null, .null, .int 0, .null]))] := hD
  refine lv_aload_n hx hb d_MParting_init_9 rfl (lv_at hl 0 rfl) ?_
  refine lv_iconst (v := 3) hx hb d_MParting_init_10 (by decide) ?_
  refine va_put (D := (dC, dI)) (ci := 9) (v := .int 3) (ty := .int) (C := "ScholarsPressModel$Parting") (T := F_MParting) (N := 14) hx hb hts in_MParting t_MParting t_MParting_ok n_MParting hown hK hP hD hS 0 rfl rfl 1 (by decide) (hts (.fieldLink "ScholarsPressModel$Parting" 13 "ScholarsPressModel$Parting" "behind" "I") k_2790) (fun _ h9 => h9) rfl (by decide +kernel) rfl rfl (Nat.le_of_ble_eq_true rfl) d_MParting_init_11 (fun H locs hP hD hS => ?_)
  have hP : va_P (dC, dI) classes [(h0, .inr (9, [.int 2, .int 3, .int 0, .int 0, .null, .null, .null, .null, .null, .null, .null, .null, .int 0, .null]))] H := hP
  have hD : va_D A [(h0, .inr (9, [.int 2, .int 3, .int 0, .int 0, .null, .null, .null, .null, .null, .null, .null, .null, .int 0, .null]))] := hD
  refine lv_aload_n hx hb d_MParting_init_14 rfl (lv_at hl 0 rfl) ?_
  refine lv_sipush (v := 4200) hx hb d_MParting_init_15 (by decide) ?_
  refine ca_np (n := 4200) (Nn := 4200) (a0 := (4200, .inl (fun _ => 0))) (q0 := 0) (ci := 9) (k := 4) (C := "ScholarsPressModel$Parting") (T := F_MParting) (N := 14) hx hb hts in_MParting t_MParting t_MParting_ok n_MParting hown k_338 rfl hK hP hD hS hA rfl rfl rfl (by decide) (hts (.fieldLink "ScholarsPressModel$Parting" 16 "ScholarsPressModel$Parting" "sign" "[B") k_2795) (fun _ h9 => h9) rfl hin rfl (by decide +kernel) (fun _ => rfl) (by decide) (by decide) (by decide) (Nat.le_of_ble_eq_true rfl) (Nat.le_of_ble_eq_true rfl) d_MParting_init_18 d_MParting_init_20 (fun q_1 H locs hP hD hS => ?_)
  have hP : va_P (dC, dI) classes [(h0, .inr (9, [.int 2, .int 3, .int 0, .int 0, .ref q_1, .null, .null, .null, .null, .null, .null, .null, .int 0, .null]))] H := hP
  have hD : va_D A [(h0, .inr (9, [.int 2, .int 3, .int 0, .int 0, .ref q_1, .null, .null, .null, .null, .null, .null, .null, .int 0, .null]))] := hD
  refine lv_aload_n hx hb d_MParting_init_23 rfl (lv_at hl 0 rfl) ?_
  refine lv_sipush (v := 300) hx hb d_MParting_init_24 (by decide) ?_
  refine ca_np (n := 300) (Nn := 300) (a0 := (300, .inl (fun _ => 0))) (q0 := 0) (ci := 9) (k := 5) (C := "ScholarsPressModel$Parting") (T := F_MParting) (N := 14) hx hb hts in_MParting t_MParting t_MParting_ok n_MParting hown k_408 rfl hK hP hD hS hA rfl rfl rfl (by decide) (hts (.fieldLink "ScholarsPressModel$Parting" 20 "ScholarsPressModel$Parting" "signs" "[I") k_2796) (fun _ h9 => h9) rfl hin rfl (by decide +kernel) (fun _ => rfl) (by decide) (by decide) (by decide) (Nat.le_of_ble_eq_true rfl) (Nat.le_of_ble_eq_true rfl) d_MParting_init_27 d_MParting_init_29 (fun q_2 H locs hP hD hS => ?_)
  have hP : va_P (dC, dI) classes [(h0, .inr (9, [.int 2, .int 3, .int 0, .int 0, .ref q_1, .ref q_2, .null, .null, .null, .null, .null, .null, .int 0, .null]))] H := hP
  have hD : va_D A [(h0, .inr (9, [.int 2, .int 3, .int 0, .int 0, .ref q_1, .ref q_2, .null, .null, .null, .null, .null, .null, .int 0, .null]))] := hD
  refine lv_aload_n hx hb d_MParting_init_32 rfl (lv_at hl 0 rfl) ?_
  refine lv_sipush (v := 4800) hx hb d_MParting_init_33 (by decide) ?_
  refine ca_np (n := 4800) (Nn := 4800) (a0 := (4800, .inl (fun _ => 0))) (q0 := 0) (ci := 9) (k := 6) (C := "ScholarsPressModel$Parting") (T := F_MParting) (N := 14) hx hb hts in_MParting t_MParting t_MParting_ok n_MParting hown k_338 rfl hK hP hD hS hA rfl rfl rfl (by decide) (hts (.fieldLink "ScholarsPressModel$Parting" 24 "ScholarsPressModel$Parting" "digit" "[B") k_2797) (fun _ h9 => h9) rfl hin rfl (by decide +kernel) (fun _ => rfl) (by decide) (by decide) (by decide) (Nat.le_of_ble_eq_true rfl) (Nat.le_of_ble_eq_true rfl) d_MParting_init_36 d_MParting_init_38 (fun q_3 H locs hP hD hS => ?_)
  have hP : va_P (dC, dI) classes [(h0, .inr (9, [.int 2, .int 3, .int 0, .int 0, .ref q_1, .ref q_2, .ref q_3, .null, .null, .null, .null, .null, .int 0, .null]))] H := hP
  have hD : va_D A [(h0, .inr (9, [.int 2, .int 3, .int 0, .int 0, .ref q_1, .ref q_2, .ref q_3, .null, .null, .null, .null, .null, .int 0, .null]))] := hD
  refine lv_aload_n hx hb d_MParting_init_41 rfl (lv_at hl 0 rfl) ?_
  refine lv_sipush (v := 1800) hx hb d_MParting_init_42 (by decide) ?_
  refine ca_np (n := 1800) (Nn := 1800) (a0 := (1800, .inl (fun _ => 0))) (q0 := 0) (ci := 9) (k := 7) (C := "ScholarsPressModel$Parting") (T := F_MParting) (N := 14) hx hb hts in_MParting t_MParting t_MParting_ok n_MParting hown k_338 rfl hK hP hD hS hA rfl rfl rfl (by decide) (hts (.fieldLink "ScholarsPressModel$Parting" 27 "ScholarsPressModel$Parting" "letter" "[B") k_2798) (fun _ h9 => h9) rfl hin rfl (by decide +kernel) (fun _ => rfl) (by decide) (by decide) (by decide) (Nat.le_of_ble_eq_true rfl) (Nat.le_of_ble_eq_true rfl) d_MParting_init_45 d_MParting_init_47 (fun q_4 H locs hP hD hS => ?_)
  have hP : va_P (dC, dI) classes [(h0, .inr (9, [.int 2, .int 3, .int 0, .int 0, .ref q_1, .ref q_2, .ref q_3, .ref q_4, .null, .null, .null, .null, .int 0, .null]))] H := hP
  have hD : va_D A [(h0, .inr (9, [.int 2, .int 3, .int 0, .int 0, .ref q_1, .ref q_2, .ref q_3, .ref q_4, .null, .null, .null, .null, .int 0, .null]))] := hD
  refine lv_aload_n hx hb d_MParting_init_50 rfl (lv_at hl 0 rfl) ?_
  refine lv_bipush (v := 60) hx hb d_MParting_init_51 (by decide) ?_
  refine ca_np (n := 60) (Nn := 60) (a0 := (60, .inl (fun _ => 0))) (q0 := 0) (ci := 9) (k := 8) (C := "ScholarsPressModel$Parting") (T := F_MParting) (N := 14) hx hb hts in_MParting t_MParting t_MParting_ok n_MParting hown k_408 rfl hK hP hD hS hA rfl rfl rfl (by decide) (hts (.fieldLink "ScholarsPressModel$Parting" 30 "ScholarsPressModel$Parting" "long_" "[I") k_2799) (fun _ h9 => h9) rfl hin rfl (by decide +kernel) (fun _ => rfl) (by decide) (by decide) (by decide) (Nat.le_of_ble_eq_true rfl) (Nat.le_of_ble_eq_true rfl) d_MParting_init_53 d_MParting_init_55 (fun q_5 H locs hP hD hS => ?_)
  have hP : va_P (dC, dI) classes [(h0, .inr (9, [.int 2, .int 3, .int 0, .int 0, .ref q_1, .ref q_2, .ref q_3, .ref q_4, .ref q_5, .null, .null, .null, .int 0, .null]))] H := hP
  have hD : va_D A [(h0, .inr (9, [.int 2, .int 3, .int 0, .int 0, .ref q_1, .ref q_2, .ref q_3, .ref q_4, .ref q_5, .null, .null, .null, .int 0, .null]))] := hD
  refine lv_aload_n hx hb d_MParting_init_58 rfl (lv_at hl 0 rfl) ?_
  refine lv_sipush (v := 1860) hx hb d_MParting_init_59 (by decide) ?_
  refine ca_np (n := 1860) (Nn := 1860) (a0 := (1860, .inl (fun _ => 0))) (q0 := 0) (ci := 9) (k := 9) (C := "ScholarsPressModel$Parting") (T := F_MParting) (N := 14) hx hb hts in_MParting t_MParting t_MParting_ok n_MParting hown k_446 rfl hK hP hD hS hA rfl rfl rfl (by decide) (hts (.fieldLink "ScholarsPressModel$Parting" 33 "ScholarsPressModel$Parting" "mark" "[Z") k_2800) (fun _ h9 => h9) rfl hin rfl (by decide +kernel) (fun _ => rfl) (by decide) (by decide) (by decide) (Nat.le_of_ble_eq_true rfl) (Nat.le_of_ble_eq_true rfl) d_MParting_init_62 d_MParting_init_64 (fun q_6 H locs hP hD hS => ?_)
  have hP : va_P (dC, dI) classes [(h0, .inr (9, [.int 2, .int 3, .int 0, .int 0, .ref q_1, .ref q_2, .ref q_3, .ref q_4, .ref q_5, .ref q_6, .null, .null, .int 0, .null]))] H := hP
  have hD : va_D A [(h0, .inr (9, [.int 2, .int 3, .int 0, .int 0, .ref q_1, .ref q_2, .ref q_3, .ref q_4, .ref q_5, .ref q_6, .null, .null, .int 0, .null]))] := hD
  refine lv_aload_n hx hb d_MParting_init_67 rfl (lv_at hl 0 rfl) ?_
  refine lv_bipush (v := 64) hx hb d_MParting_init_68 (by decide) ?_
  refine ca_np (n := 64) (Nn := 64) (a0 := (64, .inl (fun _ => 0))) (q0 := 0) (ci := 9) (k := 10) (C := "ScholarsPressModel$Parting") (T := F_MParting) (N := 14) hx hb hts in_MParting t_MParting t_MParting_ok n_MParting hown k_338 rfl hK hP hD hS hA rfl rfl rfl (by decide) (hts (.fieldLink "ScholarsPressModel$Parting" 37 "ScholarsPressModel$Parting" "nowSign" "[B") k_2801) (fun _ h9 => h9) rfl hin rfl (by decide +kernel) (fun _ => rfl) (by decide) (by decide) (by decide) (Nat.le_of_ble_eq_true rfl) (Nat.le_of_ble_eq_true rfl) d_MParting_init_70 d_MParting_init_72 (fun q_7 H locs hP hD hS => ?_)
  have hP : va_P (dC, dI) classes [(h0, .inr (9, [.int 2, .int 3, .int 0, .int 0, .ref q_1, .ref q_2, .ref q_3, .ref q_4, .ref q_5, .ref q_6, .ref q_7, .null, .int 0, .null]))] H := hP
  have hD : va_D A [(h0, .inr (9, [.int 2, .int 3, .int 0, .int 0, .ref q_1, .ref q_2, .ref q_3, .ref q_4, .ref q_5, .ref q_6, .ref q_7, .null, .int 0, .null]))] := hD
  refine lv_aload_n hx hb d_MParting_init_75 rfl (lv_at hl 0 rfl) ?_
  refine lv_bipush (v := 64) hx hb d_MParting_init_76 (by decide) ?_
  refine ca_np (n := 64) (Nn := 64) (a0 := (64, .inl (fun _ => 0))) (q0 := 0) (ci := 9) (k := 11) (C := "ScholarsPressModel$Parting") (T := F_MParting) (N := 14) hx hb hts in_MParting t_MParting t_MParting_ok n_MParting hown k_338 rfl hK hP hD hS hA rfl rfl rfl (by decide) (hts (.fieldLink "ScholarsPressModel$Parting" 40 "ScholarsPressModel$Parting" "nowDigit" "[B") k_2802) (fun _ h9 => h9) rfl hin rfl (by decide +kernel) (fun _ => rfl) (by decide) (by decide) (by decide) (Nat.le_of_ble_eq_true rfl) (Nat.le_of_ble_eq_true rfl) d_MParting_init_78 d_MParting_init_80 (fun q_8 H locs hP hD hS => ?_)
  have hP : va_P (dC, dI) classes [(h0, .inr (9, [.int 2, .int 3, .int 0, .int 0, .ref q_1, .ref q_2, .ref q_3, .ref q_4, .ref q_5, .ref q_6, .ref q_7, .ref q_8, .int 0, .null]))] H := hP
  have hD : va_D A [(h0, .inr (9, [.int 2, .int 3, .int 0, .int 0, .ref q_1, .ref q_2, .ref q_3, .ref q_4, .ref q_5, .ref q_6, .ref q_7, .ref q_8, .int 0, .null]))] := hD
  refine lv_aload_n hx hb d_MParting_init_83 rfl (lv_at hl 0 rfl) ?_
  refine lv_bipush (v := 64) hx hb d_MParting_init_84 (by decide) ?_
  refine ca_np (n := 64) (Nn := 64) (a0 := (64, .inl (fun _ => 0))) (q0 := 0) (ci := 9) (k := 13) (C := "ScholarsPressModel$Parting") (T := F_MParting) (N := 14) hx hb hts in_MParting t_MParting t_MParting_ok n_MParting hown k_446 rfl hK hP hD hS hA rfl rfl rfl (by decide) (hts (.fieldLink "ScholarsPressModel$Parting" 43 "ScholarsPressModel$Parting" "nowMark" "[Z") k_2804) (fun _ h9 => h9) rfl hin rfl (by decide +kernel) (fun _ => rfl) (by decide) (by decide) (by decide) (Nat.le_of_ble_eq_true rfl) (Nat.le_of_ble_eq_true rfl) d_MParting_init_86 d_MParting_init_88 (fun q_9 H locs hP hD hS => ?_)
  have hP : va_P (dC, dI) classes [(h0, .inr (9, [.int 2, .int 3, .int 0, .int 0, .ref q_1, .ref q_2, .ref q_3, .ref q_4, .ref q_5, .ref q_6, .ref q_7, .ref q_8, .int 0, .ref q_9]))] H := hP
  have hD : va_D A [(h0, .inr (9, [.int 2, .int 3, .int 0, .int 0, .ref q_1, .ref q_2, .ref q_3, .ref q_4, .ref q_5, .ref q_6, .ref q_7, .ref q_8, .int 0, .ref q_9]))] := hD
  have hP9 := hP.sub (ws' := [(h0, .inr (9, [.int 2, .int 3, .int 0, .int 0, .ref q_1, .ref q_2, .ref q_3, .ref q_4, .ref q_5, .ref q_6, .ref q_7, .ref q_8, .int 0, .ref q_9]))]) [0] rfl
  have hD9 := hD.sub (ws' := [(h0, .inr (9, [.int 2, .int 3, .int 0, .int 0, .ref q_1, .ref q_2, .ref q_3, .ref q_4, .ref q_5, .ref q_6, .ref q_7, .ref q_8, .int 0, .ref q_9]))]) [0] (by decide) rfl
  have hK9 := hK.sub (tys' := []) [] rfl
  exact W.vret hx hb hr (fun t ht hW => ⟨⟨((fun k => match k with | 0 => q_1 | 1 => q_2 | 2 => q_3 | 3 => q_4 | 4 => q_5 | 5 => q_6 | 6 => q_7 | 7 => q_8 | _ => q_9), (fun _ => 0), (fun _ => 0)), rfl, trivial, by rw [ht]; exact hP9, va_K.moved hW.alike hK9, hD9⟩, hS.F ht⟩) hS.2.2 d_MParting_init_91
