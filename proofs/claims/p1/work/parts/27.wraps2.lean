set_option maxHeartbeats 4000000 in
set_option maxRecDepth 100000 in
/-- the law's font of an empty TAPE -/
theorem c_LW_font (l : Launch) (dC : Nat → ClassId) (dI : Nat → Nat → Nat) (x tp sg st ft hy ou : Nat) (cJ : ClassId) (fo : Nat → Int64) (sz : Nat) : Met l y_LW_font [w_LW_font] ({ frames := 4, cells := 6, slots := 1808, locals := 87 }) (va_Pc [.ref x, .ref ou] (pr sz (dC, dI) [(x, .inr (0, [.ref tp, .int 0, .int ((-1)), .ref sg, .null, .null, .ref st, .null, .ref ft, .null, .ref hy, .null, .null, .int 0, .null, .null, .null, .null, .null, .null, .int 0])), (sg, .inr (1, [.null, .int 0, .int 0, .int 0, .int 0, .int 0, .int 0, .long 0])), (ou, .inl (cJ, 1, .inr (.inl fo)))] [(cJ, .long)])) (va_Qi (fun (r : Int32) (u : Nat → Int64) => r = 0 ∧ u 0 = (0 : Int32).toInt64) (bw (dC, dI) (va_A [(x, .inr (0, [.ref tp, .int 0, .int ((-1)), .ref sg, .null, .null, .ref st, .null, .ref ft, .null, .ref hy, .null, .null, .int 0, .null, .null, .null, .null, .null, .null, .int 0])), (sg, .inr (1, [.null, .int 0, .int 0, .int 0, .int 0, .int 0, .int 0, .long 0])), (ou, .inl (cJ, 1, .inr (.inl fo)))] sz) (fun u : Nat → Int64 => [(ou, .inl (cJ, 1, .inr (.inl u)))]) (fun u : Nat → Int64 => [(cJ, .long)])) (va_A [(x, .inr (0, [.ref tp, .int 0, .int ((-1)), .ref sg, .null, .null, .ref st, .null, .ref ft, .null, .ref hy, .null, .null, .int 0, .null, .null, .null, .null, .null, .null, .int 0])), (sg, .inr (1, [.null, .int 0, .int 0, .int 0, .int 0, .int 0, .int 0, .long 0])), (ou, .inl (cJ, 1, .inr (.inl fo)))] sz)) 6 1808 (va_A [(x, .inr (0, [.ref tp, .int 0, .int ((-1)), .ref sg, .null, .null, .ref st, .null, .ref ft, .null, .ref hy, .null, .null, .int 0, .null, .null, .null, .null, .null, .null, .int 0])), (sg, .inr (1, [.null, .int 0, .int 0, .int 0, .int 0, .int 0, .int 0, .long 0])), (ou, .inl (cJ, 1, .inr (.inl fo)))] sz) := by
  refine va_MetW (cc := b_LW_font) (maxL := 3) (ret := (some .int)) (hh := [(0, 8, 11, 25)]) (by decide) rfl ?_
  intro p e s m args below meth c s₁ B hml hv
  obtain ⟨rfl, hsz, hb0, hP, hK, hD0⟩ := hv
  have hx := B.exec
  have hb := B.bytes
  have hr := B.returns
  have hts : ∀ wq ∈ tt, wq.before ([.ref x, .ref ou] : List Value).toArray s = true := hb0.hts
  have hown : s.vm.findClass "ScholarsPressLaw" = some m.cls := findClass_of_methodNamed B.named
  have hlocks := B.notSynchronized
  subst hsz
  have hD := hD0.self (sz := s.heap.size)
  generalize hAe : va_A [(x, .inr (0, [.ref tp, .int 0, .int ((-1)), .ref sg, .null, .null, .ref st, .null, .ref ft, .null, .ref hy, .null, .null, .int 0, .null, .null, .null, .null, .null, .null, .int 0])), (sg, .inr (1, [.null, .int 0, .int 0, .int 0, .int 0, .int 0, .int 0, .long 0])), (ou, .inl (cJ, 1, .inr (.inl fo)))] s.heap.size = A at hD ⊢
  have hA : ∀ q : Nat, s.heap.size ≤ q → A q := fun q h => by rw [← hAe]; exact Or.inr h
  have hS : va_S A s.heap s.heap [] := va_S.rf
  have hP : va_P (dC, dI) classes [(x, .inr (0, [.ref tp, .int 0, .int ((-1)), .ref sg, .null, .null, .ref st, .null, .ref ft, .null, .ref hy, .null, .null, .int 0, .null, .null, .null, .null, .null, .null, .int 0])), (sg, .inr (1, [.null, .int 0, .int 0, .int 0, .int 0, .int 0, .int 0, .long 0])), (ou, .inl (cJ, 1, .inr (.inl fo)))] s.heap := hP
  have hl := lv_entry ([.ref x, .ref ou]) (n := 3) (Nat.le_of_ble_eq_true rfl)
  rw [lg_entry_eq]
  generalize (lg_sl ([.ref x, .ref ou]) ++ List.replicate (3 - (lg_sl ([.ref x, .ref ou])).length) Slot.unset).toArray = ls at hl ⊢
  have hl : lv_has ls 3 [(0, .ref x), (1, .ref ou)] := hl
  refine lv_aload_n hx hb d_LW_font_0 rfl (lv_at hl 1 rfl) ?_
  refine lv_iconst (v := 0) hx hb d_LW_font_1 (by decide) ?_
  refine lv_aload_n hx hb d_LW_font_2 rfl (lv_at hl 0 rfl) ?_
  refine vi_i (wc := [(x, .inr (0, [.ref tp, .int 0, .int ((-1)), .ref sg, .null, .null, .ref st, .null, .ref ft, .null, .ref hy, .null, .null, .int 0, .null, .null, .null, .null, .null, .null, .int 0])), (sg, .inr (1, [.null, .int 0, .int 0, .int 0, .int 0, .int 0, .int 0, .long 0]))]) (wr := [(ou, .inl (cJ, 1, .inr (.inl fo)))]) (va_runV (As := []) (rest := [.int 0, .ref ou]) ⟨hx, hb, hml, hown, hts⟩ (c_SP_font l dC dI x tp sg st ft hy s.heap.size) (cwV 0 hts (tt_V k_677 k_678 k_679 k_240 kw_SP_font) rfl rfl rfl (by decide +kernel) ⟨Nat.le_of_ble_eq_true rfl, Nat.le_of_ble_eq_true rfl⟩) ⟨pr_blind, va_recv hK hP (ci := 0) (q0 := 0) rfl rfl, pr_pre hb0 (hP.sub [0, 1] rfl) (hK.sub [] rfl) (hD.sub [0, 1] (by decide) rfl)⟩ rfl rfl hl.1 rfl (lv_room (Nat.le_of_ble_eq_true rfl)) d_LW_font_3 ⟨Nat.le_of_ble_eq_true rfl, Nat.le_of_ble_eq_true rfl⟩) hP hD hK hS hA [0, 1] [2] rfl rfl (by decide) (by decide) (fun r u H locs hw hP hK hD hS => ?_)
  subst hw
  have hP : va_P (dC, dI) classes [(ou, .inl (cJ, 1, .inr (.inl fo)))] H := hP
  have hD : va_D A [(ou, .inl (cJ, 1, .inr (.inl fo)))] := hD
  have hK : va_K (dC, dI) classes [(cJ, .long)] s := hK.sub [0] rfl
  refine lv_i2l hx hb d_LW_font_6 rfl ?_
  refine va_last hx hb hK hP hD hS 0 0 rfl rfl (i := 0) (x := (0 : Int32).toInt64) vp_01 d_LW_font_7 (fun H locs hP hD hS => ?_)
  have hP : va_P (dC, dI) classes [(ou, .inl (cJ, 1, .inr (.inl (vp_updL fo (0 : Int32).toNatClampNeg ((0 : Int32).toInt64)))))] H := hP
  have hD : va_D A [(ou, .inl (cJ, 1, .inr (.inl (vp_updL fo (0 : Int32).toNatClampNeg ((0 : Int32).toInt64)))))] := hD
  refine lv_goto (tgt := 14) hx hb d_LW_font_8 (by decide) ?_
  refine lv_iconst (v := 0) hx hb d_LW_font_14 (by decide) ?_
  have hP9 := hP.sub (ws' := [(ou, .inl (cJ, 1, .inr (.inl (vp_updL fo (0 : Int32).toNatClampNeg ((0 : Int32).toInt64)))))]) [0] rfl
  have hD9 := hD.sub (ws' := [(ou, .inl (cJ, 1, .inr (.inl (vp_updL fo (0 : Int32).toNatClampNeg ((0 : Int32).toInt64)))))]) [0] (by decide) rfl
  have hK9 := hK.sub (tys' := [(cJ, .long)]) [0] rfl
  exact W.iret (v := 0) hx hb hr (fun t ht hW => ⟨⟨0, vp_updL fo (0 : Int32).toNatClampNeg ((0 : Int32).toInt64), rfl, ⟨rfl, rfl⟩, by rw [ht]; exact hP9, va_K.moved hW.alike hK9, hD9⟩, hS.F ht⟩) hS.2.2 d_LW_font_15
set_option maxHeartbeats 4000000 in
set_option maxRecDepth 100000 in
/-- the law's hyphens of an empty TAPE -/
theorem c_LW_hyphens (l : Launch) (dC : Nat → ClassId) (dI : Nat → Nat → Nat) (x tp sg st ft hy ou : Nat) (cJ : ClassId) (fo : Nat → Int64) (sz : Nat) : Met l y_LW_hyphens [w_LW_hyphens] ({ frames := 3, cells := 9, slots := 11725, locals := 68 }) (va_Pc [.ref x, .ref ou] (pr sz (dC, dI) [(x, .inr (0, [.ref tp, .int 0, .int ((-1)), .ref sg, .null, .null, .ref st, .null, .ref ft, .null, .ref hy, .null, .null, .int 0, .null, .null, .null, .null, .null, .null, .int 0])), (ou, .inl (cJ, 1, .inr (.inl fo)))] [(cJ, .long)])) (va_Qi (fun (r : Int32) (u : Nat → Int64) => r = 0 ∧ u 0 = (0 : Int32).toInt64) (bw (dC, dI) (va_A [(x, .inr (0, [.ref tp, .int 0, .int ((-1)), .ref sg, .null, .null, .ref st, .null, .ref ft, .null, .ref hy, .null, .null, .int 0, .null, .null, .null, .null, .null, .null, .int 0])), (ou, .inl (cJ, 1, .inr (.inl fo)))] sz) (fun u : Nat → Int64 => [(ou, .inl (cJ, 1, .inr (.inl u)))]) (fun u : Nat → Int64 => [(cJ, .long)])) (va_A [(x, .inr (0, [.ref tp, .int 0, .int ((-1)), .ref sg, .null, .null, .ref st, .null, .ref ft, .null, .ref hy, .null, .null, .int 0, .null, .null, .null, .null, .null, .null, .int 0])), (ou, .inl (cJ, 1, .inr (.inl fo)))] sz)) 9 11725 (va_A [(x, .inr (0, [.ref tp, .int 0, .int ((-1)), .ref sg, .null, .null, .ref st, .null, .ref ft, .null, .ref hy, .null, .null, .int 0, .null, .null, .null, .null, .null, .null, .int 0])), (ou, .inl (cJ, 1, .inr (.inl fo)))] sz) := by
  refine va_MetW (cc := b_LW_hyphens) (maxL := 3) (ret := (some .int)) (hh := [(0, 8, 11, 25)]) (by decide) rfl ?_
  intro p e s m args below meth c s₁ B hml hv
  obtain ⟨rfl, hsz, hb0, hP, hK, hD0⟩ := hv
  have hx := B.exec
  have hb := B.bytes
  have hr := B.returns
  have hts : ∀ wq ∈ tt, wq.before ([.ref x, .ref ou] : List Value).toArray s = true := hb0.hts
  have hown : s.vm.findClass "ScholarsPressLaw" = some m.cls := findClass_of_methodNamed B.named
  have hlocks := B.notSynchronized
  subst hsz
  have hD := hD0.self (sz := s.heap.size)
  generalize hAe : va_A [(x, .inr (0, [.ref tp, .int 0, .int ((-1)), .ref sg, .null, .null, .ref st, .null, .ref ft, .null, .ref hy, .null, .null, .int 0, .null, .null, .null, .null, .null, .null, .int 0])), (ou, .inl (cJ, 1, .inr (.inl fo)))] s.heap.size = A at hD ⊢
  have hA : ∀ q : Nat, s.heap.size ≤ q → A q := fun q h => by rw [← hAe]; exact Or.inr h
  have hS : va_S A s.heap s.heap [] := va_S.rf
  have hP : va_P (dC, dI) classes [(x, .inr (0, [.ref tp, .int 0, .int ((-1)), .ref sg, .null, .null, .ref st, .null, .ref ft, .null, .ref hy, .null, .null, .int 0, .null, .null, .null, .null, .null, .null, .int 0])), (ou, .inl (cJ, 1, .inr (.inl fo)))] s.heap := hP
  have hl := lv_entry ([.ref x, .ref ou]) (n := 3) (Nat.le_of_ble_eq_true rfl)
  rw [lg_entry_eq]
  generalize (lg_sl ([.ref x, .ref ou]) ++ List.replicate (3 - (lg_sl ([.ref x, .ref ou])).length) Slot.unset).toArray = ls at hl ⊢
  have hl : lv_has ls 3 [(0, .ref x), (1, .ref ou)] := hl
  refine lv_aload_n hx hb d_LW_hyphens_0 rfl (lv_at hl 1 rfl) ?_
  refine lv_iconst (v := 0) hx hb d_LW_hyphens_1 (by decide) ?_
  refine lv_aload_n hx hb d_LW_hyphens_2 rfl (lv_at hl 0 rfl) ?_
  refine vi_i (wc := [(x, .inr (0, [.ref tp, .int 0, .int ((-1)), .ref sg, .null, .null, .ref st, .null, .ref ft, .null, .ref hy, .null, .null, .int 0, .null, .null, .null, .null, .null, .null, .int 0]))]) (wr := [(ou, .inl (cJ, 1, .inr (.inl fo)))]) (va_runV (As := []) (rest := [.int 0, .ref ou]) ⟨hx, hb, hml, hown, hts⟩ (c_SP_hyphens l dC dI x tp sg st ft hy s.heap.size) (cwV 0 hts (tt_V k_802 k_803 k_804 k_240 kw_SP_hyphens) rfl rfl rfl (by decide +kernel) ⟨Nat.le_of_ble_eq_true rfl, Nat.le_of_ble_eq_true rfl⟩) ⟨pr_blind, va_recv hK hP (ci := 0) (q0 := 0) rfl rfl, pr_pre hb0 (hP.sub [0] rfl) (hK.sub [] rfl) (hD.sub [0] (by decide) rfl)⟩ rfl rfl hl.1 rfl (lv_room (Nat.le_of_ble_eq_true rfl)) d_LW_hyphens_3 ⟨Nat.le_of_ble_eq_true rfl, Nat.le_of_ble_eq_true rfl⟩) hP hD hK hS hA [0] [1] rfl rfl (by decide) (by decide) (fun r u H locs hw hP hK hD hS => ?_)
  subst hw
  have hP : va_P (dC, dI) classes [(ou, .inl (cJ, 1, .inr (.inl fo)))] H := hP
  have hD : va_D A [(ou, .inl (cJ, 1, .inr (.inl fo)))] := hD
  have hK : va_K (dC, dI) classes [(cJ, .long)] s := hK.sub [0] rfl
  refine lv_i2l hx hb d_LW_hyphens_6 rfl ?_
  refine va_last hx hb hK hP hD hS 0 0 rfl rfl (i := 0) (x := (0 : Int32).toInt64) vp_01 d_LW_hyphens_7 (fun H locs hP hD hS => ?_)
  have hP : va_P (dC, dI) classes [(ou, .inl (cJ, 1, .inr (.inl (vp_updL fo (0 : Int32).toNatClampNeg ((0 : Int32).toInt64)))))] H := hP
  have hD : va_D A [(ou, .inl (cJ, 1, .inr (.inl (vp_updL fo (0 : Int32).toNatClampNeg ((0 : Int32).toInt64)))))] := hD
  refine lv_goto (tgt := 14) hx hb d_LW_hyphens_8 (by decide) ?_
  refine lv_iconst (v := 0) hx hb d_LW_hyphens_14 (by decide) ?_
  have hP9 := hP.sub (ws' := [(ou, .inl (cJ, 1, .inr (.inl (vp_updL fo (0 : Int32).toNatClampNeg ((0 : Int32).toInt64)))))]) [0] rfl
  have hD9 := hD.sub (ws' := [(ou, .inl (cJ, 1, .inr (.inl (vp_updL fo (0 : Int32).toNatClampNeg ((0 : Int32).toInt64)))))]) [0] (by decide) rfl
  have hK9 := hK.sub (tys' := [(cJ, .long)]) [0] rfl
  exact W.iret (v := 0) hx hb hr (fun t ht hW => ⟨⟨0, vp_updL fo (0 : Int32).toNatClampNeg ((0 : Int32).toInt64), rfl, ⟨rfl, rfl⟩, by rw [ht]; exact hP9, va_K.moved hW.alike hK9, hD9⟩, hS.F ht⟩) hS.2.2 d_LW_hyphens_15
set_option maxHeartbeats 4000000 in
set_option maxRecDepth 100000 in
/-- the law's style of an empty TAPE -/
theorem c_LW_style (l : Launch) (dC : Nat → ClassId) (dI : Nat → Nat → Nat) (n0 zt : Nat) (fz : Nat → Int32) (x tp sg st ft hy ou : Nat) (cJ : ClassId) (fo : Nat → Int64) (cB : ClassId) (f3 : Nat → Int32) (sz : Nat) : Met l y_LW_style [w_LW_style] ({ frames := 5, cells := 11, slots := 37417, locals := 111 }) (va_Pc [.ref x, .ref ou] (prZ n0 zt fz sz (dC, dI) [(x, .inr (0, [.ref tp, .int 0, .int ((-1)), .ref sg, .null, .null, .ref st, .null, .ref ft, .null, .ref hy, .null, .null, .int 0, .null, .null, .null, .null, .null, .null, .int 0])), (tp, .inl (cB, 16384, .inl f3)), (sg, .inr (1, [.null, .int 0, .int 0, .int 0, .int 0, .int 0, .int 0, .long 0])), (ou, .inl (cJ, 1, .inr (.inl fo)))] [(cB, .byte), (cJ, .long)])) (va_Qi (fun (r : Int32) (u : Nat → Int64) => r = 0 ∧ u 0 = (0 : Int32).toInt64) (bw (dC, dI) (va_A [(x, .inr (0, [.ref tp, .int 0, .int ((-1)), .ref sg, .null, .null, .ref st, .null, .ref ft, .null, .ref hy, .null, .null, .int 0, .null, .null, .null, .null, .null, .null, .int 0])), (tp, .inl (cB, 16384, .inl f3)), (sg, .inr (1, [.null, .int 0, .int 0, .int 0, .int 0, .int 0, .int 0, .long 0])), (ou, .inl (cJ, 1, .inr (.inl fo)))] sz) (fun u : Nat → Int64 => [(ou, .inl (cJ, 1, .inr (.inl u)))]) (fun u : Nat → Int64 => [(cJ, .long)])) (va_A [(x, .inr (0, [.ref tp, .int 0, .int ((-1)), .ref sg, .null, .null, .ref st, .null, .ref ft, .null, .ref hy, .null, .null, .int 0, .null, .null, .null, .null, .null, .null, .int 0])), (tp, .inl (cB, 16384, .inl f3)), (sg, .inr (1, [.null, .int 0, .int 0, .int 0, .int 0, .int 0, .int 0, .long 0])), (ou, .inl (cJ, 1, .inr (.inl fo)))] sz)) 11 37417 (va_A [(x, .inr (0, [.ref tp, .int 0, .int ((-1)), .ref sg, .null, .null, .ref st, .null, .ref ft, .null, .ref hy, .null, .null, .int 0, .null, .null, .null, .null, .null, .null, .int 0])), (tp, .inl (cB, 16384, .inl f3)), (sg, .inr (1, [.null, .int 0, .int 0, .int 0, .int 0, .int 0, .int 0, .long 0])), (ou, .inl (cJ, 1, .inr (.inl fo)))] sz) := by
  refine va_MetW (cc := b_LW_style) (maxL := 3) (ret := (some .int)) (hh := [(0, 8, 11, 25)]) (by decide) rfl ?_
  intro p e s m args below meth c s₁ B hml hv
  obtain ⟨rfl, ⟨hsz, hb0, hP, hK, hD0⟩, hn0, hDn, hZ0⟩ := hv
  have hx := B.exec
  have hb := B.bytes
  have hr := B.returns
  have hts : ∀ wq ∈ tt, wq.before ([.ref x, .ref ou] : List Value).toArray s = true := hb0.hts
  have hown : s.vm.findClass "ScholarsPressLaw" = some m.cls := findClass_of_methodNamed B.named
  have hlocks := B.notSynchronized
  subst hsz
  have hD := hD0.self (sz := s.heap.size)
  generalize hAe : va_A [(x, .inr (0, [.ref tp, .int 0, .int ((-1)), .ref sg, .null, .null, .ref st, .null, .ref ft, .null, .ref hy, .null, .null, .int 0, .null, .null, .null, .null, .null, .null, .int 0])), (tp, .inl (cB, 16384, .inl f3)), (sg, .inr (1, [.null, .int 0, .int 0, .int 0, .int 0, .int 0, .int 0, .long 0])), (ou, .inl (cJ, 1, .inr (.inl fo)))] s.heap.size = A at hD ⊢
  have hA : ∀ q : Nat, s.heap.size ≤ q → A q := fun q h => by rw [← hAe]; exact Or.inr h
  have hS : va_S A s.heap s.heap [] := va_S.rf
  have hP : va_P (dC, dI) classes [(x, .inr (0, [.ref tp, .int 0, .int ((-1)), .ref sg, .null, .null, .ref st, .null, .ref ft, .null, .ref hy, .null, .null, .int 0, .null, .null, .null, .null, .null, .null, .int 0])), (tp, .inl (cB, 16384, .inl f3)), (sg, .inr (1, [.null, .int 0, .int 0, .int 0, .int 0, .int 0, .int 0, .long 0])), (ou, .inl (cJ, 1, .inr (.inl fo)))] s.heap := hP
  have hAn : ∀ q : Nat, A q → n0 ≤ q := by rw [← hAe]; exact zn hDn hn0
  have hZA := hZ0.1.narrow hAn
  have hTA := hZ0.2.narrow hAn
  have hl := lv_entry ([.ref x, .ref ou]) (n := 3) (Nat.le_of_ble_eq_true rfl)
  rw [lg_entry_eq]
  generalize (lg_sl ([.ref x, .ref ou]) ++ List.replicate (3 - (lg_sl ([.ref x, .ref ou])).length) Slot.unset).toArray = ls at hl ⊢
  have hl : lv_has ls 3 [(0, .ref x), (1, .ref ou)] := hl
  refine lv_aload_n hx hb d_LW_style_0 rfl (lv_at hl 1 rfl) ?_
  refine lv_iconst (v := 0) hx hb d_LW_style_1 (by decide) ?_
  refine lv_aload_n hx hb d_LW_style_2 rfl (lv_at hl 0 rfl) ?_
  refine vi_i (wc := [(x, .inr (0, [.ref tp, .int 0, .int ((-1)), .ref sg, .null, .null, .ref st, .null, .ref ft, .null, .ref hy, .null, .null, .int 0, .null, .null, .null, .null, .null, .null, .int 0])), (tp, .inl (cB, 16384, .inl f3)), (sg, .inr (1, [.null, .int 0, .int 0, .int 0, .int 0, .int 0, .int 0, .long 0]))]) (wr := [(ou, .inl (cJ, 1, .inr (.inl fo)))]) (va_runV (As := []) (rest := [.int 0, .ref ou]) ⟨hx, hb, hml, hown, hts⟩ (c_SP_style l dC dI n0 zt fz x tp sg st ft hy cB f3 s.heap.size) (cwV 0 hts (tt_V k_1111 k_1112 k_1113 k_240 kw_SP_style) rfl rfl rfl (by decide +kernel) ⟨Nat.le_of_ble_eq_true rfl, Nat.le_of_ble_eq_true rfl⟩) ⟨prZ_blind, va_recv hK hP (ci := 0) (q0 := 0) rfl rfl, prZ_pre hb0 (hP.sub [0, 1, 2] rfl) (hK.sub [0] rfl) (hD.sub [0, 1, 2] (by decide) rfl) hS hn0 hAn hZ0⟩ rfl rfl hl.1 rfl (lv_room (Nat.le_of_ble_eq_true rfl)) d_LW_style_3 ⟨Nat.le_of_ble_eq_true rfl, Nat.le_of_ble_eq_true rfl⟩) hP hD hK hS hA [0, 1, 2] [3] rfl rfl (by decide) (by decide) (fun r u H locs hw hP hK hD hS => ?_)
  subst hw
  have hP : va_P (dC, dI) classes [(ou, .inl (cJ, 1, .inr (.inl fo)))] H := hP
  have hD : va_D A [(ou, .inl (cJ, 1, .inr (.inl fo)))] := hD
  have hK : va_K (dC, dI) classes [(cB, .byte), (cJ, .long)] s := hK.sub [0, 1] rfl
  refine lv_i2l hx hb d_LW_style_6 rfl ?_
  refine va_last hx hb hK hP hD hS 0 1 rfl rfl (i := 0) (x := (0 : Int32).toInt64) vp_01 d_LW_style_7 (fun H locs hP hD hS => ?_)
  have hP : va_P (dC, dI) classes [(ou, .inl (cJ, 1, .inr (.inl (vp_updL fo (0 : Int32).toNatClampNeg ((0 : Int32).toInt64)))))] H := hP
  have hD : va_D A [(ou, .inl (cJ, 1, .inr (.inl (vp_updL fo (0 : Int32).toNatClampNeg ((0 : Int32).toInt64)))))] := hD
  refine lv_goto (tgt := 14) hx hb d_LW_style_8 (by decide) ?_
  refine lv_iconst (v := 0) hx hb d_LW_style_14 (by decide) ?_
  have hP9 := hP.sub (ws' := [(ou, .inl (cJ, 1, .inr (.inl (vp_updL fo (0 : Int32).toNatClampNeg ((0 : Int32).toInt64)))))]) [0] rfl
  have hD9 := hD.sub (ws' := [(ou, .inl (cJ, 1, .inr (.inl (vp_updL fo (0 : Int32).toNatClampNeg ((0 : Int32).toInt64)))))]) [0] (by decide) rfl
  have hK9 := hK.sub (tys' := [(cJ, .long)]) [1] rfl
  exact W.iret (v := 0) hx hb hr (fun t ht hW => ⟨⟨0, vp_updL fo (0 : Int32).toNatClampNeg ((0 : Int32).toInt64), rfl, ⟨rfl, rfl⟩, by rw [ht]; exact hP9, va_K.moved hW.alike hK9, hD9⟩, hS.F ht⟩) hS.2.2 d_LW_style_15
set_option maxHeartbeats 4000000 in
set_option maxRecDepth 100000 in
/-- the law's source of an empty TAPE -/
theorem c_LW_source (l : Launch) (dC : Nat → ClassId) (dI : Nat → Nat → Nat) (x tp sg st ft hy ou : Nat) (cJ : ClassId) (fo : Nat → Int64) (cB : ClassId) (f3 : Nat → Int32) (sz : Nat) : Met l y_LW_source [w_LW_source] ({ frames := 4, cells := 9, slots := 44868, locals := 81 }) (va_Pc [.ref x, .ref ou] (pr sz (dC, dI) [(x, .inr (0, [.ref tp, .int 0, .int ((-1)), .ref sg, .null, .null, .ref st, .null, .ref ft, .null, .ref hy, .null, .null, .int 0, .null, .null, .null, .null, .null, .null, .int 0])), (tp, .inl (cB, 16384, .inl f3)), (ou, .inl (cJ, 1, .inr (.inl fo)))] [(cB, .byte), (cJ, .long)])) (va_Qi (fun (r : Int32) (u : Nat → Int64) => r = 0 ∧ u 0 = (0 : Int32).toInt64) (bw (dC, dI) (va_A [(x, .inr (0, [.ref tp, .int 0, .int ((-1)), .ref sg, .null, .null, .ref st, .null, .ref ft, .null, .ref hy, .null, .null, .int 0, .null, .null, .null, .null, .null, .null, .int 0])), (tp, .inl (cB, 16384, .inl f3)), (ou, .inl (cJ, 1, .inr (.inl fo)))] sz) (fun u : Nat → Int64 => [(ou, .inl (cJ, 1, .inr (.inl u)))]) (fun u : Nat → Int64 => [(cJ, .long)])) (va_A [(x, .inr (0, [.ref tp, .int 0, .int ((-1)), .ref sg, .null, .null, .ref st, .null, .ref ft, .null, .ref hy, .null, .null, .int 0, .null, .null, .null, .null, .null, .null, .int 0])), (tp, .inl (cB, 16384, .inl f3)), (ou, .inl (cJ, 1, .inr (.inl fo)))] sz)) 9 44868 (va_A [(x, .inr (0, [.ref tp, .int 0, .int ((-1)), .ref sg, .null, .null, .ref st, .null, .ref ft, .null, .ref hy, .null, .null, .int 0, .null, .null, .null, .null, .null, .null, .int 0])), (tp, .inl (cB, 16384, .inl f3)), (ou, .inl (cJ, 1, .inr (.inl fo)))] sz) := by
  refine va_MetW (cc := b_LW_source) (maxL := 3) (ret := (some .int)) (hh := [(0, 8, 11, 25)]) (by decide) rfl ?_
  intro p e s m args below meth c s₁ B hml hv
  obtain ⟨rfl, hsz, hb0, hP, hK, hD0⟩ := hv
  have hx := B.exec
  have hb := B.bytes
  have hr := B.returns
  have hts : ∀ wq ∈ tt, wq.before ([.ref x, .ref ou] : List Value).toArray s = true := hb0.hts
  have hown : s.vm.findClass "ScholarsPressLaw" = some m.cls := findClass_of_methodNamed B.named
  have hlocks := B.notSynchronized
  subst hsz
  have hD := hD0.self (sz := s.heap.size)
  generalize hAe : va_A [(x, .inr (0, [.ref tp, .int 0, .int ((-1)), .ref sg, .null, .null, .ref st, .null, .ref ft, .null, .ref hy, .null, .null, .int 0, .null, .null, .null, .null, .null, .null, .int 0])), (tp, .inl (cB, 16384, .inl f3)), (ou, .inl (cJ, 1, .inr (.inl fo)))] s.heap.size = A at hD ⊢
  have hA : ∀ q : Nat, s.heap.size ≤ q → A q := fun q h => by rw [← hAe]; exact Or.inr h
  have hS : va_S A s.heap s.heap [] := va_S.rf
  have hP : va_P (dC, dI) classes [(x, .inr (0, [.ref tp, .int 0, .int ((-1)), .ref sg, .null, .null, .ref st, .null, .ref ft, .null, .ref hy, .null, .null, .int 0, .null, .null, .null, .null, .null, .null, .int 0])), (tp, .inl (cB, 16384, .inl f3)), (ou, .inl (cJ, 1, .inr (.inl fo)))] s.heap := hP
  have hl := lv_entry ([.ref x, .ref ou]) (n := 3) (Nat.le_of_ble_eq_true rfl)
  rw [lg_entry_eq]
  generalize (lg_sl ([.ref x, .ref ou]) ++ List.replicate (3 - (lg_sl ([.ref x, .ref ou])).length) Slot.unset).toArray = ls at hl ⊢
  have hl : lv_has ls 3 [(0, .ref x), (1, .ref ou)] := hl
  refine lv_aload_n hx hb d_LW_source_0 rfl (lv_at hl 1 rfl) ?_
  refine lv_iconst (v := 0) hx hb d_LW_source_1 (by decide) ?_
  refine lv_aload_n hx hb d_LW_source_2 rfl (lv_at hl 0 rfl) ?_
  refine vi_i (wc := [(x, .inr (0, [.ref tp, .int 0, .int ((-1)), .ref sg, .null, .null, .ref st, .null, .ref ft, .null, .ref hy, .null, .null, .int 0, .null, .null, .null, .null, .null, .null, .int 0])), (tp, .inl (cB, 16384, .inl f3))]) (wr := [(ou, .inl (cJ, 1, .inr (.inl fo)))]) (va_runV (As := []) (rest := [.int 0, .ref ou]) ⟨hx, hb, hml, hown, hts⟩ (c_SP_source l dC dI x tp sg st ft hy cB f3 s.heap.size) (cwV 0 hts (tt_V k_1199 k_1200 k_1201 k_240 kw_SP_source) rfl rfl rfl (by decide +kernel) ⟨Nat.le_of_ble_eq_true rfl, Nat.le_of_ble_eq_true rfl⟩) ⟨pr_blind, va_recv hK hP (ci := 0) (q0 := 0) rfl rfl, pr_pre hb0 (hP.sub [0, 1] rfl) (hK.sub [0] rfl) (hD.sub [0, 1] (by decide) rfl)⟩ rfl rfl hl.1 rfl (lv_room (Nat.le_of_ble_eq_true rfl)) d_LW_source_3 ⟨Nat.le_of_ble_eq_true rfl, Nat.le_of_ble_eq_true rfl⟩) hP hD hK hS hA [0, 1] [2] rfl rfl (by decide) (by decide) (fun r u H locs hw hP hK hD hS => ?_)
  subst hw
  have hP : va_P (dC, dI) classes [(ou, .inl (cJ, 1, .inr (.inl fo)))] H := hP
  have hD : va_D A [(ou, .inl (cJ, 1, .inr (.inl fo)))] := hD
  have hK : va_K (dC, dI) classes [(cB, .byte), (cJ, .long)] s := hK.sub [0, 1] rfl
  refine lv_i2l hx hb d_LW_source_6 rfl ?_
  refine va_last hx hb hK hP hD hS 0 1 rfl rfl (i := 0) (x := (0 : Int32).toInt64) vp_01 d_LW_source_7 (fun H locs hP hD hS => ?_)
  have hP : va_P (dC, dI) classes [(ou, .inl (cJ, 1, .inr (.inl (vp_updL fo (0 : Int32).toNatClampNeg ((0 : Int32).toInt64)))))] H := hP
  have hD : va_D A [(ou, .inl (cJ, 1, .inr (.inl (vp_updL fo (0 : Int32).toNatClampNeg ((0 : Int32).toInt64)))))] := hD
  refine lv_goto (tgt := 14) hx hb d_LW_source_8 (by decide) ?_
  refine lv_iconst (v := 0) hx hb d_LW_source_14 (by decide) ?_
  have hP9 := hP.sub (ws' := [(ou, .inl (cJ, 1, .inr (.inl (vp_updL fo (0 : Int32).toNatClampNeg ((0 : Int32).toInt64)))))]) [0] rfl
  have hD9 := hD.sub (ws' := [(ou, .inl (cJ, 1, .inr (.inl (vp_updL fo (0 : Int32).toNatClampNeg ((0 : Int32).toInt64)))))]) [0] (by decide) rfl
  have hK9 := hK.sub (tys' := [(cJ, .long)]) [1] rfl
  exact W.iret (v := 0) hx hb hr (fun t ht hW => ⟨⟨0, vp_updL fo (0 : Int32).toNatClampNeg ((0 : Int32).toInt64), rfl, ⟨rfl, rfl⟩, by rw [ht]; exact hP9, va_K.moved hW.alike hK9, hD9⟩, hS.F ht⟩) hS.2.2 d_LW_source_15
set_option maxHeartbeats 4000000 in
set_option maxRecDepth 100000 in
/-- the law's feed on a fresh object -/
theorem c_LW_feed {l : Launch} (hfl : l.flags = flags0) {s0 : State} (hS0 : te_S0 s0) (dC : Nat → ClassId) (dI : Nat → Nat → Nat) (x tp sg st ft hy ou : Nat) (cB cJ : ClassId) (f : Nat → Int32) (fo : Nat → Int64) (a1 a2 a3 a4 a5 : Int32) (sz : Nat) : Met l y_LW_feed [w_LW_feed] ({ frames := 8, cells := 1, slots := 6, locals := 260 }) (va_Pc [.ref x, .int a1, .int a2, .int a3, .int a4, .int a5, .ref ou] (prT s0 sz (dC, dI) [(x, .inr (0, [.ref tp, .int 0, .int ((-1)), .ref sg, .null, .null, .ref st, .null, .ref ft, .null, .ref hy, .null, .null, .int 0, .null, .null, .null, .null, .null, .null, .int 0])), (tp, .inl (cB, 16384, .inl f)), (ou, .inl (cJ, 1, .inr (.inl fo)))] [(cB, .byte), (cJ, .long)])) (va_Qi (fun (r : Int32) (u : Nat → Int64) => r = 0 ∧ u 0 = (nI 20).toInt64) (bw (dC, dI) (va_A [(x, .inr (0, [.ref tp, .int 0, .int ((-1)), .ref sg, .null, .null, .ref st, .null, .ref ft, .null, .ref hy, .null, .null, .int 0, .null, .null, .null, .null, .null, .null, .int 0])), (tp, .inl (cB, 16384, .inl f)), (ou, .inl (cJ, 1, .inr (.inl fo)))] sz) (fun u => [(ou, .inl (cJ, 1, .inr (.inl u)))]) (fun _ => [(cJ, .long)])) (va_A [(x, .inr (0, [.ref tp, .int 0, .int ((-1)), .ref sg, .null, .null, .ref st, .null, .ref ft, .null, .ref hy, .null, .null, .int 0, .null, .null, .null, .null, .null, .null, .int 0])), (tp, .inl (cB, 16384, .inl f)), (ou, .inl (cJ, 1, .inr (.inl fo)))] sz)) 1 6 (va_A [(x, .inr (0, [.ref tp, .int 0, .int ((-1)), .ref sg, .null, .null, .ref st, .null, .ref ft, .null, .ref hy, .null, .null, .int 0, .null, .null, .null, .null, .null, .null, .int 0])), (tp, .inl (cB, 16384, .inl f)), (ou, .inl (cJ, 1, .inr (.inl fo)))] sz) := by
  refine va_MetW (cc := b_LW_feed) (maxL := 8) (ret := (some .int)) (hh := [(0, 16, 19, 13)]) (by decide) rfl ?_
  intro p e s m args below meth c s₁ B hml hv
  obtain ⟨rfl, hsz, hb0, hB0, hP, hK, hD0⟩ := hv
  have hx := B.exec
  have hb := B.bytes
  have hr := B.returns
  have hts : ∀ wq ∈ tt, wq.before ([.ref x, .int a1, .int a2, .int a3, .int a4, .int a5, .ref ou] : List Value).toArray s = true := hb0.hts
  have hown : s.vm.findClass "ScholarsPressLaw" = some m.cls := findClass_of_methodNamed B.named
  subst hsz
  have hD := hD0.self (sz := s.heap.size)
  generalize hAe : va_A [(x, .inr (0, [.ref tp, .int 0, .int ((-1)), .ref sg, .null, .null, .ref st, .null, .ref ft, .null, .ref hy, .null, .null, .int 0, .null, .null, .null, .null, .null, .null, .int 0])), (tp, .inl (cB, 16384, .inl f)), (ou, .inl (cJ, 1, .inr (.inl fo)))] s.heap.size = A at hD ⊢
  have hA : ∀ q : Nat, s.heap.size ≤ q → A q := fun q h => by rw [← hAe]; exact Or.inr h
  have hS : va_S A s.heap s.heap [] := va_S.rf
  have hP : va_P (dC, dI) classes [(x, .inr (0, [.ref tp, .int 0, .int ((-1)), .ref sg, .null, .null, .ref st, .null, .ref ft, .null, .ref hy, .null, .null, .int 0, .null, .null, .null, .null, .null, .null, .int 0])), (tp, .inl (cB, 16384, .inl f)), (ou, .inl (cJ, 1, .inr (.inl fo)))] s.heap := hP
  have hl := lv_entry ([.ref x, .int a1, .int a2, .int a3, .int a4, .int a5, .ref ou]) (n := 8) (Nat.le_of_ble_eq_true rfl)
  rw [lg_entry_eq]
  generalize (lg_sl ([.ref x, .int a1, .int a2, .int a3, .int a4, .int a5, .ref ou]) ++ List.replicate (8 - (lg_sl ([.ref x, .int a1, .int a2, .int a3, .int a4, .int a5, .ref ou])).length) Slot.unset).toArray = ls at hl ⊢
  have hl : lv_has ls 8 [(0, .ref x), (1, .int a1), (2, .int a2), (3, .int a3), (4, .int a4), (5, .int a5), (6, .ref ou)] := hl
  refine lv_aload hx hb d_LW_feed_0 (lv_at hl 6 rfl) ?_
  refine lv_iconst (v := 0) hx hb d_LW_feed_2 (by decide) ?_
  refine lv_aload_n hx hb d_LW_feed_3 rfl (lv_at hl 0 rfl) ?_
  refine lv_iload_n hx hb d_LW_feed_4 rfl (lv_at hl 1 rfl) ?_
  refine lv_iload_n hx hb d_LW_feed_5 rfl (lv_at hl 2 rfl) ?_
  refine lv_iload_n hx hb d_LW_feed_6 rfl (lv_at hl 3 rfl) ?_
  refine lv_iload hx hb d_LW_feed_7 (lv_at hl 4 rfl) ?_
  refine lv_iload hx hb d_LW_feed_9 (lv_at hl 5 rfl) ?_
  have hFc := va_free (wc := [(x, .inr (0, [.ref tp, .int 0, .int ((-1)), .ref sg, .null, .null, .ref st, .null, .ref ft, .null, .ref hy, .null, .null, .int 0, .null, .null, .null, .null, .null, .null, .int 0])), (tp, .inl (cB, 16384, .inl f))]) hD hS hA [0, 1] rfl
  refine te_calli (A0 := A) (A1 := va_A [(x, .inr (0, [.ref tp, .int 0, .int ((-1)), .ref sg, .null, .null, .ref st, .null, .ref ft, .null, .ref hy, .null, .null, .int 0, .null, .null, .null, .null, .null, .null, .int 0])), (tp, .inl (cB, 16384, .inl f))] s.heap.size) (te_runV (As := [.int a1, .int a2, .int a3, .int a4, .int a5]) (rest := [.int 0, .ref ou]) ⟨hx, hb, hml, hown, hts⟩ (c_SP_feed hfl hS0 dC dI x tp sg st ft hy cB f a1 a2 a3 a4 a5 s.heap.size) (cwV 5 hts (tt_V k_572 k_573 k_574 k_240 kw_SP_feed) rfl rfl rfl (by decide +kernel) ⟨Nat.le_of_ble_eq_true rfl, Nat.le_of_ble_eq_true rfl⟩) ⟨prT_blind, va_recv hK hP (ci := 0) (q0 := 0) rfl rfl, prT_pre hb0 ⟨hB0.1, hB0.2⟩ (hP.sub [0, 1] rfl) (hK.sub [0] rfl) (hD.sub [0, 1] (by decide) rfl)⟩ rfl rfl hl.1 rfl (lv_room (Nat.le_of_ble_eq_true rfl)) d_LW_feed_11 ⟨Nat.le_of_ble_eq_true rfl, Nat.le_of_ble_eq_true rfl⟩) hS (fun q _ h => hFc q h) hFc (fun r u t H locs ht hvm hw hBt hz1 hk1 hS => ?_) (fun cls xx H locs hth hnew hce hz hk hS => hth.elim)
  obtain ⟨hP, hD⟩ := va_join (wr := [(ou, .inl (cJ, 1, .inr (.inl fo)))]) (w1 := []) hP hD [0, 1] [2] rfl rfl (by decide) (by decide) hk1 hFc va_P_nil va_D_nil
  have hP : va_P (dC, dI) classes [(ou, .inl (cJ, 1, .inr (.inl fo)))] H := hP
  have hD : va_D A [(ou, .inl (cJ, 1, .inr (.inl fo)))] := hD
  refine lv_i2l hx hb d_LW_feed_14 rfl ?_
  refine va_last hx hb hK hP hD hS 0 1 rfl rfl (i := 0) (x := r.toInt64) vp_01 d_LW_feed_15 (fun H locs hP hD hS => ?_)
  have hP : va_P (dC, dI) classes [(ou, .inl (cJ, 1, .inr (.inl (vp_updL fo (0 : Int32).toNatClampNeg r.toInt64))))] H := hP
  have hD : va_D A [(ou, .inl (cJ, 1, .inr (.inl (vp_updL fo (0 : Int32).toNatClampNeg r.toInt64))))] := hD
  refine lv_goto (tgt := 23) hx hb d_LW_feed_16 (by decide) ?_
  refine lv_iconst (v := 0) hx hb d_LW_feed_23 (by decide) ?_
  have hP9 := hP.sub (ws' := [(ou, .inl (cJ, 1, .inr (.inl (vp_updL fo (0 : Int32).toNatClampNeg r.toInt64))))]) [0] rfl
  have hD9 := hD.sub (ws' := [(ou, .inl (cJ, 1, .inr (.inl (vp_updL fo (0 : Int32).toNatClampNeg r.toInt64))))]) [0] (by decide) rfl
  have hK9 := hK.sub (tys' := [(cJ, .long)]) [1] rfl
  exact W.iret (v := 0) hx hb hr (fun t ht hW => ⟨⟨0, vp_updL fo (0 : Int32).toNatClampNeg r.toInt64, rfl, ⟨rfl, congrArg Int32.toInt64 hw⟩, by rw [ht]; exact hP9, va_K.moved hW.alike hK9, hD9⟩, hS.F ht⟩) hS.2.2 d_LW_feed_24
