set_option maxHeartbeats 4000000 in
set_option maxRecDepth 100000 in
/-- the law's count on a fresh object -/
theorem c_LW_count {l : Launch} (hfl : l.flags = flags0) {s0 : State} (hS0 : te_S0 s0) (hNc : va_Nc x_ISE x_IAE s0) (dC : Nat → ClassId) (dI : Nat → Nat → Nat) (x tp sg st ft hy ou : Nat) (cJ : ClassId) (fo : Nat → Int64) (w : Int32) (sz : Nat) : Met l y_LW_count [w_LW_count] ({ frames := 8, cells := 1, slots := 6, locals := 260 }) (va_Pc [.ref x, .int w, .ref ou] (prT s0 sz (dC, dI) [(x, .inr (0, [.ref tp, .int 0, .int ((-1)), .ref sg, .null, .null, .ref st, .null, .ref ft, .null, .ref hy, .null, .null, .int 0, .null, .null, .null, .null, .null, .null, .int 0])), (ou, .inl (cJ, 1, .inr (.inl fo)))] [(cJ, .long)])) (va_Qi (fun (r : Int32) (u : Nat → Int64) => (r = 0 ∧ u 0 = (0 : Int32).toInt64 ∧ (0 ≤ w.toInt ∧ w.toInt ≤ 11)) ∨ (r = 1 ∧ ¬ (0 ≤ w.toInt ∧ w.toInt ≤ 11))) (bw (dC, dI) (va_A [(x, .inr (0, [.ref tp, .int 0, .int ((-1)), .ref sg, .null, .null, .ref st, .null, .ref ft, .null, .ref hy, .null, .null, .int 0, .null, .null, .null, .null, .null, .null, .int 0])), (ou, .inl (cJ, 1, .inr (.inl fo)))] sz) (fun u => [(ou, .inl (cJ, 1, .inr (.inl u)))]) (fun _ => [(cJ, .long)])) (va_A [(x, .inr (0, [.ref tp, .int 0, .int ((-1)), .ref sg, .null, .null, .ref st, .null, .ref ft, .null, .ref hy, .null, .null, .int 0, .null, .null, .null, .null, .null, .null, .int 0])), (ou, .inl (cJ, 1, .inr (.inl fo)))] sz)) 1 6 (va_A [(x, .inr (0, [.ref tp, .int 0, .int ((-1)), .ref sg, .null, .null, .ref st, .null, .ref ft, .null, .ref hy, .null, .null, .int 0, .null, .null, .null, .null, .null, .null, .int 0])), (ou, .inl (cJ, 1, .inr (.inl fo)))] sz) := by
  refine va_MetW (cc := b_LW_count) (maxL := 4) (ret := (some .int)) (hh := [(0, 9, 12, 19)]) (by decide) rfl ?_
  intro p e s m args below meth c s₁ B hml hv
  obtain ⟨rfl, hsz, hb0, hB0, hP, hK, hD0⟩ := hv
  have hx := B.exec
  have hb := B.bytes
  have hr := B.returns
  have hts : ∀ wq ∈ tt, wq.before ([.ref x, .int w, .ref ou] : List Value).toArray s = true := hb0.hts
  have hown : s.vm.findClass "ScholarsPressLaw" = some m.cls := findClass_of_methodNamed B.named
  have hlocks := B.notSynchronized
  obtain ⟨e1, hxs, he1⟩ := te_e1 (te_tab B ((atoms_spec (ws := [w_LW_count]) B.pre) _ List.mem_cons_self))
  simp only [Prod.mk.injEq] at he1
  obtain ⟨a1_1, a1_2, a1_3, a1_4⟩ := he1
  subst hsz
  have hD := hD0.self (sz := s.heap.size)
  generalize hAe : va_A [(x, .inr (0, [.ref tp, .int 0, .int ((-1)), .ref sg, .null, .null, .ref st, .null, .ref ft, .null, .ref hy, .null, .null, .int 0, .null, .null, .null, .null, .null, .null, .int 0])), (ou, .inl (cJ, 1, .inr (.inl fo)))] s.heap.size = A at hD ⊢
  have hA : ∀ q : Nat, s.heap.size ≤ q → A q := fun q h => by rw [← hAe]; exact Or.inr h
  have hS : va_S A s.heap s.heap [] := va_S.rf
  have hP : va_P (dC, dI) classes [(x, .inr (0, [.ref tp, .int 0, .int ((-1)), .ref sg, .null, .null, .ref st, .null, .ref ft, .null, .ref hy, .null, .null, .int 0, .null, .null, .null, .null, .null, .null, .int 0])), (ou, .inl (cJ, 1, .inr (.inl fo)))] s.heap := hP
  have hl := lv_entry ([.ref x, .int w, .ref ou]) (n := 4) (Nat.le_of_ble_eq_true rfl)
  rw [lg_entry_eq]
  generalize (lg_sl ([.ref x, .int w, .ref ou]) ++ List.replicate (4 - (lg_sl ([.ref x, .int w, .ref ou])).length) Slot.unset).toArray = ls at hl ⊢
  have hl : lv_has ls 4 [(0, .ref x), (1, .int w), (2, .ref ou)] := hl
  refine lv_aload_n hx hb d_LW_count_0 rfl (lv_at hl 2 rfl) ?_
  refine lv_iconst (v := 0) hx hb d_LW_count_1 (by decide) ?_
  refine lv_aload_n hx hb d_LW_count_2 rfl (lv_at hl 0 rfl) ?_
  refine lv_iload_n hx hb d_LW_count_3 rfl (lv_at hl 1 rfl) ?_
  have hFc := va_free (wc := [(x, .inr (0, [.ref tp, .int 0, .int ((-1)), .ref sg, .null, .null, .ref st, .null, .ref ft, .null, .ref hy, .null, .null, .int 0, .null, .null, .null, .null, .null, .null, .int 0]))]) hD hS hA [0] rfl
  refine te_calli (A0 := A) (A1 := va_A [(x, .inr (0, [.ref tp, .int 0, .int ((-1)), .ref sg, .null, .null, .ref st, .null, .ref ft, .null, .ref hy, .null, .null, .int 0, .null, .null, .null, .null, .null, .null, .int 0]))] s.heap.size) (te_runV (As := [.int w]) (rest := [.int 0, .ref ou]) ⟨hx, hb, hml, hown, hts⟩ (c_SP_count hfl hS0 dC dI x tp sg st ft hy w s.heap.size) (cwV 1 hts (tt_V k_2510 k_2511 k_2512 k_240 kw_SP_count) rfl rfl rfl (by decide +kernel) ⟨Nat.le_of_ble_eq_true rfl, Nat.le_of_ble_eq_true rfl⟩) ⟨prT_blind, va_recv hK hP (ci := 0) (q0 := 0) rfl rfl, prT_pre hb0 ⟨hB0.1, hB0.2⟩ (hP.sub [0] rfl) (hK.sub [] rfl) (hD.sub [0] (by decide) rfl)⟩ rfl rfl hl.1 rfl (lv_room (Nat.le_of_ble_eq_true rfl)) d_LW_count_4 ⟨Nat.le_of_ble_eq_true rfl, Nat.le_of_ble_eq_true rfl⟩) hS (fun q _ h => hFc q h) hFc (fun r u t H locs ht hvm hw hBt hz1 hk1 hS => ?_) (fun cls xx H locs hth hnew hce hz hk hS => ?_)
  · obtain ⟨hrn, hR⟩ := hw
    rw [hrn]
    obtain ⟨hP, hD⟩ := va_join (wr := [(ou, .inl (cJ, 1, .inr (.inl fo)))]) (w1 := []) hP hD [0] [1] rfl rfl (by decide) (by decide) hk1 hFc va_P_nil va_D_nil
    have hP : va_P (dC, dI) classes [(ou, .inl (cJ, 1, .inr (.inl fo)))] H := hP
    have hD : va_D A [(ou, .inl (cJ, 1, .inr (.inl fo)))] := hD
    refine lv_i2l hx hb d_LW_count_7 rfl ?_
    refine va_last hx hb hK hP hD hS 0 0 rfl rfl (i := 0) (x := (0 : Int32).toInt64) vp_01 d_LW_count_8 (fun H locs hP hD hS => ?_)
    have hP : va_P (dC, dI) classes [(ou, .inl (cJ, 1, .inr (.inl (vp_updL fo (0 : Int32).toNatClampNeg ((0 : Int32).toInt64)))))] H := hP
    have hD : va_D A [(ou, .inl (cJ, 1, .inr (.inl (vp_updL fo (0 : Int32).toNatClampNeg ((0 : Int32).toInt64)))))] := hD
    refine lv_goto (tgt := 15) hx hb d_LW_count_9 (by decide) ?_
    refine lv_iconst (v := 0) hx hb d_LW_count_15 (by decide) ?_
    have hP9 := hP.sub (ws' := [(ou, .inl (cJ, 1, .inr (.inl (vp_updL fo (0 : Int32).toNatClampNeg ((0 : Int32).toInt64)))))]) [0] rfl
    have hD9 := hD.sub (ws' := [(ou, .inl (cJ, 1, .inr (.inl (vp_updL fo (0 : Int32).toNatClampNeg ((0 : Int32).toInt64)))))]) [0] (by decide) rfl
    have hK9 := hK.sub (tys' := [(cJ, .long)]) [0] rfl
    exact W.iret (v := 0) hx hb hr (fun t ht hW => ⟨⟨0, vp_updL fo (0 : Int32).toNatClampNeg ((0 : Int32).toInt64), rfl, Or.inl ⟨rfl, rfl, hR⟩, by rw [ht]; exact hP9, va_K.moved hW.alike hK9, hD9⟩, hS.F ht⟩) hS.2.2 d_LW_count_16
  · have hP : va_P (dC, dI) classes [(x, .inr (0, [.ref tp, .int 0, .int ((-1)), .ref sg, .null, .null, .ref st, .null, .ref ft, .null, .ref hy, .null, .null, .int 0, .null, .null, .null, .null, .null, .null, .int 0])), (ou, .inl (cJ, 1, .inr (.inl fo)))] H := te_keep hP hk
    rcases hth with ⟨rfl, hR⟩
    refine te_catch (own := "ScholarsPressLaw") (D := x_IAE) (hpc := 12) (pre := []) (en := e1) (tl := []) hown hce (by rw [hxs]; rfl) (fun y hy => by cases hy) (by simp [covers, a1_1, a1_2]) (by rw [a1_4]; decide) a1_3 (by rw [a1_4]; exact hts _ k_653) te_same ?_
    refine lv_astore_n (lv' := [(3, .ref xx), (0, .ref x), (1, .int w), (2, .ref ou)]) hx hb d_LW_count_12 rfl hl (by decide) rfl (fun ls hl => ?_)
    refine lv_iconst (v := 1) hx hb d_LW_count_13 (by decide) ?_
    have hP9 := hP.sub (ws' := [(ou, .inl (cJ, 1, .inr (.inl fo)))]) [1] rfl
    have hD9 := hD.sub (ws' := [(ou, .inl (cJ, 1, .inr (.inl fo)))]) [1] (by decide) rfl
    have hK9 := hK.sub (tys' := [(cJ, .long)]) [0] rfl
    exact W.iret (v := 1) hx hb hr (fun t ht hW => ⟨⟨1, fo, rfl, Or.inr (⟨rfl, hR⟩), by rw [ht]; exact hP9, va_K.moved hW.alike hK9, hD9⟩, hS.F ht⟩) hS.2.2 d_LW_count_14
set_option maxHeartbeats 4000000 in
set_option maxRecDepth 100000 in
/-- the law's set on a fresh object -/
theorem c_LW_set {l : Launch} (hfl : l.flags = flags0) {s0 : State} (hS0 : te_S0 s0) (hNc : va_Nc x_ISE x_IAE s0) (dC : Nat → ClassId) (dI : Nat → Nat → Nat) (x tp sg st ft hy ou : Nat) (cJ : ClassId) (fo : Nat → Int64) (n : Int32) (sz : Nat) : Met l y_LW_set [w_LW_set] ({ frames := 8, cells := 1, slots := 6, locals := 260 }) (va_Pc [.ref x, .int n, .ref ou] (prT s0 sz (dC, dI) [(x, .inr (0, [.ref tp, .int 0, .int ((-1)), .ref sg, .null, .null, .ref st, .null, .ref ft, .null, .ref hy, .null, .null, .int 0, .null, .null, .null, .null, .null, .null, .int 0])), (ou, .inl (cJ, 1, .inr (.inl fo)))] [(cJ, .long)])) (va_Qi (fun (r : Int32) (u : Nat → Int64) => (r = 1 ∧ ¬ (1 ≤ n.toInt ∧ n.toInt ≤ 9)) ∨ (r = 2 ∧ (1 ≤ n.toInt ∧ n.toInt ≤ 9))) (bw (dC, dI) (va_A [(x, .inr (0, [.ref tp, .int 0, .int ((-1)), .ref sg, .null, .null, .ref st, .null, .ref ft, .null, .ref hy, .null, .null, .int 0, .null, .null, .null, .null, .null, .null, .int 0])), (ou, .inl (cJ, 1, .inr (.inl fo)))] sz) (fun u => [(ou, .inl (cJ, 1, .inr (.inl u)))]) (fun _ => [(cJ, .long)])) (va_A [(x, .inr (0, [.ref tp, .int 0, .int ((-1)), .ref sg, .null, .null, .ref st, .null, .ref ft, .null, .ref hy, .null, .null, .int 0, .null, .null, .null, .null, .null, .null, .int 0])), (ou, .inl (cJ, 1, .inr (.inl fo)))] sz)) 1 6 (va_A [(x, .inr (0, [.ref tp, .int 0, .int ((-1)), .ref sg, .null, .null, .ref st, .null, .ref ft, .null, .ref hy, .null, .null, .int 0, .null, .null, .null, .null, .null, .null, .int 0])), (ou, .inl (cJ, 1, .inr (.inl fo)))] sz) := by
  refine va_MetW (cc := b_LW_set) (maxL := 4) (ret := (some .int)) (hh := [(0, 9, 12, 19), (0, 9, 15, 40), (0, 9, 18, 13), (0, 9, 21, 45)]) (by decide) rfl ?_
  intro p e s m args below meth c s₁ B hml hv
  obtain ⟨rfl, hsz, hb0, hB0, hP, hK, hD0⟩ := hv
  have hx := B.exec
  have hb := B.bytes
  have hr := B.returns
  have hts : ∀ wq ∈ tt, wq.before ([.ref x, .int n, .ref ou] : List Value).toArray s = true := hb0.hts
  have hown : s.vm.findClass "ScholarsPressLaw" = some m.cls := findClass_of_methodNamed B.named
  have hlocks := B.notSynchronized
  obtain ⟨e1, e2, e3, e4, hxs, he1, he2, he3, he4⟩ := te_e4 (te_tab B ((atoms_spec (ws := [w_LW_set]) B.pre) _ List.mem_cons_self))
  simp only [Prod.mk.injEq] at he1
  obtain ⟨a1_1, a1_2, a1_3, a1_4⟩ := he1
  simp only [Prod.mk.injEq] at he2
  obtain ⟨a2_1, a2_2, a2_3, a2_4⟩ := he2
  simp only [Prod.mk.injEq] at he3
  obtain ⟨a3_1, a3_2, a3_3, a3_4⟩ := he3
  simp only [Prod.mk.injEq] at he4
  obtain ⟨a4_1, a4_2, a4_3, a4_4⟩ := he4
  subst hsz
  have hD := hD0.self (sz := s.heap.size)
  generalize hAe : va_A [(x, .inr (0, [.ref tp, .int 0, .int ((-1)), .ref sg, .null, .null, .ref st, .null, .ref ft, .null, .ref hy, .null, .null, .int 0, .null, .null, .null, .null, .null, .null, .int 0])), (ou, .inl (cJ, 1, .inr (.inl fo)))] s.heap.size = A at hD ⊢
  have hA : ∀ q : Nat, s.heap.size ≤ q → A q := fun q h => by rw [← hAe]; exact Or.inr h
  have hS : va_S A s.heap s.heap [] := va_S.rf
  have hP : va_P (dC, dI) classes [(x, .inr (0, [.ref tp, .int 0, .int ((-1)), .ref sg, .null, .null, .ref st, .null, .ref ft, .null, .ref hy, .null, .null, .int 0, .null, .null, .null, .null, .null, .null, .int 0])), (ou, .inl (cJ, 1, .inr (.inl fo)))] s.heap := hP
  have hl := lv_entry ([.ref x, .int n, .ref ou]) (n := 4) (Nat.le_of_ble_eq_true rfl)
  rw [lg_entry_eq]
  generalize (lg_sl ([.ref x, .int n, .ref ou]) ++ List.replicate (4 - (lg_sl ([.ref x, .int n, .ref ou])).length) Slot.unset).toArray = ls at hl ⊢
  have hl : lv_has ls 4 [(0, .ref x), (1, .int n), (2, .ref ou)] := hl
  refine lv_aload_n hx hb d_LW_set_0 rfl (lv_at hl 2 rfl) ?_
  refine lv_iconst (v := 0) hx hb d_LW_set_1 (by decide) ?_
  refine lv_aload_n hx hb d_LW_set_2 rfl (lv_at hl 0 rfl) ?_
  refine lv_iload_n hx hb d_LW_set_3 rfl (lv_at hl 1 rfl) ?_
  have hFc := va_free (wc := [(x, .inr (0, [.ref tp, .int 0, .int ((-1)), .ref sg, .null, .null, .ref st, .null, .ref ft, .null, .ref hy, .null, .null, .int 0, .null, .null, .null, .null, .null, .null, .int 0]))]) hD hS hA [0] rfl
  refine te_calli (A0 := A) (A1 := va_A [(x, .inr (0, [.ref tp, .int 0, .int ((-1)), .ref sg, .null, .null, .ref st, .null, .ref ft, .null, .ref hy, .null, .null, .int 0, .null, .null, .null, .null, .null, .null, .int 0]))] s.heap.size) (te_runV (As := [.int n]) (rest := [.int 0, .ref ou]) ⟨hx, hb, hml, hown, hts⟩ (c_SP_set hfl hS0 dC dI x tp sg st ft hy n s.heap.size) (cwV 1 hts (tt_V k_1411 k_1412 k_1413 k_240 kw_SP_set) rfl rfl rfl (by decide +kernel) ⟨Nat.le_of_ble_eq_true rfl, Nat.le_of_ble_eq_true rfl⟩) ⟨prT_blind, va_recv hK hP (ci := 0) (q0 := 0) rfl rfl, prT_pre hb0 ⟨hB0.1, hB0.2⟩ (hP.sub [0] rfl) (hK.sub [] rfl) (hD.sub [0] (by decide) rfl)⟩ rfl rfl hl.1 rfl (lv_room (Nat.le_of_ble_eq_true rfl)) d_LW_set_4 ⟨Nat.le_of_ble_eq_true rfl, Nat.le_of_ble_eq_true rfl⟩) hS (fun q _ h => hFc q h) hFc (fun r u t H locs ht hvm hw hBt hz1 hk1 hS => ?_) (fun cls xx H locs hth hnew hce hz hk hS => ?_)
  · exact hw.elim
  · have hP : va_P (dC, dI) classes [(x, .inr (0, [.ref tp, .int 0, .int ((-1)), .ref sg, .null, .null, .ref st, .null, .ref ft, .null, .ref hy, .null, .null, .int 0, .null, .null, .null, .null, .null, .null, .int 0])), (ou, .inl (cJ, 1, .inr (.inl fo)))] H := te_keep hP hk
    rcases hth with ⟨rfl, hR⟩ | ⟨rfl, hR⟩
    · refine te_catch (own := "ScholarsPressLaw") (D := x_IAE) (hpc := 12) (pre := []) (en := e1) (tl := [e2, e3, e4]) hown hce (by rw [hxs]; rfl) (fun y hy => by cases hy) (by simp [covers, a1_1, a1_2]) (by rw [a1_4]; decide) a1_3 (by rw [a1_4]; exact hts _ k_653) te_same ?_
      refine lv_astore_n (lv' := [(3, .ref xx), (0, .ref x), (1, .int n), (2, .ref ou)]) hx hb d_LW_set_12 rfl hl (by decide) rfl (fun ls hl => ?_)
      refine lv_iconst (v := 1) hx hb d_LW_set_13 (by decide) ?_
      have hP9 := hP.sub (ws' := [(ou, .inl (cJ, 1, .inr (.inl fo)))]) [1] rfl
      have hD9 := hD.sub (ws' := [(ou, .inl (cJ, 1, .inr (.inl fo)))]) [1] (by decide) rfl
      have hK9 := hK.sub (tys' := [(cJ, .long)]) [0] rfl
      exact W.iret (v := 1) hx hb hr (fun t ht hW => ⟨⟨1, fo, rfl, Or.inl ⟨rfl, hR⟩, by rw [ht]; exact hP9, va_K.moved hW.alike hK9, hD9⟩, hS.F ht⟩) hS.2.2 d_LW_set_14
    · refine te_catch (own := "ScholarsPressLaw") (D := x_ISE) (hpc := 15) (pre := [e1]) (en := e2) (tl := [e3, e4]) hown hce (by rw [hxs]; rfl) (fun y hy => by rw [List.mem_singleton.mp hy]; exact Or.inr ⟨by simp [covers, a1_1, a1_2], by rw [a1_4]; decide, x_IAE, by rw [a1_4]; exact hts _ k_653, hNc.moved hB0.1⟩) (by simp [covers, a2_1, a2_2]) (by rw [a2_4]; decide) a2_3 (by rw [a2_4]; exact hts _ k_1387) te_same ?_
      refine lv_astore_n (lv' := [(3, .ref xx), (0, .ref x), (1, .int n), (2, .ref ou)]) hx hb d_LW_set_15 rfl hl (by decide) rfl (fun ls hl => ?_)
      refine lv_iconst (v := 2) hx hb d_LW_set_16 (by decide) ?_
      have hP9 := hP.sub (ws' := [(ou, .inl (cJ, 1, .inr (.inl fo)))]) [1] rfl
      have hD9 := hD.sub (ws' := [(ou, .inl (cJ, 1, .inr (.inl fo)))]) [1] (by decide) rfl
      have hK9 := hK.sub (tys' := [(cJ, .long)]) [0] rfl
      exact W.iret (v := 2) hx hb hr (fun t ht hW => ⟨⟨2, fo, rfl, Or.inr (⟨rfl, hR⟩), by rw [ht]; exact hP9, va_K.moved hW.alike hK9, hD9⟩, hS.F ht⟩) hS.2.2 d_LW_set_17
set_option maxHeartbeats 4000000 in
set_option maxRecDepth 100000 in
/-- the law's element on a fresh object -/
theorem c_LW_element {l : Launch} (hfl : l.flags = flags0) {s0 : State} (hS0 : te_S0 s0) (hNc : va_Nc x_ISE x_IAE s0) (dC : Nat → ClassId) (dI : Nat → Nat → Nat) (x tp sg st ft hy ou : Nat) (cJ : ClassId) (fo : Nat → Int64) (a w : Int32) (sz : Nat) : Met l y_LW_element [w_LW_element] ({ frames := 8, cells := 1, slots := 6, locals := 260 }) (va_Pc [.ref x, .int a, .int w, .ref ou] (prT s0 sz (dC, dI) [(x, .inr (0, [.ref tp, .int 0, .int ((-1)), .ref sg, .null, .null, .ref st, .null, .ref ft, .null, .ref hy, .null, .null, .int 0, .null, .null, .null, .null, .null, .null, .int 0])), (ou, .inl (cJ, 1, .inr (.inl fo)))] [(cJ, .long)])) (va_Qi (fun (r : Int32) (u : Nat → Int64) => (r = 1 ∧ ¬ (0 ≤ a.toInt ∧ ((0 ≤ w.toInt ∧ w.toInt ≤ 7) ∨ (20 ≤ w.toInt ∧ w.toInt ≤ 41)))) ∨ (r = 2 ∧ (0 ≤ a.toInt ∧ ((0 ≤ w.toInt ∧ w.toInt ≤ 7) ∨ (20 ≤ w.toInt ∧ w.toInt ≤ 41))))) (bw (dC, dI) (va_A [(x, .inr (0, [.ref tp, .int 0, .int ((-1)), .ref sg, .null, .null, .ref st, .null, .ref ft, .null, .ref hy, .null, .null, .int 0, .null, .null, .null, .null, .null, .null, .int 0])), (ou, .inl (cJ, 1, .inr (.inl fo)))] sz) (fun u => [(ou, .inl (cJ, 1, .inr (.inl u)))]) (fun _ => [(cJ, .long)])) (va_A [(x, .inr (0, [.ref tp, .int 0, .int ((-1)), .ref sg, .null, .null, .ref st, .null, .ref ft, .null, .ref hy, .null, .null, .int 0, .null, .null, .null, .null, .null, .null, .int 0])), (ou, .inl (cJ, 1, .inr (.inl fo)))] sz)) 1 6 (va_A [(x, .inr (0, [.ref tp, .int 0, .int ((-1)), .ref sg, .null, .null, .ref st, .null, .ref ft, .null, .ref hy, .null, .null, .int 0, .null, .null, .null, .null, .null, .null, .int 0])), (ou, .inl (cJ, 1, .inr (.inl fo)))] sz) := by
  refine va_MetW (cc := b_LW_element) (maxL := 5) (ret := (some .int)) (hh := [(0, 10, 13, 19), (0, 10, 17, 40)]) (by decide) rfl ?_
  intro p e s m args below meth c s₁ B hml hv
  obtain ⟨rfl, hsz, hb0, hB0, hP, hK, hD0⟩ := hv
  have hx := B.exec
  have hb := B.bytes
  have hr := B.returns
  have hts : ∀ wq ∈ tt, wq.before ([.ref x, .int a, .int w, .ref ou] : List Value).toArray s = true := hb0.hts
  have hown : s.vm.findClass "ScholarsPressLaw" = some m.cls := findClass_of_methodNamed B.named
  have hlocks := B.notSynchronized
  obtain ⟨e1, e2, hxs, he1, he2⟩ := te_e2 (te_tab B ((atoms_spec (ws := [w_LW_element]) B.pre) _ List.mem_cons_self))
  simp only [Prod.mk.injEq] at he1
  obtain ⟨a1_1, a1_2, a1_3, a1_4⟩ := he1
  simp only [Prod.mk.injEq] at he2
  obtain ⟨a2_1, a2_2, a2_3, a2_4⟩ := he2
  subst hsz
  have hD := hD0.self (sz := s.heap.size)
  generalize hAe : va_A [(x, .inr (0, [.ref tp, .int 0, .int ((-1)), .ref sg, .null, .null, .ref st, .null, .ref ft, .null, .ref hy, .null, .null, .int 0, .null, .null, .null, .null, .null, .null, .int 0])), (ou, .inl (cJ, 1, .inr (.inl fo)))] s.heap.size = A at hD ⊢
  have hA : ∀ q : Nat, s.heap.size ≤ q → A q := fun q h => by rw [← hAe]; exact Or.inr h
  have hS : va_S A s.heap s.heap [] := va_S.rf
  have hP : va_P (dC, dI) classes [(x, .inr (0, [.ref tp, .int 0, .int ((-1)), .ref sg, .null, .null, .ref st, .null, .ref ft, .null, .ref hy, .null, .null, .int 0, .null, .null, .null, .null, .null, .null, .int 0])), (ou, .inl (cJ, 1, .inr (.inl fo)))] s.heap := hP
  have hl := lv_entry ([.ref x, .int a, .int w, .ref ou]) (n := 5) (Nat.le_of_ble_eq_true rfl)
  rw [lg_entry_eq]
  generalize (lg_sl ([.ref x, .int a, .int w, .ref ou]) ++ List.replicate (5 - (lg_sl ([.ref x, .int a, .int w, .ref ou])).length) Slot.unset).toArray = ls at hl ⊢
  have hl : lv_has ls 5 [(0, .ref x), (1, .int a), (2, .int w), (3, .ref ou)] := hl
  refine lv_aload_n hx hb d_LW_element_0 rfl (lv_at hl 3 rfl) ?_
  refine lv_iconst (v := 0) hx hb d_LW_element_1 (by decide) ?_
  refine lv_aload_n hx hb d_LW_element_2 rfl (lv_at hl 0 rfl) ?_
  refine lv_iload_n hx hb d_LW_element_3 rfl (lv_at hl 1 rfl) ?_
  refine lv_iload_n hx hb d_LW_element_4 rfl (lv_at hl 2 rfl) ?_
  have hFc := va_free (wc := [(x, .inr (0, [.ref tp, .int 0, .int ((-1)), .ref sg, .null, .null, .ref st, .null, .ref ft, .null, .ref hy, .null, .null, .int 0, .null, .null, .null, .null, .null, .null, .int 0]))]) hD hS hA [0] rfl
  refine te_calli (A0 := A) (A1 := va_A [(x, .inr (0, [.ref tp, .int 0, .int ((-1)), .ref sg, .null, .null, .ref st, .null, .ref ft, .null, .ref hy, .null, .null, .int 0, .null, .null, .null, .null, .null, .null, .int 0]))] s.heap.size) (te_runV (As := [.int a, .int w]) (rest := [.int 0, .ref ou]) ⟨hx, hb, hml, hown, hts⟩ (c_SP_element hfl hS0 dC dI x tp sg st ft hy a w s.heap.size) (cwV 2 hts (tt_V k_2497 k_2498 k_2499 k_240 kw_SP_element) rfl rfl rfl (by decide +kernel) ⟨Nat.le_of_ble_eq_true rfl, Nat.le_of_ble_eq_true rfl⟩) ⟨prT_blind, va_recv hK hP (ci := 0) (q0 := 0) rfl rfl, prT_pre hb0 ⟨hB0.1, hB0.2⟩ (hP.sub [0] rfl) (hK.sub [] rfl) (hD.sub [0] (by decide) rfl)⟩ rfl rfl hl.1 rfl (lv_room (Nat.le_of_ble_eq_true rfl)) d_LW_element_5 ⟨Nat.le_of_ble_eq_true rfl, Nat.le_of_ble_eq_true rfl⟩) hS (fun q _ h => hFc q h) hFc (fun r u t H locs ht hvm hw hBt hz1 hk1 hS => ?_) (fun cls xx H locs hth hnew hce hz hk hS => ?_)
  · exact hw.elim
  · have hP : va_P (dC, dI) classes [(x, .inr (0, [.ref tp, .int 0, .int ((-1)), .ref sg, .null, .null, .ref st, .null, .ref ft, .null, .ref hy, .null, .null, .int 0, .null, .null, .null, .null, .null, .null, .int 0])), (ou, .inl (cJ, 1, .inr (.inl fo)))] H := te_keep hP hk
    rcases hth with ⟨rfl, hR⟩ | ⟨rfl, hR⟩
    · refine te_catch (own := "ScholarsPressLaw") (D := x_IAE) (hpc := 13) (pre := []) (en := e1) (tl := [e2]) hown hce (by rw [hxs]; rfl) (fun y hy => by cases hy) (by simp [covers, a1_1, a1_2]) (by rw [a1_4]; decide) a1_3 (by rw [a1_4]; exact hts _ k_653) te_same ?_
      refine lv_astore (lv' := [(4, .ref xx), (0, .ref x), (1, .int a), (2, .int w), (3, .ref ou)]) hx hb d_LW_element_13 hl (by decide) rfl (fun ls hl => ?_)
      refine lv_iconst (v := 1) hx hb d_LW_element_15 (by decide) ?_
      have hP9 := hP.sub (ws' := [(ou, .inl (cJ, 1, .inr (.inl fo)))]) [1] rfl
      have hD9 := hD.sub (ws' := [(ou, .inl (cJ, 1, .inr (.inl fo)))]) [1] (by decide) rfl
      have hK9 := hK.sub (tys' := [(cJ, .long)]) [0] rfl
      exact W.iret (v := 1) hx hb hr (fun t ht hW => ⟨⟨1, fo, rfl, Or.inl ⟨rfl, hR⟩, by rw [ht]; exact hP9, va_K.moved hW.alike hK9, hD9⟩, hS.F ht⟩) hS.2.2 d_LW_element_16
    · refine te_catch (own := "ScholarsPressLaw") (D := x_ISE) (hpc := 17) (pre := [e1]) (en := e2) (tl := []) hown hce (by rw [hxs]; rfl) (fun y hy => by rw [List.mem_singleton.mp hy]; exact Or.inr ⟨by simp [covers, a1_1, a1_2], by rw [a1_4]; decide, x_IAE, by rw [a1_4]; exact hts _ k_653, hNc.moved hB0.1⟩) (by simp [covers, a2_1, a2_2]) (by rw [a2_4]; decide) a2_3 (by rw [a2_4]; exact hts _ k_1387) te_same ?_
      refine lv_astore (lv' := [(4, .ref xx), (0, .ref x), (1, .int a), (2, .int w), (3, .ref ou)]) hx hb d_LW_element_17 hl (by decide) rfl (fun ls hl => ?_)
      refine lv_iconst (v := 2) hx hb d_LW_element_19 (by decide) ?_
      have hP9 := hP.sub (ws' := [(ou, .inl (cJ, 1, .inr (.inl fo)))]) [1] rfl
      have hD9 := hD.sub (ws' := [(ou, .inl (cJ, 1, .inr (.inl fo)))]) [1] (by decide) rfl
      have hK9 := hK.sub (tys' := [(cJ, .long)]) [0] rfl
      exact W.iret (v := 2) hx hb hr (fun t ht hW => ⟨⟨2, fo, rfl, Or.inr (⟨rfl, hR⟩), by rw [ht]; exact hP9, va_K.moved hW.alike hK9, hD9⟩, hS.F ht⟩) hS.2.2 d_LW_element_20
set_option maxHeartbeats 4000000 in
set_option maxRecDepth 100000 in
/-- the law's line on a fresh object -/
theorem c_LW_line {l : Launch} (hfl : l.flags = flags0) {s0 : State} (hS0 : te_S0 s0) (hNc : va_Nc x_ISE x_IAE s0) (dC : Nat → ClassId) (dI : Nat → Nat → Nat) (x tp sg st ft hy ou : Nat) (cJ : ClassId) (fo : Nat → Int64) (a w : Int32) (sz : Nat) : Met l y_LW_line [w_LW_line] ({ frames := 8, cells := 1, slots := 6, locals := 260 }) (va_Pc [.ref x, .int a, .int w, .ref ou] (prT s0 sz (dC, dI) [(x, .inr (0, [.ref tp, .int 0, .int ((-1)), .ref sg, .null, .null, .ref st, .null, .ref ft, .null, .ref hy, .null, .null, .int 0, .null, .null, .null, .null, .null, .null, .int 0])), (ou, .inl (cJ, 1, .inr (.inl fo)))] [(cJ, .long)])) (va_Qi (fun (r : Int32) (u : Nat → Int64) => (r = 1 ∧ ¬ (0 ≤ w.toInt ∧ w.toInt ≤ 6)) ∨ (r = 2 ∧ (0 ≤ w.toInt ∧ w.toInt ≤ 6))) (bw (dC, dI) (va_A [(x, .inr (0, [.ref tp, .int 0, .int ((-1)), .ref sg, .null, .null, .ref st, .null, .ref ft, .null, .ref hy, .null, .null, .int 0, .null, .null, .null, .null, .null, .null, .int 0])), (ou, .inl (cJ, 1, .inr (.inl fo)))] sz) (fun u => [(ou, .inl (cJ, 1, .inr (.inl u)))]) (fun _ => [(cJ, .long)])) (va_A [(x, .inr (0, [.ref tp, .int 0, .int ((-1)), .ref sg, .null, .null, .ref st, .null, .ref ft, .null, .ref hy, .null, .null, .int 0, .null, .null, .null, .null, .null, .null, .int 0])), (ou, .inl (cJ, 1, .inr (.inl fo)))] sz)) 1 6 (va_A [(x, .inr (0, [.ref tp, .int 0, .int ((-1)), .ref sg, .null, .null, .ref st, .null, .ref ft, .null, .ref hy, .null, .null, .int 0, .null, .null, .null, .null, .null, .null, .int 0])), (ou, .inl (cJ, 1, .inr (.inl fo)))] sz) := by
  refine va_MetW (cc := b_LW_line) (maxL := 5) (ret := (some .int)) (hh := [(0, 10, 13, 19), (0, 10, 17, 40), (0, 10, 21, 13)]) (by decide) rfl ?_
  intro p e s m args below meth c s₁ B hml hv
  obtain ⟨rfl, hsz, hb0, hB0, hP, hK, hD0⟩ := hv
  have hx := B.exec
  have hb := B.bytes
  have hr := B.returns
  have hts : ∀ wq ∈ tt, wq.before ([.ref x, .int a, .int w, .ref ou] : List Value).toArray s = true := hb0.hts
  have hown : s.vm.findClass "ScholarsPressLaw" = some m.cls := findClass_of_methodNamed B.named
  have hlocks := B.notSynchronized
  obtain ⟨e1, e2, e3, hxs, he1, he2, he3⟩ := te_e3 (te_tab B ((atoms_spec (ws := [w_LW_line]) B.pre) _ List.mem_cons_self))
  simp only [Prod.mk.injEq] at he1
  obtain ⟨a1_1, a1_2, a1_3, a1_4⟩ := he1
  simp only [Prod.mk.injEq] at he2
  obtain ⟨a2_1, a2_2, a2_3, a2_4⟩ := he2
  simp only [Prod.mk.injEq] at he3
  obtain ⟨a3_1, a3_2, a3_3, a3_4⟩ := he3
  subst hsz
  have hD := hD0.self (sz := s.heap.size)
  generalize hAe : va_A [(x, .inr (0, [.ref tp, .int 0, .int ((-1)), .ref sg, .null, .null, .ref st, .null, .ref ft, .null, .ref hy, .null, .null, .int 0, .null, .null, .null, .null, .null, .null, .int 0])), (ou, .inl (cJ, 1, .inr (.inl fo)))] s.heap.size = A at hD ⊢
  have hA : ∀ q : Nat, s.heap.size ≤ q → A q := fun q h => by rw [← hAe]; exact Or.inr h
  have hS : va_S A s.heap s.heap [] := va_S.rf
  have hP : va_P (dC, dI) classes [(x, .inr (0, [.ref tp, .int 0, .int ((-1)), .ref sg, .null, .null, .ref st, .null, .ref ft, .null, .ref hy, .null, .null, .int 0, .null, .null, .null, .null, .null, .null, .int 0])), (ou, .inl (cJ, 1, .inr (.inl fo)))] s.heap := hP
  have hl := lv_entry ([.ref x, .int a, .int w, .ref ou]) (n := 5) (Nat.le_of_ble_eq_true rfl)
  rw [lg_entry_eq]
  generalize (lg_sl ([.ref x, .int a, .int w, .ref ou]) ++ List.replicate (5 - (lg_sl ([.ref x, .int a, .int w, .ref ou])).length) Slot.unset).toArray = ls at hl ⊢
  have hl : lv_has ls 5 [(0, .ref x), (1, .int a), (2, .int w), (3, .ref ou)] := hl
  refine lv_aload_n hx hb d_LW_line_0 rfl (lv_at hl 3 rfl) ?_
  refine lv_iconst (v := 0) hx hb d_LW_line_1 (by decide) ?_
  refine lv_aload_n hx hb d_LW_line_2 rfl (lv_at hl 0 rfl) ?_
  refine lv_iload_n hx hb d_LW_line_3 rfl (lv_at hl 1 rfl) ?_
  refine lv_iload_n hx hb d_LW_line_4 rfl (lv_at hl 2 rfl) ?_
  have hFc := va_free (wc := [(x, .inr (0, [.ref tp, .int 0, .int ((-1)), .ref sg, .null, .null, .ref st, .null, .ref ft, .null, .ref hy, .null, .null, .int 0, .null, .null, .null, .null, .null, .null, .int 0]))]) hD hS hA [0] rfl
  refine te_calli (A0 := A) (A1 := va_A [(x, .inr (0, [.ref tp, .int 0, .int ((-1)), .ref sg, .null, .null, .ref st, .null, .ref ft, .null, .ref hy, .null, .null, .int 0, .null, .null, .null, .null, .null, .null, .int 0]))] s.heap.size) (te_runV (As := [.int a, .int w]) (rest := [.int 0, .ref ou]) ⟨hx, hb, hml, hown, hts⟩ (c_SP_line hfl hS0 dC dI x tp sg st ft hy a w s.heap.size) (cwV 2 hts (tt_V k_2525 k_2526 k_2527 k_240 kw_SP_line) rfl rfl rfl (by decide +kernel) ⟨Nat.le_of_ble_eq_true rfl, Nat.le_of_ble_eq_true rfl⟩) ⟨prT_blind, va_recv hK hP (ci := 0) (q0 := 0) rfl rfl, prT_pre hb0 ⟨hB0.1, hB0.2⟩ (hP.sub [0] rfl) (hK.sub [] rfl) (hD.sub [0] (by decide) rfl)⟩ rfl rfl hl.1 rfl (lv_room (Nat.le_of_ble_eq_true rfl)) d_LW_line_5 ⟨Nat.le_of_ble_eq_true rfl, Nat.le_of_ble_eq_true rfl⟩) hS (fun q _ h => hFc q h) hFc (fun r u t H locs ht hvm hw hBt hz1 hk1 hS => ?_) (fun cls xx H locs hth hnew hce hz hk hS => ?_)
  · exact hw.elim
  · have hP : va_P (dC, dI) classes [(x, .inr (0, [.ref tp, .int 0, .int ((-1)), .ref sg, .null, .null, .ref st, .null, .ref ft, .null, .ref hy, .null, .null, .int 0, .null, .null, .null, .null, .null, .null, .int 0])), (ou, .inl (cJ, 1, .inr (.inl fo)))] H := te_keep hP hk
    rcases hth with ⟨rfl, hR⟩ | ⟨rfl, hR⟩
    · refine te_catch (own := "ScholarsPressLaw") (D := x_IAE) (hpc := 13) (pre := []) (en := e1) (tl := [e2, e3]) hown hce (by rw [hxs]; rfl) (fun y hy => by cases hy) (by simp [covers, a1_1, a1_2]) (by rw [a1_4]; decide) a1_3 (by rw [a1_4]; exact hts _ k_653) te_same ?_
      refine lv_astore (lv' := [(4, .ref xx), (0, .ref x), (1, .int a), (2, .int w), (3, .ref ou)]) hx hb d_LW_line_13 hl (by decide) rfl (fun ls hl => ?_)
      refine lv_iconst (v := 1) hx hb d_LW_line_15 (by decide) ?_
      have hP9 := hP.sub (ws' := [(ou, .inl (cJ, 1, .inr (.inl fo)))]) [1] rfl
      have hD9 := hD.sub (ws' := [(ou, .inl (cJ, 1, .inr (.inl fo)))]) [1] (by decide) rfl
      have hK9 := hK.sub (tys' := [(cJ, .long)]) [0] rfl
      exact W.iret (v := 1) hx hb hr (fun t ht hW => ⟨⟨1, fo, rfl, Or.inl ⟨rfl, hR⟩, by rw [ht]; exact hP9, va_K.moved hW.alike hK9, hD9⟩, hS.F ht⟩) hS.2.2 d_LW_line_16
    · refine te_catch (own := "ScholarsPressLaw") (D := x_ISE) (hpc := 17) (pre := [e1]) (en := e2) (tl := [e3]) hown hce (by rw [hxs]; rfl) (fun y hy => by rw [List.mem_singleton.mp hy]; exact Or.inr ⟨by simp [covers, a1_1, a1_2], by rw [a1_4]; decide, x_IAE, by rw [a1_4]; exact hts _ k_653, hNc.moved hB0.1⟩) (by simp [covers, a2_1, a2_2]) (by rw [a2_4]; decide) a2_3 (by rw [a2_4]; exact hts _ k_1387) te_same ?_
      refine lv_astore (lv' := [(4, .ref xx), (0, .ref x), (1, .int a), (2, .int w), (3, .ref ou)]) hx hb d_LW_line_17 hl (by decide) rfl (fun ls hl => ?_)
      refine lv_iconst (v := 2) hx hb d_LW_line_19 (by decide) ?_
      have hP9 := hP.sub (ws' := [(ou, .inl (cJ, 1, .inr (.inl fo)))]) [1] rfl
      have hD9 := hD.sub (ws' := [(ou, .inl (cJ, 1, .inr (.inl fo)))]) [1] (by decide) rfl
      have hK9 := hK.sub (tys' := [(cJ, .long)]) [0] rfl
      exact W.iret (v := 2) hx hb hr (fun t ht hW => ⟨⟨2, fo, rfl, Or.inr (⟨rfl, hR⟩), by rw [ht]; exact hP9, va_K.moved hW.alike hK9, hD9⟩, hS.F ht⟩) hS.2.2 d_LW_line_20
set_option maxHeartbeats 4000000 in
set_option maxRecDepth 100000 in
/-- the law's spot on a fresh object -/
theorem c_LW_spot {l : Launch} (hfl : l.flags = flags0) {s0 : State} (hS0 : te_S0 s0) (hNc : va_Nc x_ISE x_IAE s0) (dC : Nat → ClassId) (dI : Nat → Nat → Nat) (x tp sg st ft hy ou : Nat) (cJ : ClassId) (fo : Nat → Int64) (a w : Int32) (sz : Nat) : Met l y_LW_spot [w_LW_spot] ({ frames := 8, cells := 1, slots := 6, locals := 260 }) (va_Pc [.ref x, .int a, .int w, .ref ou] (prT s0 sz (dC, dI) [(x, .inr (0, [.ref tp, .int 0, .int ((-1)), .ref sg, .null, .null, .ref st, .null, .ref ft, .null, .ref hy, .null, .null, .int 0, .null, .null, .null, .null, .null, .null, .int 0])), (ou, .inl (cJ, 1, .inr (.inl fo)))] [(cJ, .long)])) (va_Qi (fun (r : Int32) (u : Nat → Int64) => r = 1 ∧ True) (bw (dC, dI) (va_A [(x, .inr (0, [.ref tp, .int 0, .int ((-1)), .ref sg, .null, .null, .ref st, .null, .ref ft, .null, .ref hy, .null, .null, .int 0, .null, .null, .null, .null, .null, .null, .int 0])), (ou, .inl (cJ, 1, .inr (.inl fo)))] sz) (fun u => [(ou, .inl (cJ, 1, .inr (.inl u)))]) (fun _ => [(cJ, .long)])) (va_A [(x, .inr (0, [.ref tp, .int 0, .int ((-1)), .ref sg, .null, .null, .ref st, .null, .ref ft, .null, .ref hy, .null, .null, .int 0, .null, .null, .null, .null, .null, .null, .int 0])), (ou, .inl (cJ, 1, .inr (.inl fo)))] sz)) 1 6 (va_A [(x, .inr (0, [.ref tp, .int 0, .int ((-1)), .ref sg, .null, .null, .ref st, .null, .ref ft, .null, .ref hy, .null, .null, .int 0, .null, .null, .null, .null, .null, .null, .int 0])), (ou, .inl (cJ, 1, .inr (.inl fo)))] sz) := by
  refine va_MetW (cc := b_LW_spot) (maxL := 5) (ret := (some .int)) (hh := [(0, 9, 12, 40), (0, 9, 16, 13)]) (by decide) rfl ?_
  intro p e s m args below meth c s₁ B hml hv
  obtain ⟨rfl, hsz, hb0, hB0, hP, hK, hD0⟩ := hv
  have hx := B.exec
  have hb := B.bytes
  have hr := B.returns
  have hts : ∀ wq ∈ tt, wq.before ([.ref x, .int a, .int w, .ref ou] : List Value).toArray s = true := hb0.hts
  have hown : s.vm.findClass "ScholarsPressLaw" = some m.cls := findClass_of_methodNamed B.named
  have hlocks := B.notSynchronized
  obtain ⟨e1, e2, hxs, he1, he2⟩ := te_e2 (te_tab B ((atoms_spec (ws := [w_LW_spot]) B.pre) _ List.mem_cons_self))
  simp only [Prod.mk.injEq] at he1
  obtain ⟨a1_1, a1_2, a1_3, a1_4⟩ := he1
  simp only [Prod.mk.injEq] at he2
  obtain ⟨a2_1, a2_2, a2_3, a2_4⟩ := he2
  subst hsz
  have hD := hD0.self (sz := s.heap.size)
  generalize hAe : va_A [(x, .inr (0, [.ref tp, .int 0, .int ((-1)), .ref sg, .null, .null, .ref st, .null, .ref ft, .null, .ref hy, .null, .null, .int 0, .null, .null, .null, .null, .null, .null, .int 0])), (ou, .inl (cJ, 1, .inr (.inl fo)))] s.heap.size = A at hD ⊢
  have hA : ∀ q : Nat, s.heap.size ≤ q → A q := fun q h => by rw [← hAe]; exact Or.inr h
  have hS : va_S A s.heap s.heap [] := va_S.rf
  have hP : va_P (dC, dI) classes [(x, .inr (0, [.ref tp, .int 0, .int ((-1)), .ref sg, .null, .null, .ref st, .null, .ref ft, .null, .ref hy, .null, .null, .int 0, .null, .null, .null, .null, .null, .null, .int 0])), (ou, .inl (cJ, 1, .inr (.inl fo)))] s.heap := hP
  have hl := lv_entry ([.ref x, .int a, .int w, .ref ou]) (n := 5) (Nat.le_of_ble_eq_true rfl)
  rw [lg_entry_eq]
  generalize (lg_sl ([.ref x, .int a, .int w, .ref ou]) ++ List.replicate (5 - (lg_sl ([.ref x, .int a, .int w, .ref ou])).length) Slot.unset).toArray = ls at hl ⊢
  have hl : lv_has ls 5 [(0, .ref x), (1, .int a), (2, .int w), (3, .ref ou)] := hl
  refine lv_aload_n hx hb d_LW_spot_0 rfl (lv_at hl 3 rfl) ?_
  refine lv_iconst (v := 0) hx hb d_LW_spot_1 (by decide) ?_
  refine lv_aload_n hx hb d_LW_spot_2 rfl (lv_at hl 0 rfl) ?_
  refine lv_iload_n hx hb d_LW_spot_3 rfl (lv_at hl 1 rfl) ?_
  refine lv_iload_n hx hb d_LW_spot_4 rfl (lv_at hl 2 rfl) ?_
  have hFc := va_free (wc := [(x, .inr (0, [.ref tp, .int 0, .int ((-1)), .ref sg, .null, .null, .ref st, .null, .ref ft, .null, .ref hy, .null, .null, .int 0, .null, .null, .null, .null, .null, .null, .int 0]))]) hD hS hA [0] rfl
  refine te_calll (A0 := A) (A1 := va_A [(x, .inr (0, [.ref tp, .int 0, .int ((-1)), .ref sg, .null, .null, .ref st, .null, .ref ft, .null, .ref hy, .null, .null, .int 0, .null, .null, .null, .null, .null, .null, .int 0]))] s.heap.size) (te_runV (As := [.int a, .int w]) (rest := [.int 0, .ref ou]) ⟨hx, hb, hml, hown, hts⟩ (c_SP_spot hfl hS0 dC dI x tp sg st ft hy a w s.heap.size) (cwV 2 hts (tt_V k_2550 k_2551 k_2552 k_240 kw_SP_spot) rfl rfl rfl (by decide +kernel) ⟨Nat.le_of_ble_eq_true rfl, Nat.le_of_ble_eq_true rfl⟩) ⟨prT_blind, va_recv hK hP (ci := 0) (q0 := 0) rfl rfl, prT_pre hb0 ⟨hB0.1, hB0.2⟩ (hP.sub [0] rfl) (hK.sub [] rfl) (hD.sub [0] (by decide) rfl)⟩ rfl rfl hl.1 rfl (lv_room (Nat.le_of_ble_eq_true rfl)) d_LW_spot_5 ⟨Nat.le_of_ble_eq_true rfl, Nat.le_of_ble_eq_true rfl⟩) hS (fun q _ h => hFc q h) hFc (fun r u t H locs ht hvm hw hBt hz1 hk1 hS => ?_) (fun cls xx H locs hth hnew hce hz hk hS => ?_)
  · exact hw.elim
  · have hP : va_P (dC, dI) classes [(x, .inr (0, [.ref tp, .int 0, .int ((-1)), .ref sg, .null, .null, .ref st, .null, .ref ft, .null, .ref hy, .null, .null, .int 0, .null, .null, .null, .null, .null, .null, .int 0])), (ou, .inl (cJ, 1, .inr (.inl fo)))] H := te_keep hP hk
    rcases hth with ⟨rfl, hR⟩
    refine te_catch (own := "ScholarsPressLaw") (D := x_ISE) (hpc := 12) (pre := []) (en := e1) (tl := [e2]) hown hce (by rw [hxs]; rfl) (fun y hy => by cases hy) (by simp [covers, a1_1, a1_2]) (by rw [a1_4]; decide) a1_3 (by rw [a1_4]; exact hts _ k_1387) te_same ?_
    refine lv_astore (lv' := [(4, .ref xx), (0, .ref x), (1, .int a), (2, .int w), (3, .ref ou)]) hx hb d_LW_spot_12 hl (by decide) rfl (fun ls hl => ?_)
    refine lv_iconst (v := 1) hx hb d_LW_spot_14 (by decide) ?_
    have hP9 := hP.sub (ws' := [(ou, .inl (cJ, 1, .inr (.inl fo)))]) [1] rfl
    have hD9 := hD.sub (ws' := [(ou, .inl (cJ, 1, .inr (.inl fo)))]) [1] (by decide) rfl
    have hK9 := hK.sub (tys' := [(cJ, .long)]) [0] rfl
    exact W.iret (v := 1) hx hb hr (fun t ht hW => ⟨⟨1, fo, rfl, ⟨rfl, hR⟩, by rw [ht]; exact hP9, va_K.moved hW.alike hK9, hD9⟩, hS.F ht⟩) hS.2.2 d_LW_spot_15
set_option maxHeartbeats 4000000 in
set_option maxRecDepth 100000 in
/-- the law's paragraph on a fresh object -/
theorem c_LW_paragraph {l : Launch} (hfl : l.flags = flags0) {s0 : State} (hS0 : te_S0 s0) (hNc : va_Nc x_ISE x_IAE s0) (dC : Nat → ClassId) (dI : Nat → Nat → Nat) (x tp sg st ft hy ou : Nat) (cJ : ClassId) (fo : Nat → Int64) (a w : Int32) (sz : Nat) : Met l y_LW_paragraph [w_LW_paragraph] ({ frames := 8, cells := 1, slots := 6, locals := 260 }) (va_Pc [.ref x, .int a, .int w, .ref ou] (prT s0 sz (dC, dI) [(x, .inr (0, [.ref tp, .int 0, .int ((-1)), .ref sg, .null, .null, .ref st, .null, .ref ft, .null, .ref hy, .null, .null, .int 0, .null, .null, .null, .null, .null, .null, .int 0])), (ou, .inl (cJ, 1, .inr (.inl fo)))] [(cJ, .long)])) (va_Qi (fun (r : Int32) (u : Nat → Int64) => (r = 1 ∧ ¬ (0 ≤ w.toInt ∧ w.toInt ≤ 6)) ∨ (r = 2 ∧ (0 ≤ w.toInt ∧ w.toInt ≤ 6))) (bw (dC, dI) (va_A [(x, .inr (0, [.ref tp, .int 0, .int ((-1)), .ref sg, .null, .null, .ref st, .null, .ref ft, .null, .ref hy, .null, .null, .int 0, .null, .null, .null, .null, .null, .null, .int 0])), (ou, .inl (cJ, 1, .inr (.inl fo)))] sz) (fun u => [(ou, .inl (cJ, 1, .inr (.inl u)))]) (fun _ => [(cJ, .long)])) (va_A [(x, .inr (0, [.ref tp, .int 0, .int ((-1)), .ref sg, .null, .null, .ref st, .null, .ref ft, .null, .ref hy, .null, .null, .int 0, .null, .null, .null, .null, .null, .null, .int 0])), (ou, .inl (cJ, 1, .inr (.inl fo)))] sz)) 1 6 (va_A [(x, .inr (0, [.ref tp, .int 0, .int ((-1)), .ref sg, .null, .null, .ref st, .null, .ref ft, .null, .ref hy, .null, .null, .int 0, .null, .null, .null, .null, .null, .null, .int 0])), (ou, .inl (cJ, 1, .inr (.inl fo)))] sz) := by
  refine va_MetW (cc := b_LW_paragraph) (maxL := 5) (ret := (some .int)) (hh := [(0, 9, 12, 19), (0, 9, 16, 40), (0, 9, 20, 13)]) (by decide) rfl ?_
  intro p e s m args below meth c s₁ B hml hv
  obtain ⟨rfl, hsz, hb0, hB0, hP, hK, hD0⟩ := hv
  have hx := B.exec
  have hb := B.bytes
  have hr := B.returns
  have hts : ∀ wq ∈ tt, wq.before ([.ref x, .int a, .int w, .ref ou] : List Value).toArray s = true := hb0.hts
  have hown : s.vm.findClass "ScholarsPressLaw" = some m.cls := findClass_of_methodNamed B.named
  have hlocks := B.notSynchronized
  obtain ⟨e1, e2, e3, hxs, he1, he2, he3⟩ := te_e3 (te_tab B ((atoms_spec (ws := [w_LW_paragraph]) B.pre) _ List.mem_cons_self))
  simp only [Prod.mk.injEq] at he1
  obtain ⟨a1_1, a1_2, a1_3, a1_4⟩ := he1
  simp only [Prod.mk.injEq] at he2
  obtain ⟨a2_1, a2_2, a2_3, a2_4⟩ := he2
  simp only [Prod.mk.injEq] at he3
  obtain ⟨a3_1, a3_2, a3_3, a3_4⟩ := he3
  subst hsz
  have hD := hD0.self (sz := s.heap.size)
  generalize hAe : va_A [(x, .inr (0, [.ref tp, .int 0, .int ((-1)), .ref sg, .null, .null, .ref st, .null, .ref ft, .null, .ref hy, .null, .null, .int 0, .null, .null, .null, .null, .null, .null, .int 0])), (ou, .inl (cJ, 1, .inr (.inl fo)))] s.heap.size = A at hD ⊢
  have hA : ∀ q : Nat, s.heap.size ≤ q → A q := fun q h => by rw [← hAe]; exact Or.inr h
  have hS : va_S A s.heap s.heap [] := va_S.rf
  have hP : va_P (dC, dI) classes [(x, .inr (0, [.ref tp, .int 0, .int ((-1)), .ref sg, .null, .null, .ref st, .null, .ref ft, .null, .ref hy, .null, .null, .int 0, .null, .null, .null, .null, .null, .null, .int 0])), (ou, .inl (cJ, 1, .inr (.inl fo)))] s.heap := hP
  have hl := lv_entry ([.ref x, .int a, .int w, .ref ou]) (n := 5) (Nat.le_of_ble_eq_true rfl)
  rw [lg_entry_eq]
  generalize (lg_sl ([.ref x, .int a, .int w, .ref ou]) ++ List.replicate (5 - (lg_sl ([.ref x, .int a, .int w, .ref ou])).length) Slot.unset).toArray = ls at hl ⊢
  have hl : lv_has ls 5 [(0, .ref x), (1, .int a), (2, .int w), (3, .ref ou)] := hl
  refine lv_aload_n hx hb d_LW_paragraph_0 rfl (lv_at hl 3 rfl) ?_
  refine lv_iconst (v := 0) hx hb d_LW_paragraph_1 (by decide) ?_
  refine lv_aload_n hx hb d_LW_paragraph_2 rfl (lv_at hl 0 rfl) ?_
  refine lv_iload_n hx hb d_LW_paragraph_3 rfl (lv_at hl 1 rfl) ?_
  refine lv_iload_n hx hb d_LW_paragraph_4 rfl (lv_at hl 2 rfl) ?_
  have hFc := va_free (wc := [(x, .inr (0, [.ref tp, .int 0, .int ((-1)), .ref sg, .null, .null, .ref st, .null, .ref ft, .null, .ref hy, .null, .null, .int 0, .null, .null, .null, .null, .null, .null, .int 0]))]) hD hS hA [0] rfl
  refine te_calll (A0 := A) (A1 := va_A [(x, .inr (0, [.ref tp, .int 0, .int ((-1)), .ref sg, .null, .null, .ref st, .null, .ref ft, .null, .ref hy, .null, .null, .int 0, .null, .null, .null, .null, .null, .null, .int 0]))] s.heap.size) (te_runV (As := [.int a, .int w]) (rest := [.int 0, .ref ou]) ⟨hx, hb, hml, hown, hts⟩ (c_SP_paragraph hfl hS0 dC dI x tp sg st ft hy a w s.heap.size) (cwV 2 hts (tt_V k_2569 k_2570 k_2571 k_240 kw_SP_paragraph) rfl rfl rfl (by decide +kernel) ⟨Nat.le_of_ble_eq_true rfl, Nat.le_of_ble_eq_true rfl⟩) ⟨prT_blind, va_recv hK hP (ci := 0) (q0 := 0) rfl rfl, prT_pre hb0 ⟨hB0.1, hB0.2⟩ (hP.sub [0] rfl) (hK.sub [] rfl) (hD.sub [0] (by decide) rfl)⟩ rfl rfl hl.1 rfl (lv_room (Nat.le_of_ble_eq_true rfl)) d_LW_paragraph_5 ⟨Nat.le_of_ble_eq_true rfl, Nat.le_of_ble_eq_true rfl⟩) hS (fun q _ h => hFc q h) hFc (fun r u t H locs ht hvm hw hBt hz1 hk1 hS => ?_) (fun cls xx H locs hth hnew hce hz hk hS => ?_)
  · exact hw.elim
  · have hP : va_P (dC, dI) classes [(x, .inr (0, [.ref tp, .int 0, .int ((-1)), .ref sg, .null, .null, .ref st, .null, .ref ft, .null, .ref hy, .null, .null, .int 0, .null, .null, .null, .null, .null, .null, .int 0])), (ou, .inl (cJ, 1, .inr (.inl fo)))] H := te_keep hP hk
    rcases hth with ⟨rfl, hR⟩ | ⟨rfl, hR⟩
    · refine te_catch (own := "ScholarsPressLaw") (D := x_IAE) (hpc := 12) (pre := []) (en := e1) (tl := [e2, e3]) hown hce (by rw [hxs]; rfl) (fun y hy => by cases hy) (by simp [covers, a1_1, a1_2]) (by rw [a1_4]; decide) a1_3 (by rw [a1_4]; exact hts _ k_653) te_same ?_
      refine lv_astore (lv' := [(4, .ref xx), (0, .ref x), (1, .int a), (2, .int w), (3, .ref ou)]) hx hb d_LW_paragraph_12 hl (by decide) rfl (fun ls hl => ?_)
      refine lv_iconst (v := 1) hx hb d_LW_paragraph_14 (by decide) ?_
      have hP9 := hP.sub (ws' := [(ou, .inl (cJ, 1, .inr (.inl fo)))]) [1] rfl
      have hD9 := hD.sub (ws' := [(ou, .inl (cJ, 1, .inr (.inl fo)))]) [1] (by decide) rfl
      have hK9 := hK.sub (tys' := [(cJ, .long)]) [0] rfl
      exact W.iret (v := 1) hx hb hr (fun t ht hW => ⟨⟨1, fo, rfl, Or.inl ⟨rfl, hR⟩, by rw [ht]; exact hP9, va_K.moved hW.alike hK9, hD9⟩, hS.F ht⟩) hS.2.2 d_LW_paragraph_15
    · refine te_catch (own := "ScholarsPressLaw") (D := x_ISE) (hpc := 16) (pre := [e1]) (en := e2) (tl := [e3]) hown hce (by rw [hxs]; rfl) (fun y hy => by rw [List.mem_singleton.mp hy]; exact Or.inr ⟨by simp [covers, a1_1, a1_2], by rw [a1_4]; decide, x_IAE, by rw [a1_4]; exact hts _ k_653, hNc.moved hB0.1⟩) (by simp [covers, a2_1, a2_2]) (by rw [a2_4]; decide) a2_3 (by rw [a2_4]; exact hts _ k_1387) te_same ?_
      refine lv_astore (lv' := [(4, .ref xx), (0, .ref x), (1, .int a), (2, .int w), (3, .ref ou)]) hx hb d_LW_paragraph_16 hl (by decide) rfl (fun ls hl => ?_)
      refine lv_iconst (v := 2) hx hb d_LW_paragraph_18 (by decide) ?_
      have hP9 := hP.sub (ws' := [(ou, .inl (cJ, 1, .inr (.inl fo)))]) [1] rfl
      have hD9 := hD.sub (ws' := [(ou, .inl (cJ, 1, .inr (.inl fo)))]) [1] (by decide) rfl
      have hK9 := hK.sub (tys' := [(cJ, .long)]) [0] rfl
      exact W.iret (v := 2) hx hb hr (fun t ht hW => ⟨⟨2, fo, rfl, Or.inr (⟨rfl, hR⟩), by rw [ht]; exact hP9, va_K.moved hW.alike hK9, hD9⟩, hS.F ht⟩) hS.2.2 d_LW_paragraph_19
set_option maxHeartbeats 4000000 in
set_option maxRecDepth 100000 in
/-- the law's judge on a fresh object -/
theorem c_LW_judge {l : Launch} (hfl : l.flags = flags0) {s0 : State} (hS0 : te_S0 s0) (hNc : va_Nc x_ISE x_IAE s0) (dC : Nat → ClassId) (dI : Nat → Nat → Nat) (x tp sg st ft hy ou : Nat) (cJ : ClassId) (fo : Nat → Int64) (a : Int32) (sz : Nat) : Met l y_LW_judge [w_LW_judge] ({ frames := 8, cells := 1, slots := 6, locals := 260 }) (va_Pc [.ref x, .int a, .ref ou] (prT s0 sz (dC, dI) [(x, .inr (0, [.ref tp, .int 0, .int ((-1)), .ref sg, .null, .null, .ref st, .null, .ref ft, .null, .ref hy, .null, .null, .int 0, .null, .null, .null, .null, .null, .null, .int 0])), (ou, .inl (cJ, 1, .inr (.inl fo)))] [(cJ, .long)])) (va_Qi (fun (r : Int32) (u : Nat → Int64) => r = 1 ∧ True) (bw (dC, dI) (va_A [(x, .inr (0, [.ref tp, .int 0, .int ((-1)), .ref sg, .null, .null, .ref st, .null, .ref ft, .null, .ref hy, .null, .null, .int 0, .null, .null, .null, .null, .null, .null, .int 0])), (ou, .inl (cJ, 1, .inr (.inl fo)))] sz) (fun u => [(ou, .inl (cJ, 1, .inr (.inl u)))]) (fun _ => [(cJ, .long)])) (va_A [(x, .inr (0, [.ref tp, .int 0, .int ((-1)), .ref sg, .null, .null, .ref st, .null, .ref ft, .null, .ref hy, .null, .null, .int 0, .null, .null, .null, .null, .null, .null, .int 0])), (ou, .inl (cJ, 1, .inr (.inl fo)))] sz)) 1 6 (va_A [(x, .inr (0, [.ref tp, .int 0, .int ((-1)), .ref sg, .null, .null, .ref st, .null, .ref ft, .null, .ref hy, .null, .null, .int 0, .null, .null, .null, .null, .null, .null, .int 0])), (ou, .inl (cJ, 1, .inr (.inl fo)))] sz) := by
  refine va_MetW (cc := b_LW_judge) (maxL := 4) (ret := (some .int)) (hh := [(0, 8, 11, 40), (0, 8, 14, 13), (0, 8, 17, 25)]) (by decide) rfl ?_
  intro p e s m args below meth c s₁ B hml hv
  obtain ⟨rfl, hsz, hb0, hB0, hP, hK, hD0⟩ := hv
  have hx := B.exec
  have hb := B.bytes
  have hr := B.returns
  have hts : ∀ wq ∈ tt, wq.before ([.ref x, .int a, .ref ou] : List Value).toArray s = true := hb0.hts
  have hown : s.vm.findClass "ScholarsPressLaw" = some m.cls := findClass_of_methodNamed B.named
  have hlocks := B.notSynchronized
  obtain ⟨e1, e2, e3, hxs, he1, he2, he3⟩ := te_e3 (te_tab B ((atoms_spec (ws := [w_LW_judge]) B.pre) _ List.mem_cons_self))
  simp only [Prod.mk.injEq] at he1
  obtain ⟨a1_1, a1_2, a1_3, a1_4⟩ := he1
  simp only [Prod.mk.injEq] at he2
  obtain ⟨a2_1, a2_2, a2_3, a2_4⟩ := he2
  simp only [Prod.mk.injEq] at he3
  obtain ⟨a3_1, a3_2, a3_3, a3_4⟩ := he3
  subst hsz
  have hD := hD0.self (sz := s.heap.size)
  generalize hAe : va_A [(x, .inr (0, [.ref tp, .int 0, .int ((-1)), .ref sg, .null, .null, .ref st, .null, .ref ft, .null, .ref hy, .null, .null, .int 0, .null, .null, .null, .null, .null, .null, .int 0])), (ou, .inl (cJ, 1, .inr (.inl fo)))] s.heap.size = A at hD ⊢
  have hA : ∀ q : Nat, s.heap.size ≤ q → A q := fun q h => by rw [← hAe]; exact Or.inr h
  have hS : va_S A s.heap s.heap [] := va_S.rf
  have hP : va_P (dC, dI) classes [(x, .inr (0, [.ref tp, .int 0, .int ((-1)), .ref sg, .null, .null, .ref st, .null, .ref ft, .null, .ref hy, .null, .null, .int 0, .null, .null, .null, .null, .null, .null, .int 0])), (ou, .inl (cJ, 1, .inr (.inl fo)))] s.heap := hP
  have hl := lv_entry ([.ref x, .int a, .ref ou]) (n := 4) (Nat.le_of_ble_eq_true rfl)
  rw [lg_entry_eq]
  generalize (lg_sl ([.ref x, .int a, .ref ou]) ++ List.replicate (4 - (lg_sl ([.ref x, .int a, .ref ou])).length) Slot.unset).toArray = ls at hl ⊢
  have hl : lv_has ls 4 [(0, .ref x), (1, .int a), (2, .ref ou)] := hl
  refine lv_aload_n hx hb d_LW_judge_0 rfl (lv_at hl 2 rfl) ?_
  refine lv_iconst (v := 0) hx hb d_LW_judge_1 (by decide) ?_
  refine lv_aload_n hx hb d_LW_judge_2 rfl (lv_at hl 0 rfl) ?_
  refine lv_iload_n hx hb d_LW_judge_3 rfl (lv_at hl 1 rfl) ?_
  have hFc := va_free (wc := [(x, .inr (0, [.ref tp, .int 0, .int ((-1)), .ref sg, .null, .null, .ref st, .null, .ref ft, .null, .ref hy, .null, .null, .int 0, .null, .null, .null, .null, .null, .null, .int 0]))]) hD hS hA [0] rfl
  refine te_calll (A0 := A) (A1 := va_A [(x, .inr (0, [.ref tp, .int 0, .int ((-1)), .ref sg, .null, .null, .ref st, .null, .ref ft, .null, .ref hy, .null, .null, .int 0, .null, .null, .null, .null, .null, .null, .int 0]))] s.heap.size) (te_runV (As := [.int a]) (rest := [.int 0, .ref ou]) ⟨hx, hb, hml, hown, hts⟩ (c_SP_judge hfl hS0 dC dI x tp sg st ft hy a s.heap.size) (cwV 1 hts (tt_V k_2577 k_2578 k_2579 k_240 kw_SP_judge) rfl rfl rfl (by decide +kernel) ⟨Nat.le_of_ble_eq_true rfl, Nat.le_of_ble_eq_true rfl⟩) ⟨prT_blind, va_recv hK hP (ci := 0) (q0 := 0) rfl rfl, prT_pre hb0 ⟨hB0.1, hB0.2⟩ (hP.sub [0] rfl) (hK.sub [] rfl) (hD.sub [0] (by decide) rfl)⟩ rfl rfl hl.1 rfl (lv_room (Nat.le_of_ble_eq_true rfl)) d_LW_judge_4 ⟨Nat.le_of_ble_eq_true rfl, Nat.le_of_ble_eq_true rfl⟩) hS (fun q _ h => hFc q h) hFc (fun r u t H locs ht hvm hw hBt hz1 hk1 hS => ?_) (fun cls xx H locs hth hnew hce hz hk hS => ?_)
  · exact hw.elim
  · have hP : va_P (dC, dI) classes [(x, .inr (0, [.ref tp, .int 0, .int ((-1)), .ref sg, .null, .null, .ref st, .null, .ref ft, .null, .ref hy, .null, .null, .int 0, .null, .null, .null, .null, .null, .null, .int 0])), (ou, .inl (cJ, 1, .inr (.inl fo)))] H := te_keep hP hk
    rcases hth with ⟨rfl, hR⟩
    refine te_catch (own := "ScholarsPressLaw") (D := x_ISE) (hpc := 11) (pre := []) (en := e1) (tl := [e2, e3]) hown hce (by rw [hxs]; rfl) (fun y hy => by cases hy) (by simp [covers, a1_1, a1_2]) (by rw [a1_4]; decide) a1_3 (by rw [a1_4]; exact hts _ k_1387) te_same ?_
    refine lv_astore_n (lv' := [(3, .ref xx), (0, .ref x), (1, .int a), (2, .ref ou)]) hx hb d_LW_judge_11 rfl hl (by decide) rfl (fun ls hl => ?_)
    refine lv_iconst (v := 1) hx hb d_LW_judge_12 (by decide) ?_
    have hP9 := hP.sub (ws' := [(ou, .inl (cJ, 1, .inr (.inl fo)))]) [1] rfl
    have hD9 := hD.sub (ws' := [(ou, .inl (cJ, 1, .inr (.inl fo)))]) [1] (by decide) rfl
    have hK9 := hK.sub (tys' := [(cJ, .long)]) [0] rfl
    exact W.iret (v := 1) hx hb hr (fun t ht hW => ⟨⟨1, fo, rfl, ⟨rfl, hR⟩, by rw [ht]; exact hP9, va_K.moved hW.alike hK9, hD9⟩, hS.F ht⟩) hS.2.2 d_LW_judge_13
set_option maxHeartbeats 4000000 in
set_option maxRecDepth 100000 in
/-- the law's where on a fresh object -/
theorem c_LW_where {l : Launch} (hfl : l.flags = flags0) {s0 : State} (hS0 : te_S0 s0) (hNc : va_Nc x_ISE x_IAE s0) (dC : Nat → ClassId) (dI : Nat → Nat → Nat) (x tp sg st ft hy ou : Nat) (cJ : ClassId) (fo : Nat → Int64) (w : Int32) (sz : Nat) : Met l y_LW_where [w_LW_where] ({ frames := 8, cells := 1, slots := 6, locals := 260 }) (va_Pc [.ref x, .int w, .ref ou] (prT s0 sz (dC, dI) [(x, .inr (0, [.ref tp, .int 0, .int ((-1)), .ref sg, .null, .null, .ref st, .null, .ref ft, .null, .ref hy, .null, .null, .int 0, .null, .null, .null, .null, .null, .null, .int 0])), (ou, .inl (cJ, 1, .inr (.inl fo)))] [(cJ, .long)])) (va_Qi (fun (r : Int32) (u : Nat → Int64) => (r = 1 ∧ ¬ (0 ≤ w.toInt ∧ w.toInt ≤ 5)) ∨ (r = 2 ∧ (0 ≤ w.toInt ∧ w.toInt ≤ 5))) (bw (dC, dI) (va_A [(x, .inr (0, [.ref tp, .int 0, .int ((-1)), .ref sg, .null, .null, .ref st, .null, .ref ft, .null, .ref hy, .null, .null, .int 0, .null, .null, .null, .null, .null, .null, .int 0])), (ou, .inl (cJ, 1, .inr (.inl fo)))] sz) (fun u => [(ou, .inl (cJ, 1, .inr (.inl u)))]) (fun _ => [(cJ, .long)])) (va_A [(x, .inr (0, [.ref tp, .int 0, .int ((-1)), .ref sg, .null, .null, .ref st, .null, .ref ft, .null, .ref hy, .null, .null, .int 0, .null, .null, .null, .null, .null, .null, .int 0])), (ou, .inl (cJ, 1, .inr (.inl fo)))] sz)) 1 6 (va_A [(x, .inr (0, [.ref tp, .int 0, .int ((-1)), .ref sg, .null, .null, .ref st, .null, .ref ft, .null, .ref hy, .null, .null, .int 0, .null, .null, .null, .null, .null, .null, .int 0])), (ou, .inl (cJ, 1, .inr (.inl fo)))] sz) := by
  refine va_MetW (cc := b_LW_where) (maxL := 4) (ret := (some .int)) (hh := [(0, 9, 12, 19), (0, 9, 15, 40), (0, 9, 18, 70)]) (by decide) rfl ?_
  intro p e s m args below meth c s₁ B hml hv
  obtain ⟨rfl, hsz, hb0, hB0, hP, hK, hD0⟩ := hv
  have hx := B.exec
  have hb := B.bytes
  have hr := B.returns
  have hts : ∀ wq ∈ tt, wq.before ([.ref x, .int w, .ref ou] : List Value).toArray s = true := hb0.hts
  have hown : s.vm.findClass "ScholarsPressLaw" = some m.cls := findClass_of_methodNamed B.named
  have hlocks := B.notSynchronized
  obtain ⟨e1, e2, e3, hxs, he1, he2, he3⟩ := te_e3 (te_tab B ((atoms_spec (ws := [w_LW_where]) B.pre) _ List.mem_cons_self))
  simp only [Prod.mk.injEq] at he1
  obtain ⟨a1_1, a1_2, a1_3, a1_4⟩ := he1
  simp only [Prod.mk.injEq] at he2
  obtain ⟨a2_1, a2_2, a2_3, a2_4⟩ := he2
  simp only [Prod.mk.injEq] at he3
  obtain ⟨a3_1, a3_2, a3_3, a3_4⟩ := he3
  subst hsz
  have hD := hD0.self (sz := s.heap.size)
  generalize hAe : va_A [(x, .inr (0, [.ref tp, .int 0, .int ((-1)), .ref sg, .null, .null, .ref st, .null, .ref ft, .null, .ref hy, .null, .null, .int 0, .null, .null, .null, .null, .null, .null, .int 0])), (ou, .inl (cJ, 1, .inr (.inl fo)))] s.heap.size = A at hD ⊢
  have hA : ∀ q : Nat, s.heap.size ≤ q → A q := fun q h => by rw [← hAe]; exact Or.inr h
  have hS : va_S A s.heap s.heap [] := va_S.rf
  have hP : va_P (dC, dI) classes [(x, .inr (0, [.ref tp, .int 0, .int ((-1)), .ref sg, .null, .null, .ref st, .null, .ref ft, .null, .ref hy, .null, .null, .int 0, .null, .null, .null, .null, .null, .null, .int 0])), (ou, .inl (cJ, 1, .inr (.inl fo)))] s.heap := hP
  have hl := lv_entry ([.ref x, .int w, .ref ou]) (n := 4) (Nat.le_of_ble_eq_true rfl)
  rw [lg_entry_eq]
  generalize (lg_sl ([.ref x, .int w, .ref ou]) ++ List.replicate (4 - (lg_sl ([.ref x, .int w, .ref ou])).length) Slot.unset).toArray = ls at hl ⊢
  have hl : lv_has ls 4 [(0, .ref x), (1, .int w), (2, .ref ou)] := hl
  refine lv_aload_n hx hb d_LW_where_0 rfl (lv_at hl 2 rfl) ?_
  refine lv_iconst (v := 0) hx hb d_LW_where_1 (by decide) ?_
  refine lv_aload_n hx hb d_LW_where_2 rfl (lv_at hl 0 rfl) ?_
  refine lv_iload_n hx hb d_LW_where_3 rfl (lv_at hl 1 rfl) ?_
  have hFc := va_free (wc := [(x, .inr (0, [.ref tp, .int 0, .int ((-1)), .ref sg, .null, .null, .ref st, .null, .ref ft, .null, .ref hy, .null, .null, .int 0, .null, .null, .null, .null, .null, .null, .int 0]))]) hD hS hA [0] rfl
  refine te_calli (A0 := A) (A1 := va_A [(x, .inr (0, [.ref tp, .int 0, .int ((-1)), .ref sg, .null, .null, .ref st, .null, .ref ft, .null, .ref hy, .null, .null, .int 0, .null, .null, .null, .null, .null, .null, .int 0]))] s.heap.size) (te_runV (As := [.int w]) (rest := [.int 0, .ref ou]) ⟨hx, hb, hml, hown, hts⟩ (c_SP_where hfl hS0 dC dI x tp sg st ft hy w s.heap.size) (cwV 1 hts (tt_V k_2595 k_2596 k_2597 k_240 kw_SP_where) rfl rfl rfl (by decide +kernel) ⟨Nat.le_of_ble_eq_true rfl, Nat.le_of_ble_eq_true rfl⟩) ⟨prT_blind, va_recv hK hP (ci := 0) (q0 := 0) rfl rfl, prT_pre hb0 ⟨hB0.1, hB0.2⟩ (hP.sub [0] rfl) (hK.sub [] rfl) (hD.sub [0] (by decide) rfl)⟩ rfl rfl hl.1 rfl (lv_room (Nat.le_of_ble_eq_true rfl)) d_LW_where_4 ⟨Nat.le_of_ble_eq_true rfl, Nat.le_of_ble_eq_true rfl⟩) hS (fun q _ h => hFc q h) hFc (fun r u t H locs ht hvm hw hBt hz1 hk1 hS => ?_) (fun cls xx H locs hth hnew hce hz hk hS => ?_)
  · exact hw.elim
  · have hP : va_P (dC, dI) classes [(x, .inr (0, [.ref tp, .int 0, .int ((-1)), .ref sg, .null, .null, .ref st, .null, .ref ft, .null, .ref hy, .null, .null, .int 0, .null, .null, .null, .null, .null, .null, .int 0])), (ou, .inl (cJ, 1, .inr (.inl fo)))] H := te_keep hP hk
    rcases hth with ⟨rfl, hR⟩ | ⟨rfl, hR⟩
    · refine te_catch (own := "ScholarsPressLaw") (D := x_IAE) (hpc := 12) (pre := []) (en := e1) (tl := [e2, e3]) hown hce (by rw [hxs]; rfl) (fun y hy => by cases hy) (by simp [covers, a1_1, a1_2]) (by rw [a1_4]; decide) a1_3 (by rw [a1_4]; exact hts _ k_653) te_same ?_
      refine lv_astore_n (lv' := [(3, .ref xx), (0, .ref x), (1, .int w), (2, .ref ou)]) hx hb d_LW_where_12 rfl hl (by decide) rfl (fun ls hl => ?_)
      refine lv_iconst (v := 1) hx hb d_LW_where_13 (by decide) ?_
      have hP9 := hP.sub (ws' := [(ou, .inl (cJ, 1, .inr (.inl fo)))]) [1] rfl
      have hD9 := hD.sub (ws' := [(ou, .inl (cJ, 1, .inr (.inl fo)))]) [1] (by decide) rfl
      have hK9 := hK.sub (tys' := [(cJ, .long)]) [0] rfl
      exact W.iret (v := 1) hx hb hr (fun t ht hW => ⟨⟨1, fo, rfl, Or.inl ⟨rfl, hR⟩, by rw [ht]; exact hP9, va_K.moved hW.alike hK9, hD9⟩, hS.F ht⟩) hS.2.2 d_LW_where_14
    · refine te_catch (own := "ScholarsPressLaw") (D := x_ISE) (hpc := 15) (pre := [e1]) (en := e2) (tl := [e3]) hown hce (by rw [hxs]; rfl) (fun y hy => by rw [List.mem_singleton.mp hy]; exact Or.inr ⟨by simp [covers, a1_1, a1_2], by rw [a1_4]; decide, x_IAE, by rw [a1_4]; exact hts _ k_653, hNc.moved hB0.1⟩) (by simp [covers, a2_1, a2_2]) (by rw [a2_4]; decide) a2_3 (by rw [a2_4]; exact hts _ k_1387) te_same ?_
      refine lv_astore_n (lv' := [(3, .ref xx), (0, .ref x), (1, .int w), (2, .ref ou)]) hx hb d_LW_where_15 rfl hl (by decide) rfl (fun ls hl => ?_)
      refine lv_iconst (v := 2) hx hb d_LW_where_16 (by decide) ?_
      have hP9 := hP.sub (ws' := [(ou, .inl (cJ, 1, .inr (.inl fo)))]) [1] rfl
      have hD9 := hD.sub (ws' := [(ou, .inl (cJ, 1, .inr (.inl fo)))]) [1] (by decide) rfl
      have hK9 := hK.sub (tys' := [(cJ, .long)]) [0] rfl
      exact W.iret (v := 2) hx hb hr (fun t ht hW => ⟨⟨2, fo, rfl, Or.inr (⟨rfl, hR⟩), by rw [ht]; exact hP9, va_K.moved hW.alike hK9, hD9⟩, hS.F ht⟩) hS.2.2 d_LW_where_17
set_option maxHeartbeats 4000000 in
set_option maxRecDepth 100000 in
/-- the law's note on a fresh object -/
theorem c_LW_note {l : Launch} (hfl : l.flags = flags0) {s0 : State} (hS0 : te_S0 s0) (hNc : va_Nc x_ISE x_IAE s0) (dC : Nat → ClassId) (dI : Nat → Nat → Nat) (x tp sg st ft hy ou : Nat) (cJ : ClassId) (fo : Nat → Int64) (a w : Int32) (sz : Nat) : Met l y_LW_note [w_LW_note] ({ frames := 8, cells := 1, slots := 6, locals := 260 }) (va_Pc [.ref x, .int a, .int w, .ref ou] (prT s0 sz (dC, dI) [(x, .inr (0, [.ref tp, .int 0, .int ((-1)), .ref sg, .null, .null, .ref st, .null, .ref ft, .null, .ref hy, .null, .null, .int 0, .null, .null, .null, .null, .null, .null, .int 0])), (ou, .inl (cJ, 1, .inr (.inl fo)))] [(cJ, .long)])) (va_Qi (fun (r : Int32) (u : Nat → Int64) => (r = 1 ∧ ¬ ((0 ≤ w.toInt ∧ w.toInt ≤ 5) ∨ (10 ≤ w.toInt ∧ w.toInt ≤ 13))) ∨ (r = 2 ∧ ((0 ≤ w.toInt ∧ w.toInt ≤ 5) ∨ (10 ≤ w.toInt ∧ w.toInt ≤ 13)))) (bw (dC, dI) (va_A [(x, .inr (0, [.ref tp, .int 0, .int ((-1)), .ref sg, .null, .null, .ref st, .null, .ref ft, .null, .ref hy, .null, .null, .int 0, .null, .null, .null, .null, .null, .null, .int 0])), (ou, .inl (cJ, 1, .inr (.inl fo)))] sz) (fun u => [(ou, .inl (cJ, 1, .inr (.inl u)))]) (fun _ => [(cJ, .long)])) (va_A [(x, .inr (0, [.ref tp, .int 0, .int ((-1)), .ref sg, .null, .null, .ref st, .null, .ref ft, .null, .ref hy, .null, .null, .int 0, .null, .null, .null, .null, .null, .null, .int 0])), (ou, .inl (cJ, 1, .inr (.inl fo)))] sz)) 1 6 (va_A [(x, .inr (0, [.ref tp, .int 0, .int ((-1)), .ref sg, .null, .null, .ref st, .null, .ref ft, .null, .ref hy, .null, .null, .int 0, .null, .null, .null, .null, .null, .null, .int 0])), (ou, .inl (cJ, 1, .inr (.inl fo)))] sz) := by
  refine va_MetW (cc := b_LW_note) (maxL := 5) (ret := (some .int)) (hh := [(0, 10, 13, 19), (0, 10, 17, 40), (0, 10, 21, 13)]) (by decide) rfl ?_
  intro p e s m args below meth c s₁ B hml hv
  obtain ⟨rfl, hsz, hb0, hB0, hP, hK, hD0⟩ := hv
  have hx := B.exec
  have hb := B.bytes
  have hr := B.returns
  have hts : ∀ wq ∈ tt, wq.before ([.ref x, .int a, .int w, .ref ou] : List Value).toArray s = true := hb0.hts
  have hown : s.vm.findClass "ScholarsPressLaw" = some m.cls := findClass_of_methodNamed B.named
  have hlocks := B.notSynchronized
  obtain ⟨e1, e2, e3, hxs, he1, he2, he3⟩ := te_e3 (te_tab B ((atoms_spec (ws := [w_LW_note]) B.pre) _ List.mem_cons_self))
  simp only [Prod.mk.injEq] at he1
  obtain ⟨a1_1, a1_2, a1_3, a1_4⟩ := he1
  simp only [Prod.mk.injEq] at he2
  obtain ⟨a2_1, a2_2, a2_3, a2_4⟩ := he2
  simp only [Prod.mk.injEq] at he3
  obtain ⟨a3_1, a3_2, a3_3, a3_4⟩ := he3
  subst hsz
  have hD := hD0.self (sz := s.heap.size)
  generalize hAe : va_A [(x, .inr (0, [.ref tp, .int 0, .int ((-1)), .ref sg, .null, .null, .ref st, .null, .ref ft, .null, .ref hy, .null, .null, .int 0, .null, .null, .null, .null, .null, .null, .int 0])), (ou, .inl (cJ, 1, .inr (.inl fo)))] s.heap.size = A at hD ⊢
  have hA : ∀ q : Nat, s.heap.size ≤ q → A q := fun q h => by rw [← hAe]; exact Or.inr h
  have hS : va_S A s.heap s.heap [] := va_S.rf
  have hP : va_P (dC, dI) classes [(x, .inr (0, [.ref tp, .int 0, .int ((-1)), .ref sg, .null, .null, .ref st, .null, .ref ft, .null, .ref hy, .null, .null, .int 0, .null, .null, .null, .null, .null, .null, .int 0])), (ou, .inl (cJ, 1, .inr (.inl fo)))] s.heap := hP
  have hl := lv_entry ([.ref x, .int a, .int w, .ref ou]) (n := 5) (Nat.le_of_ble_eq_true rfl)
  rw [lg_entry_eq]
  generalize (lg_sl ([.ref x, .int a, .int w, .ref ou]) ++ List.replicate (5 - (lg_sl ([.ref x, .int a, .int w, .ref ou])).length) Slot.unset).toArray = ls at hl ⊢
  have hl : lv_has ls 5 [(0, .ref x), (1, .int a), (2, .int w), (3, .ref ou)] := hl
  refine lv_aload_n hx hb d_LW_note_0 rfl (lv_at hl 3 rfl) ?_
  refine lv_iconst (v := 0) hx hb d_LW_note_1 (by decide) ?_
  refine lv_aload_n hx hb d_LW_note_2 rfl (lv_at hl 0 rfl) ?_
  refine lv_iload_n hx hb d_LW_note_3 rfl (lv_at hl 1 rfl) ?_
  refine lv_iload_n hx hb d_LW_note_4 rfl (lv_at hl 2 rfl) ?_
  have hFc := va_free (wc := [(x, .inr (0, [.ref tp, .int 0, .int ((-1)), .ref sg, .null, .null, .ref st, .null, .ref ft, .null, .ref hy, .null, .null, .int 0, .null, .null, .null, .null, .null, .null, .int 0]))]) hD hS hA [0] rfl
  refine te_calli (A0 := A) (A1 := va_A [(x, .inr (0, [.ref tp, .int 0, .int ((-1)), .ref sg, .null, .null, .ref st, .null, .ref ft, .null, .ref hy, .null, .null, .int 0, .null, .null, .null, .null, .null, .null, .int 0]))] s.heap.size) (te_runV (As := [.int a, .int w]) (rest := [.int 0, .ref ou]) ⟨hx, hb, hml, hown, hts⟩ (c_SP_note hfl hS0 dC dI x tp sg st ft hy a w s.heap.size) (cwV 2 hts (tt_V k_2626 k_2627 k_2628 k_240 kw_SP_note) rfl rfl rfl (by decide +kernel) ⟨Nat.le_of_ble_eq_true rfl, Nat.le_of_ble_eq_true rfl⟩) ⟨prT_blind, va_recv hK hP (ci := 0) (q0 := 0) rfl rfl, prT_pre hb0 ⟨hB0.1, hB0.2⟩ (hP.sub [0] rfl) (hK.sub [] rfl) (hD.sub [0] (by decide) rfl)⟩ rfl rfl hl.1 rfl (lv_room (Nat.le_of_ble_eq_true rfl)) d_LW_note_5 ⟨Nat.le_of_ble_eq_true rfl, Nat.le_of_ble_eq_true rfl⟩) hS (fun q _ h => hFc q h) hFc (fun r u t H locs ht hvm hw hBt hz1 hk1 hS => ?_) (fun cls xx H locs hth hnew hce hz hk hS => ?_)
  · exact hw.elim
  · have hP : va_P (dC, dI) classes [(x, .inr (0, [.ref tp, .int 0, .int ((-1)), .ref sg, .null, .null, .ref st, .null, .ref ft, .null, .ref hy, .null, .null, .int 0, .null, .null, .null, .null, .null, .null, .int 0])), (ou, .inl (cJ, 1, .inr (.inl fo)))] H := te_keep hP hk
    rcases hth with ⟨rfl, hR⟩ | ⟨rfl, hR⟩
    · refine te_catch (own := "ScholarsPressLaw") (D := x_IAE) (hpc := 13) (pre := []) (en := e1) (tl := [e2, e3]) hown hce (by rw [hxs]; rfl) (fun y hy => by cases hy) (by simp [covers, a1_1, a1_2]) (by rw [a1_4]; decide) a1_3 (by rw [a1_4]; exact hts _ k_653) te_same ?_
      refine lv_astore (lv' := [(4, .ref xx), (0, .ref x), (1, .int a), (2, .int w), (3, .ref ou)]) hx hb d_LW_note_13 hl (by decide) rfl (fun ls hl => ?_)
      refine lv_iconst (v := 1) hx hb d_LW_note_15 (by decide) ?_
      have hP9 := hP.sub (ws' := [(ou, .inl (cJ, 1, .inr (.inl fo)))]) [1] rfl
      have hD9 := hD.sub (ws' := [(ou, .inl (cJ, 1, .inr (.inl fo)))]) [1] (by decide) rfl
      have hK9 := hK.sub (tys' := [(cJ, .long)]) [0] rfl
      exact W.iret (v := 1) hx hb hr (fun t ht hW => ⟨⟨1, fo, rfl, Or.inl ⟨rfl, hR⟩, by rw [ht]; exact hP9, va_K.moved hW.alike hK9, hD9⟩, hS.F ht⟩) hS.2.2 d_LW_note_16
    · refine te_catch (own := "ScholarsPressLaw") (D := x_ISE) (hpc := 17) (pre := [e1]) (en := e2) (tl := [e3]) hown hce (by rw [hxs]; rfl) (fun y hy => by rw [List.mem_singleton.mp hy]; exact Or.inr ⟨by simp [covers, a1_1, a1_2], by rw [a1_4]; decide, x_IAE, by rw [a1_4]; exact hts _ k_653, hNc.moved hB0.1⟩) (by simp [covers, a2_1, a2_2]) (by rw [a2_4]; decide) a2_3 (by rw [a2_4]; exact hts _ k_1387) te_same ?_
      refine lv_astore (lv' := [(4, .ref xx), (0, .ref x), (1, .int a), (2, .int w), (3, .ref ou)]) hx hb d_LW_note_17 hl (by decide) rfl (fun ls hl => ?_)
      refine lv_iconst (v := 2) hx hb d_LW_note_19 (by decide) ?_
      have hP9 := hP.sub (ws' := [(ou, .inl (cJ, 1, .inr (.inl fo)))]) [1] rfl
      have hD9 := hD.sub (ws' := [(ou, .inl (cJ, 1, .inr (.inl fo)))]) [1] (by decide) rfl
      have hK9 := hK.sub (tys' := [(cJ, .long)]) [0] rfl
      exact W.iret (v := 2) hx hb hr (fun t ht hW => ⟨⟨2, fo, rfl, Or.inr (⟨rfl, hR⟩), by rw [ht]; exact hP9, va_K.moved hW.alike hK9, hD9⟩, hS.F ht⟩) hS.2.2 d_LW_note_20
set_option maxHeartbeats 4000000 in
set_option maxRecDepth 100000 in
/-- the law's wavering on a fresh object -/
theorem c_LW_wavering {l : Launch} (hfl : l.flags = flags0) {s0 : State} (hS0 : te_S0 s0) (hNc : va_Nc x_ISE x_IAE s0) (dC : Nat → ClassId) (dI : Nat → Nat → Nat) (x tp sg st ft hy ou : Nat) (cJ : ClassId) (fo : Nat → Int64) (a : Int32) (sz : Nat) : Met l y_LW_wavering [w_LW_wavering] ({ frames := 8, cells := 1, slots := 6, locals := 260 }) (va_Pc [.ref x, .int a, .ref ou] (prT s0 sz (dC, dI) [(x, .inr (0, [.ref tp, .int 0, .int ((-1)), .ref sg, .null, .null, .ref st, .null, .ref ft, .null, .ref hy, .null, .null, .int 0, .null, .null, .null, .null, .null, .null, .int 0])), (ou, .inl (cJ, 1, .inr (.inl fo)))] [(cJ, .long)])) (va_Qi (fun (r : Int32) (u : Nat → Int64) => r = 1 ∧ True) (bw (dC, dI) (va_A [(x, .inr (0, [.ref tp, .int 0, .int ((-1)), .ref sg, .null, .null, .ref st, .null, .ref ft, .null, .ref hy, .null, .null, .int 0, .null, .null, .null, .null, .null, .null, .int 0])), (ou, .inl (cJ, 1, .inr (.inl fo)))] sz) (fun u => [(ou, .inl (cJ, 1, .inr (.inl u)))]) (fun _ => [(cJ, .long)])) (va_A [(x, .inr (0, [.ref tp, .int 0, .int ((-1)), .ref sg, .null, .null, .ref st, .null, .ref ft, .null, .ref hy, .null, .null, .int 0, .null, .null, .null, .null, .null, .null, .int 0])), (ou, .inl (cJ, 1, .inr (.inl fo)))] sz)) 1 6 (va_A [(x, .inr (0, [.ref tp, .int 0, .int ((-1)), .ref sg, .null, .null, .ref st, .null, .ref ft, .null, .ref hy, .null, .null, .int 0, .null, .null, .null, .null, .null, .null, .int 0])), (ou, .inl (cJ, 1, .inr (.inl fo)))] sz) := by
  refine va_MetW (cc := b_LW_wavering) (maxL := 4) (ret := (some .int)) (hh := [(0, 9, 12, 40), (0, 9, 15, 13)]) (by decide) rfl ?_
  intro p e s m args below meth c s₁ B hml hv
  obtain ⟨rfl, hsz, hb0, hB0, hP, hK, hD0⟩ := hv
  have hx := B.exec
  have hb := B.bytes
  have hr := B.returns
  have hts : ∀ wq ∈ tt, wq.before ([.ref x, .int a, .ref ou] : List Value).toArray s = true := hb0.hts
  have hown : s.vm.findClass "ScholarsPressLaw" = some m.cls := findClass_of_methodNamed B.named
  have hlocks := B.notSynchronized
  obtain ⟨e1, e2, hxs, he1, he2⟩ := te_e2 (te_tab B ((atoms_spec (ws := [w_LW_wavering]) B.pre) _ List.mem_cons_self))
  simp only [Prod.mk.injEq] at he1
  obtain ⟨a1_1, a1_2, a1_3, a1_4⟩ := he1
  simp only [Prod.mk.injEq] at he2
  obtain ⟨a2_1, a2_2, a2_3, a2_4⟩ := he2
  subst hsz
  have hD := hD0.self (sz := s.heap.size)
  generalize hAe : va_A [(x, .inr (0, [.ref tp, .int 0, .int ((-1)), .ref sg, .null, .null, .ref st, .null, .ref ft, .null, .ref hy, .null, .null, .int 0, .null, .null, .null, .null, .null, .null, .int 0])), (ou, .inl (cJ, 1, .inr (.inl fo)))] s.heap.size = A at hD ⊢
  have hA : ∀ q : Nat, s.heap.size ≤ q → A q := fun q h => by rw [← hAe]; exact Or.inr h
  have hS : va_S A s.heap s.heap [] := va_S.rf
  have hP : va_P (dC, dI) classes [(x, .inr (0, [.ref tp, .int 0, .int ((-1)), .ref sg, .null, .null, .ref st, .null, .ref ft, .null, .ref hy, .null, .null, .int 0, .null, .null, .null, .null, .null, .null, .int 0])), (ou, .inl (cJ, 1, .inr (.inl fo)))] s.heap := hP
  have hl := lv_entry ([.ref x, .int a, .ref ou]) (n := 4) (Nat.le_of_ble_eq_true rfl)
  rw [lg_entry_eq]
  generalize (lg_sl ([.ref x, .int a, .ref ou]) ++ List.replicate (4 - (lg_sl ([.ref x, .int a, .ref ou])).length) Slot.unset).toArray = ls at hl ⊢
  have hl : lv_has ls 4 [(0, .ref x), (1, .int a), (2, .ref ou)] := hl
  refine lv_aload_n hx hb d_LW_wavering_0 rfl (lv_at hl 2 rfl) ?_
  refine lv_iconst (v := 0) hx hb d_LW_wavering_1 (by decide) ?_
  refine lv_aload_n hx hb d_LW_wavering_2 rfl (lv_at hl 0 rfl) ?_
  refine lv_iload_n hx hb d_LW_wavering_3 rfl (lv_at hl 1 rfl) ?_
  have hFc := va_free (wc := [(x, .inr (0, [.ref tp, .int 0, .int ((-1)), .ref sg, .null, .null, .ref st, .null, .ref ft, .null, .ref hy, .null, .null, .int 0, .null, .null, .null, .null, .null, .null, .int 0]))]) hD hS hA [0] rfl
  refine te_calli (A0 := A) (A1 := va_A [(x, .inr (0, [.ref tp, .int 0, .int ((-1)), .ref sg, .null, .null, .ref st, .null, .ref ft, .null, .ref hy, .null, .null, .int 0, .null, .null, .null, .null, .null, .null, .int 0]))] s.heap.size) (te_runV (As := [.int a]) (rest := [.int 0, .ref ou]) ⟨hx, hb, hml, hown, hts⟩ (c_SP_wavering hfl hS0 dC dI x tp sg st ft hy a s.heap.size) (cwV 1 hts (tt_V k_2651 k_2652 k_2653 k_240 kw_SP_wavering) rfl rfl rfl (by decide +kernel) ⟨Nat.le_of_ble_eq_true rfl, Nat.le_of_ble_eq_true rfl⟩) ⟨prT_blind, va_recv hK hP (ci := 0) (q0 := 0) rfl rfl, prT_pre hb0 ⟨hB0.1, hB0.2⟩ (hP.sub [0] rfl) (hK.sub [] rfl) (hD.sub [0] (by decide) rfl)⟩ rfl rfl hl.1 rfl (lv_room (Nat.le_of_ble_eq_true rfl)) d_LW_wavering_4 ⟨Nat.le_of_ble_eq_true rfl, Nat.le_of_ble_eq_true rfl⟩) hS (fun q _ h => hFc q h) hFc (fun r u t H locs ht hvm hw hBt hz1 hk1 hS => ?_) (fun cls xx H locs hth hnew hce hz hk hS => ?_)
  · exact hw.elim
  · have hP : va_P (dC, dI) classes [(x, .inr (0, [.ref tp, .int 0, .int ((-1)), .ref sg, .null, .null, .ref st, .null, .ref ft, .null, .ref hy, .null, .null, .int 0, .null, .null, .null, .null, .null, .null, .int 0])), (ou, .inl (cJ, 1, .inr (.inl fo)))] H := te_keep hP hk
    rcases hth with ⟨rfl, hR⟩
    refine te_catch (own := "ScholarsPressLaw") (D := x_ISE) (hpc := 12) (pre := []) (en := e1) (tl := [e2]) hown hce (by rw [hxs]; rfl) (fun y hy => by cases hy) (by simp [covers, a1_1, a1_2]) (by rw [a1_4]; decide) a1_3 (by rw [a1_4]; exact hts _ k_1387) te_same ?_
    refine lv_astore_n (lv' := [(3, .ref xx), (0, .ref x), (1, .int a), (2, .ref ou)]) hx hb d_LW_wavering_12 rfl hl (by decide) rfl (fun ls hl => ?_)
    refine lv_iconst (v := 1) hx hb d_LW_wavering_13 (by decide) ?_
    have hP9 := hP.sub (ws' := [(ou, .inl (cJ, 1, .inr (.inl fo)))]) [1] rfl
    have hD9 := hD.sub (ws' := [(ou, .inl (cJ, 1, .inr (.inl fo)))]) [1] (by decide) rfl
    have hK9 := hK.sub (tys' := [(cJ, .long)]) [0] rfl
    exact W.iret (v := 1) hx hb hr (fun t ht hW => ⟨⟨1, fo, rfl, ⟨rfl, hR⟩, by rw [ht]; exact hP9, va_K.moved hW.alike hK9, hD9⟩, hS.F ht⟩) hS.2.2 d_LW_wavering_14
set_option maxHeartbeats 4000000 in
set_option maxRecDepth 100000 in
/-- the law's print on a fresh object -/
theorem c_LW_print {l : Launch} (hfl : l.flags = flags0) {s0 : State} (hS0 : te_S0 s0) (hNc : va_Nc x_ISE x_IAE s0) (dC : Nat → ClassId) (dI : Nat → Nat → Nat) (x tp sg st ft hy ou : Nat) (cJ : ClassId) (fo : Nat → Int64) (a : Int32) (sz : Nat) : Met l y_LW_print [w_LW_print] ({ frames := 8, cells := 1, slots := 6, locals := 260 }) (va_Pc [.ref x, .int a, .ref ou] (prT s0 sz (dC, dI) [(x, .inr (0, [.ref tp, .int 0, .int ((-1)), .ref sg, .null, .null, .ref st, .null, .ref ft, .null, .ref hy, .null, .null, .int 0, .null, .null, .null, .null, .null, .null, .int 0])), (ou, .inl (cJ, 1, .inr (.inl fo)))] [(cJ, .long)])) (va_Qi (fun (r : Int32) (u : Nat → Int64) => r = 1 ∧ True) (bw (dC, dI) (va_A [(x, .inr (0, [.ref tp, .int 0, .int ((-1)), .ref sg, .null, .null, .ref st, .null, .ref ft, .null, .ref hy, .null, .null, .int 0, .null, .null, .null, .null, .null, .null, .int 0])), (ou, .inl (cJ, 1, .inr (.inl fo)))] sz) (fun u => [(ou, .inl (cJ, 1, .inr (.inl u)))]) (fun _ => [(cJ, .long)])) (va_A [(x, .inr (0, [.ref tp, .int 0, .int ((-1)), .ref sg, .null, .null, .ref st, .null, .ref ft, .null, .ref hy, .null, .null, .int 0, .null, .null, .null, .null, .null, .null, .int 0])), (ou, .inl (cJ, 1, .inr (.inl fo)))] sz)) 1 6 (va_A [(x, .inr (0, [.ref tp, .int 0, .int ((-1)), .ref sg, .null, .null, .ref st, .null, .ref ft, .null, .ref hy, .null, .null, .int 0, .null, .null, .null, .null, .null, .null, .int 0])), (ou, .inl (cJ, 1, .inr (.inl fo)))] sz) := by
  refine va_MetW (cc := b_LW_print) (maxL := 4) (ret := (some .int)) (hh := [(0, 9, 12, 40), (0, 9, 15, 13)]) (by decide) rfl ?_
  intro p e s m args below meth c s₁ B hml hv
  obtain ⟨rfl, hsz, hb0, hB0, hP, hK, hD0⟩ := hv
  have hx := B.exec
  have hb := B.bytes
  have hr := B.returns
  have hts : ∀ wq ∈ tt, wq.before ([.ref x, .int a, .ref ou] : List Value).toArray s = true := hb0.hts
  have hown : s.vm.findClass "ScholarsPressLaw" = some m.cls := findClass_of_methodNamed B.named
  have hlocks := B.notSynchronized
  obtain ⟨e1, e2, hxs, he1, he2⟩ := te_e2 (te_tab B ((atoms_spec (ws := [w_LW_print]) B.pre) _ List.mem_cons_self))
  simp only [Prod.mk.injEq] at he1
  obtain ⟨a1_1, a1_2, a1_3, a1_4⟩ := he1
  simp only [Prod.mk.injEq] at he2
  obtain ⟨a2_1, a2_2, a2_3, a2_4⟩ := he2
  subst hsz
  have hD := hD0.self (sz := s.heap.size)
  generalize hAe : va_A [(x, .inr (0, [.ref tp, .int 0, .int ((-1)), .ref sg, .null, .null, .ref st, .null, .ref ft, .null, .ref hy, .null, .null, .int 0, .null, .null, .null, .null, .null, .null, .int 0])), (ou, .inl (cJ, 1, .inr (.inl fo)))] s.heap.size = A at hD ⊢
  have hA : ∀ q : Nat, s.heap.size ≤ q → A q := fun q h => by rw [← hAe]; exact Or.inr h
  have hS : va_S A s.heap s.heap [] := va_S.rf
  have hP : va_P (dC, dI) classes [(x, .inr (0, [.ref tp, .int 0, .int ((-1)), .ref sg, .null, .null, .ref st, .null, .ref ft, .null, .ref hy, .null, .null, .int 0, .null, .null, .null, .null, .null, .null, .int 0])), (ou, .inl (cJ, 1, .inr (.inl fo)))] s.heap := hP
  have hl := lv_entry ([.ref x, .int a, .ref ou]) (n := 4) (Nat.le_of_ble_eq_true rfl)
  rw [lg_entry_eq]
  generalize (lg_sl ([.ref x, .int a, .ref ou]) ++ List.replicate (4 - (lg_sl ([.ref x, .int a, .ref ou])).length) Slot.unset).toArray = ls at hl ⊢
  have hl : lv_has ls 4 [(0, .ref x), (1, .int a), (2, .ref ou)] := hl
  refine lv_aload_n hx hb d_LW_print_0 rfl (lv_at hl 2 rfl) ?_
  refine lv_iconst (v := 0) hx hb d_LW_print_1 (by decide) ?_
  refine lv_aload_n hx hb d_LW_print_2 rfl (lv_at hl 0 rfl) ?_
  refine lv_iload_n hx hb d_LW_print_3 rfl (lv_at hl 1 rfl) ?_
  have hFc := va_free (wc := [(x, .inr (0, [.ref tp, .int 0, .int ((-1)), .ref sg, .null, .null, .ref st, .null, .ref ft, .null, .ref hy, .null, .null, .int 0, .null, .null, .null, .null, .null, .null, .int 0]))]) hD hS hA [0] rfl
  refine te_calli (A0 := A) (A1 := va_A [(x, .inr (0, [.ref tp, .int 0, .int ((-1)), .ref sg, .null, .null, .ref st, .null, .ref ft, .null, .ref hy, .null, .null, .int 0, .null, .null, .null, .null, .null, .null, .int 0]))] s.heap.size) (te_runV (As := [.int a]) (rest := [.int 0, .ref ou]) ⟨hx, hb, hml, hown, hts⟩ (c_SP_print hfl hS0 dC dI x tp sg st ft hy a s.heap.size) (cwV 1 hts (tt_V k_2658 k_2659 k_2660 k_240 kw_SP_print) rfl rfl rfl (by decide +kernel) ⟨Nat.le_of_ble_eq_true rfl, Nat.le_of_ble_eq_true rfl⟩) ⟨prT_blind, va_recv hK hP (ci := 0) (q0 := 0) rfl rfl, prT_pre hb0 ⟨hB0.1, hB0.2⟩ (hP.sub [0] rfl) (hK.sub [] rfl) (hD.sub [0] (by decide) rfl)⟩ rfl rfl hl.1 rfl (lv_room (Nat.le_of_ble_eq_true rfl)) d_LW_print_4 ⟨Nat.le_of_ble_eq_true rfl, Nat.le_of_ble_eq_true rfl⟩) hS (fun q _ h => hFc q h) hFc (fun r u t H locs ht hvm hw hBt hz1 hk1 hS => ?_) (fun cls xx H locs hth hnew hce hz hk hS => ?_)
  · exact hw.elim
  · have hP : va_P (dC, dI) classes [(x, .inr (0, [.ref tp, .int 0, .int ((-1)), .ref sg, .null, .null, .ref st, .null, .ref ft, .null, .ref hy, .null, .null, .int 0, .null, .null, .null, .null, .null, .null, .int 0])), (ou, .inl (cJ, 1, .inr (.inl fo)))] H := te_keep hP hk
    rcases hth with ⟨rfl, hR⟩
    refine te_catch (own := "ScholarsPressLaw") (D := x_ISE) (hpc := 12) (pre := []) (en := e1) (tl := [e2]) hown hce (by rw [hxs]; rfl) (fun y hy => by cases hy) (by simp [covers, a1_1, a1_2]) (by rw [a1_4]; decide) a1_3 (by rw [a1_4]; exact hts _ k_1387) te_same ?_
    refine lv_astore_n (lv' := [(3, .ref xx), (0, .ref x), (1, .int a), (2, .ref ou)]) hx hb d_LW_print_12 rfl hl (by decide) rfl (fun ls hl => ?_)
    refine lv_iconst (v := 1) hx hb d_LW_print_13 (by decide) ?_
    have hP9 := hP.sub (ws' := [(ou, .inl (cJ, 1, .inr (.inl fo)))]) [1] rfl
    have hD9 := hD.sub (ws' := [(ou, .inl (cJ, 1, .inr (.inl fo)))]) [1] (by decide) rfl
    have hK9 := hK.sub (tys' := [(cJ, .long)]) [0] rfl
    exact W.iret (v := 1) hx hb hr (fun t ht hW => ⟨⟨1, fo, rfl, ⟨rfl, hR⟩, by rw [ht]; exact hP9, va_K.moved hW.alike hK9, hD9⟩, hS.F ht⟩) hS.2.2 d_LW_print_14
set_option maxHeartbeats 4000000 in
set_option maxRecDepth 100000 in
/-- the law's word on a fresh object -/
theorem c_LW_word {l : Launch} (hfl : l.flags = flags0) {s0 : State} (hS0 : te_S0 s0) (hNc : va_Nc x_ISE x_IAE s0) (dC : Nat → ClassId) (dI : Nat → Nat → Nat) (x tp sg st ft hy ou : Nat) (cJ : ClassId) (fo : Nat → Int64) (a : Int32) (sz : Nat) : Met l y_LW_word [w_LW_word] ({ frames := 8, cells := 1, slots := 6, locals := 260 }) (va_Pc [.ref x, .int a, .ref ou] (prT s0 sz (dC, dI) [(x, .inr (0, [.ref tp, .int 0, .int ((-1)), .ref sg, .null, .null, .ref st, .null, .ref ft, .null, .ref hy, .null, .null, .int 0, .null, .null, .null, .null, .null, .null, .int 0])), (ou, .inl (cJ, 1, .inr (.inl fo)))] [(cJ, .long)])) (va_Qi (fun (r : Int32) (u : Nat → Int64) => r = 1 ∧ True) (bw (dC, dI) (va_A [(x, .inr (0, [.ref tp, .int 0, .int ((-1)), .ref sg, .null, .null, .ref st, .null, .ref ft, .null, .ref hy, .null, .null, .int 0, .null, .null, .null, .null, .null, .null, .int 0])), (ou, .inl (cJ, 1, .inr (.inl fo)))] sz) (fun u => [(ou, .inl (cJ, 1, .inr (.inl u)))]) (fun _ => [(cJ, .long)])) (va_A [(x, .inr (0, [.ref tp, .int 0, .int ((-1)), .ref sg, .null, .null, .ref st, .null, .ref ft, .null, .ref hy, .null, .null, .int 0, .null, .null, .null, .null, .null, .null, .int 0])), (ou, .inl (cJ, 1, .inr (.inl fo)))] sz)) 1 6 (va_A [(x, .inr (0, [.ref tp, .int 0, .int ((-1)), .ref sg, .null, .null, .ref st, .null, .ref ft, .null, .ref hy, .null, .null, .int 0, .null, .null, .null, .null, .null, .null, .int 0])), (ou, .inl (cJ, 1, .inr (.inl fo)))] sz) := by
  refine va_MetW (cc := b_LW_word) (maxL := 4) (ret := (some .int)) (hh := [(0, 8, 11, 13)]) (by decide) rfl ?_
  intro p e s m args below meth c s₁ B hml hv
  obtain ⟨rfl, hsz, hb0, hB0, hP, hK, hD0⟩ := hv
  have hx := B.exec
  have hb := B.bytes
  have hr := B.returns
  have hts : ∀ wq ∈ tt, wq.before ([.ref x, .int a, .ref ou] : List Value).toArray s = true := hb0.hts
  have hown : s.vm.findClass "ScholarsPressLaw" = some m.cls := findClass_of_methodNamed B.named
  have hlocks := B.notSynchronized
  obtain ⟨e1, hxs, he1⟩ := te_e1 (te_tab B ((atoms_spec (ws := [w_LW_word]) B.pre) _ List.mem_cons_self))
  simp only [Prod.mk.injEq] at he1
  obtain ⟨a1_1, a1_2, a1_3, a1_4⟩ := he1
  subst hsz
  have hD := hD0.self (sz := s.heap.size)
  generalize hAe : va_A [(x, .inr (0, [.ref tp, .int 0, .int ((-1)), .ref sg, .null, .null, .ref st, .null, .ref ft, .null, .ref hy, .null, .null, .int 0, .null, .null, .null, .null, .null, .null, .int 0])), (ou, .inl (cJ, 1, .inr (.inl fo)))] s.heap.size = A at hD ⊢
  have hA : ∀ q : Nat, s.heap.size ≤ q → A q := fun q h => by rw [← hAe]; exact Or.inr h
  have hS : va_S A s.heap s.heap [] := va_S.rf
  have hP : va_P (dC, dI) classes [(x, .inr (0, [.ref tp, .int 0, .int ((-1)), .ref sg, .null, .null, .ref st, .null, .ref ft, .null, .ref hy, .null, .null, .int 0, .null, .null, .null, .null, .null, .null, .int 0])), (ou, .inl (cJ, 1, .inr (.inl fo)))] s.heap := hP
  have hl := lv_entry ([.ref x, .int a, .ref ou]) (n := 4) (Nat.le_of_ble_eq_true rfl)
  rw [lg_entry_eq]
  generalize (lg_sl ([.ref x, .int a, .ref ou]) ++ List.replicate (4 - (lg_sl ([.ref x, .int a, .ref ou])).length) Slot.unset).toArray = ls at hl ⊢
  have hl : lv_has ls 4 [(0, .ref x), (1, .int a), (2, .ref ou)] := hl
  refine lv_aload_n hx hb d_LW_word_0 rfl (lv_at hl 2 rfl) ?_
  refine lv_iconst (v := 0) hx hb d_LW_word_1 (by decide) ?_
  refine lv_aload_n hx hb d_LW_word_2 rfl (lv_at hl 0 rfl) ?_
  refine lv_iload_n hx hb d_LW_word_3 rfl (lv_at hl 1 rfl) ?_
  have hFc := va_free (wc := [(x, .inr (0, [.ref tp, .int 0, .int ((-1)), .ref sg, .null, .null, .ref st, .null, .ref ft, .null, .ref hy, .null, .null, .int 0, .null, .null, .null, .null, .null, .null, .int 0]))]) hD hS hA [0] rfl
  refine te_calll (A0 := A) (A1 := va_A [(x, .inr (0, [.ref tp, .int 0, .int ((-1)), .ref sg, .null, .null, .ref st, .null, .ref ft, .null, .ref hy, .null, .null, .int 0, .null, .null, .null, .null, .null, .null, .int 0]))] s.heap.size) (te_runV (As := [.int a]) (rest := [.int 0, .ref ou]) ⟨hx, hb, hml, hown, hts⟩ (c_SP_word hfl hS0 dC dI x tp sg st ft hy a s.heap.size) (cwV 1 hts (tt_V k_2695 k_2696 k_2697 k_240 kw_SP_word) rfl rfl rfl (by decide +kernel) ⟨Nat.le_of_ble_eq_true rfl, Nat.le_of_ble_eq_true rfl⟩) ⟨prT_blind, va_recv hK hP (ci := 0) (q0 := 0) rfl rfl, prT_pre hb0 ⟨hB0.1, hB0.2⟩ (hP.sub [0] rfl) (hK.sub [] rfl) (hD.sub [0] (by decide) rfl)⟩ rfl rfl hl.1 rfl (lv_room (Nat.le_of_ble_eq_true rfl)) d_LW_word_4 ⟨Nat.le_of_ble_eq_true rfl, Nat.le_of_ble_eq_true rfl⟩) hS (fun q _ h => hFc q h) hFc (fun r u t H locs ht hvm hw hBt hz1 hk1 hS => ?_) (fun cls xx H locs hth hnew hce hz hk hS => ?_)
  · exact hw.elim
  · have hP : va_P (dC, dI) classes [(x, .inr (0, [.ref tp, .int 0, .int ((-1)), .ref sg, .null, .null, .ref st, .null, .ref ft, .null, .ref hy, .null, .null, .int 0, .null, .null, .null, .null, .null, .null, .int 0])), (ou, .inl (cJ, 1, .inr (.inl fo)))] H := te_keep hP hk
    rcases hth with ⟨rfl, hR⟩
    refine te_catch (own := "ScholarsPressLaw") (D := x_IOB) (hpc := 11) (pre := []) (en := e1) (tl := []) hown hce (by rw [hxs]; rfl) (fun y hy => by cases hy) (by simp [covers, a1_1, a1_2]) (by rw [a1_4]; decide) a1_3 (by rw [a1_4]; exact hts _ k_571) te_same ?_
    refine lv_astore_n (lv' := [(3, .ref xx), (0, .ref x), (1, .int a), (2, .ref ou)]) hx hb d_LW_word_11 rfl hl (by decide) rfl (fun ls hl => ?_)
    refine lv_iconst (v := 1) hx hb d_LW_word_12 (by decide) ?_
    have hP9 := hP.sub (ws' := [(ou, .inl (cJ, 1, .inr (.inl fo)))]) [1] rfl
    have hD9 := hD.sub (ws' := [(ou, .inl (cJ, 1, .inr (.inl fo)))]) [1] (by decide) rfl
    have hK9 := hK.sub (tys' := [(cJ, .long)]) [0] rfl
    exact W.iret (v := 1) hx hb hr (fun t ht hW => ⟨⟨1, fo, rfl, ⟨rfl, hR⟩, by rw [ht]; exact hP9, va_K.moved hW.alike hK9, hD9⟩, hS.F ht⟩) hS.2.2 d_LW_word_13
set_option maxHeartbeats 4000000 in
set_option maxRecDepth 100000 in
/-- the law's change on a fresh object -/
theorem c_LW_change {l : Launch} (hfl : l.flags = flags0) {s0 : State} (hS0 : te_S0 s0) (hNc : va_Nc x_ISE x_IAE s0) (dC : Nat → ClassId) (dI : Nat → Nat → Nat) (x tp sg st ft hy ou : Nat) (cJ : ClassId) (fo : Nat → Int64) (a b : Int32) (sz : Nat) : Met l y_LW_change [w_LW_change] ({ frames := 8, cells := 1, slots := 6, locals := 260 }) (va_Pc [.ref x, .int a, .int b, .ref ou] (prT s0 sz (dC, dI) [(x, .inr (0, [.ref tp, .int 0, .int ((-1)), .ref sg, .null, .null, .ref st, .null, .ref ft, .null, .ref hy, .null, .null, .int 0, .null, .null, .null, .null, .null, .null, .int 0])), (ou, .inl (cJ, 1, .inr (.inl fo)))] [(cJ, .long)])) (va_Qi (fun (r : Int32) (u : Nat → Int64) => (r = 1 ∧ ¬ (0 ≤ a.toInt ∧ a.toInt ≤ b.toInt)) ∨ (r = 2 ∧ (0 ≤ a.toInt ∧ a.toInt ≤ b.toInt))) (bw (dC, dI) (va_A [(x, .inr (0, [.ref tp, .int 0, .int ((-1)), .ref sg, .null, .null, .ref st, .null, .ref ft, .null, .ref hy, .null, .null, .int 0, .null, .null, .null, .null, .null, .null, .int 0])), (ou, .inl (cJ, 1, .inr (.inl fo)))] sz) (fun u => [(ou, .inl (cJ, 1, .inr (.inl u)))]) (fun _ => [(cJ, .long)])) (va_A [(x, .inr (0, [.ref tp, .int 0, .int ((-1)), .ref sg, .null, .null, .ref st, .null, .ref ft, .null, .ref hy, .null, .null, .int 0, .null, .null, .null, .null, .null, .null, .int 0])), (ou, .inl (cJ, 1, .inr (.inl fo)))] sz)) 1 6 (va_A [(x, .inr (0, [.ref tp, .int 0, .int ((-1)), .ref sg, .null, .null, .ref st, .null, .ref ft, .null, .ref hy, .null, .null, .int 0, .null, .null, .null, .null, .null, .null, .int 0])), (ou, .inl (cJ, 1, .inr (.inl fo)))] sz) := by
  refine va_MetW (cc := b_LW_change) (maxL := 5) (ret := (some .int)) (hh := [(0, 10, 13, 19), (0, 10, 17, 40), (0, 10, 21, 13), (0, 10, 25, 25)]) (by decide) rfl ?_
  intro p e s m args below meth c s₁ B hml hv
  obtain ⟨rfl, hsz, hb0, hB0, hP, hK, hD0⟩ := hv
  have hx := B.exec
  have hb := B.bytes
  have hr := B.returns
  have hts : ∀ wq ∈ tt, wq.before ([.ref x, .int a, .int b, .ref ou] : List Value).toArray s = true := hb0.hts
  have hown : s.vm.findClass "ScholarsPressLaw" = some m.cls := findClass_of_methodNamed B.named
  have hlocks := B.notSynchronized
  obtain ⟨e1, e2, e3, e4, hxs, he1, he2, he3, he4⟩ := te_e4 (te_tab B ((atoms_spec (ws := [w_LW_change]) B.pre) _ List.mem_cons_self))
  simp only [Prod.mk.injEq] at he1
  obtain ⟨a1_1, a1_2, a1_3, a1_4⟩ := he1
  simp only [Prod.mk.injEq] at he2
  obtain ⟨a2_1, a2_2, a2_3, a2_4⟩ := he2
  simp only [Prod.mk.injEq] at he3
  obtain ⟨a3_1, a3_2, a3_3, a3_4⟩ := he3
  simp only [Prod.mk.injEq] at he4
  obtain ⟨a4_1, a4_2, a4_3, a4_4⟩ := he4
  subst hsz
  have hD := hD0.self (sz := s.heap.size)
  generalize hAe : va_A [(x, .inr (0, [.ref tp, .int 0, .int ((-1)), .ref sg, .null, .null, .ref st, .null, .ref ft, .null, .ref hy, .null, .null, .int 0, .null, .null, .null, .null, .null, .null, .int 0])), (ou, .inl (cJ, 1, .inr (.inl fo)))] s.heap.size = A at hD ⊢
  have hA : ∀ q : Nat, s.heap.size ≤ q → A q := fun q h => by rw [← hAe]; exact Or.inr h
  have hS : va_S A s.heap s.heap [] := va_S.rf
  have hP : va_P (dC, dI) classes [(x, .inr (0, [.ref tp, .int 0, .int ((-1)), .ref sg, .null, .null, .ref st, .null, .ref ft, .null, .ref hy, .null, .null, .int 0, .null, .null, .null, .null, .null, .null, .int 0])), (ou, .inl (cJ, 1, .inr (.inl fo)))] s.heap := hP
  have hl := lv_entry ([.ref x, .int a, .int b, .ref ou]) (n := 5) (Nat.le_of_ble_eq_true rfl)
  rw [lg_entry_eq]
  generalize (lg_sl ([.ref x, .int a, .int b, .ref ou]) ++ List.replicate (5 - (lg_sl ([.ref x, .int a, .int b, .ref ou])).length) Slot.unset).toArray = ls at hl ⊢
  have hl : lv_has ls 5 [(0, .ref x), (1, .int a), (2, .int b), (3, .ref ou)] := hl
  refine lv_aload_n hx hb d_LW_change_0 rfl (lv_at hl 3 rfl) ?_
  refine lv_iconst (v := 0) hx hb d_LW_change_1 (by decide) ?_
  refine lv_aload_n hx hb d_LW_change_2 rfl (lv_at hl 0 rfl) ?_
  refine lv_iload_n hx hb d_LW_change_3 rfl (lv_at hl 1 rfl) ?_
  refine lv_iload_n hx hb d_LW_change_4 rfl (lv_at hl 2 rfl) ?_
  have hFc := va_free (wc := [(x, .inr (0, [.ref tp, .int 0, .int ((-1)), .ref sg, .null, .null, .ref st, .null, .ref ft, .null, .ref hy, .null, .null, .int 0, .null, .null, .null, .null, .null, .null, .int 0]))]) hD hS hA [0] rfl
  refine te_calli (A0 := A) (A1 := va_A [(x, .inr (0, [.ref tp, .int 0, .int ((-1)), .ref sg, .null, .null, .ref st, .null, .ref ft, .null, .ref hy, .null, .null, .int 0, .null, .null, .null, .null, .null, .null, .int 0]))] s.heap.size) (te_runV (As := [.int a, .int b]) (rest := [.int 0, .ref ou]) ⟨hx, hb, hml, hown, hts⟩ (c_SP_change hfl hS0 dC dI x tp sg st ft hy a b s.heap.size) (cwV 2 hts (tt_V k_1388 k_1389 k_1390 k_240 kw_SP_change) rfl rfl rfl (by decide +kernel) ⟨Nat.le_of_ble_eq_true rfl, Nat.le_of_ble_eq_true rfl⟩) ⟨prT_blind, va_recv hK hP (ci := 0) (q0 := 0) rfl rfl, prT_pre hb0 ⟨hB0.1, hB0.2⟩ (hP.sub [0] rfl) (hK.sub [] rfl) (hD.sub [0] (by decide) rfl)⟩ rfl rfl hl.1 rfl (lv_room (Nat.le_of_ble_eq_true rfl)) d_LW_change_5 ⟨Nat.le_of_ble_eq_true rfl, Nat.le_of_ble_eq_true rfl⟩) hS (fun q _ h => hFc q h) hFc (fun r u t H locs ht hvm hw hBt hz1 hk1 hS => ?_) (fun cls xx H locs hth hnew hce hz hk hS => ?_)
  · exact hw.elim
  · have hP : va_P (dC, dI) classes [(x, .inr (0, [.ref tp, .int 0, .int ((-1)), .ref sg, .null, .null, .ref st, .null, .ref ft, .null, .ref hy, .null, .null, .int 0, .null, .null, .null, .null, .null, .null, .int 0])), (ou, .inl (cJ, 1, .inr (.inl fo)))] H := te_keep hP hk
    rcases hth with ⟨rfl, hR⟩ | ⟨rfl, hR⟩
    · refine te_catch (own := "ScholarsPressLaw") (D := x_IAE) (hpc := 13) (pre := []) (en := e1) (tl := [e2, e3, e4]) hown hce (by rw [hxs]; rfl) (fun y hy => by cases hy) (by simp [covers, a1_1, a1_2]) (by rw [a1_4]; decide) a1_3 (by rw [a1_4]; exact hts _ k_653) te_same ?_
      refine lv_astore (lv' := [(4, .ref xx), (0, .ref x), (1, .int a), (2, .int b), (3, .ref ou)]) hx hb d_LW_change_13 hl (by decide) rfl (fun ls hl => ?_)
      refine lv_iconst (v := 1) hx hb d_LW_change_15 (by decide) ?_
      have hP9 := hP.sub (ws' := [(ou, .inl (cJ, 1, .inr (.inl fo)))]) [1] rfl
      have hD9 := hD.sub (ws' := [(ou, .inl (cJ, 1, .inr (.inl fo)))]) [1] (by decide) rfl
      have hK9 := hK.sub (tys' := [(cJ, .long)]) [0] rfl
      exact W.iret (v := 1) hx hb hr (fun t ht hW => ⟨⟨1, fo, rfl, Or.inl ⟨rfl, hR⟩, by rw [ht]; exact hP9, va_K.moved hW.alike hK9, hD9⟩, hS.F ht⟩) hS.2.2 d_LW_change_16
    · refine te_catch (own := "ScholarsPressLaw") (D := x_ISE) (hpc := 17) (pre := [e1]) (en := e2) (tl := [e3, e4]) hown hce (by rw [hxs]; rfl) (fun y hy => by rw [List.mem_singleton.mp hy]; exact Or.inr ⟨by simp [covers, a1_1, a1_2], by rw [a1_4]; decide, x_IAE, by rw [a1_4]; exact hts _ k_653, hNc.moved hB0.1⟩) (by simp [covers, a2_1, a2_2]) (by rw [a2_4]; decide) a2_3 (by rw [a2_4]; exact hts _ k_1387) te_same ?_
      refine lv_astore (lv' := [(4, .ref xx), (0, .ref x), (1, .int a), (2, .int b), (3, .ref ou)]) hx hb d_LW_change_17 hl (by decide) rfl (fun ls hl => ?_)
      refine lv_iconst (v := 2) hx hb d_LW_change_19 (by decide) ?_
      have hP9 := hP.sub (ws' := [(ou, .inl (cJ, 1, .inr (.inl fo)))]) [1] rfl
      have hD9 := hD.sub (ws' := [(ou, .inl (cJ, 1, .inr (.inl fo)))]) [1] (by decide) rfl
      have hK9 := hK.sub (tys' := [(cJ, .long)]) [0] rfl
      exact W.iret (v := 2) hx hb hr (fun t ht hW => ⟨⟨2, fo, rfl, Or.inr (⟨rfl, hR⟩), by rw [ht]; exact hP9, va_K.moved hW.alike hK9, hD9⟩, hS.F ht⟩) hS.2.2 d_LW_change_20
set_option maxHeartbeats 4000000 in
set_option maxRecDepth 100000 in
/-- the law's end on a fresh object -/
theorem c_LW_end {l : Launch} (hfl : l.flags = flags0) {s0 : State} (hS0 : te_S0 s0) (hNc : va_Nc x_ISE x_IAE s0) (dC : Nat → ClassId) (dI : Nat → Nat → Nat) (x tp sg st ft hy ou : Nat) (cJ : ClassId) (fo : Nat → Int64) (n : Int32) (sz : Nat) : Met l y_LW_end [w_LW_end] ({ frames := 8, cells := 1, slots := 6, locals := 260 }) (va_Pc [.ref x, .int n, .ref ou] (prT s0 sz (dC, dI) [(x, .inr (0, [.ref tp, .int 0, .int ((-1)), .ref sg, .null, .null, .ref st, .null, .ref ft, .null, .ref hy, .null, .null, .int 0, .null, .null, .null, .null, .null, .null, .int 0])), (ou, .inl (cJ, 1, .inr (.inl fo)))] [(cJ, .long)])) (va_Qi (fun (r : Int32) (u : Nat → Int64) => (r = 0 ∧ u 0 = n.toInt64 ∧ n.toInt = 0) ∨ (r = 1 ∧ ¬ n.toInt = 0)) (bw (dC, dI) (va_A [(x, .inr (0, [.ref tp, .int 0, .int ((-1)), .ref sg, .null, .null, .ref st, .null, .ref ft, .null, .ref hy, .null, .null, .int 0, .null, .null, .null, .null, .null, .null, .int 0])), (ou, .inl (cJ, 1, .inr (.inl fo)))] sz) (fun u => [(ou, .inl (cJ, 1, .inr (.inl u)))]) (fun _ => [(cJ, .long)])) (va_A [(x, .inr (0, [.ref tp, .int 0, .int ((-1)), .ref sg, .null, .null, .ref st, .null, .ref ft, .null, .ref hy, .null, .null, .int 0, .null, .null, .null, .null, .null, .null, .int 0])), (ou, .inl (cJ, 1, .inr (.inl fo)))] sz)) 1 6 (va_A [(x, .inr (0, [.ref tp, .int 0, .int ((-1)), .ref sg, .null, .null, .ref st, .null, .ref ft, .null, .ref hy, .null, .null, .int 0, .null, .null, .null, .null, .null, .null, .int 0])), (ou, .inl (cJ, 1, .inr (.inl fo)))] sz) := by
  refine va_MetW (cc := b_LW_end) (maxL := 4) (ret := (some .int)) (hh := [(0, 9, 12, 19)]) (by decide) rfl ?_
  intro p e s m args below meth c s₁ B hml hv
  obtain ⟨rfl, hsz, hb0, hB0, hP, hK, hD0⟩ := hv
  have hx := B.exec
  have hb := B.bytes
  have hr := B.returns
  have hts : ∀ wq ∈ tt, wq.before ([.ref x, .int n, .ref ou] : List Value).toArray s = true := hb0.hts
  have hown : s.vm.findClass "ScholarsPressLaw" = some m.cls := findClass_of_methodNamed B.named
  have hlocks := B.notSynchronized
  obtain ⟨e1, hxs, he1⟩ := te_e1 (te_tab B ((atoms_spec (ws := [w_LW_end]) B.pre) _ List.mem_cons_self))
  simp only [Prod.mk.injEq] at he1
  obtain ⟨a1_1, a1_2, a1_3, a1_4⟩ := he1
  subst hsz
  have hD := hD0.self (sz := s.heap.size)
  generalize hAe : va_A [(x, .inr (0, [.ref tp, .int 0, .int ((-1)), .ref sg, .null, .null, .ref st, .null, .ref ft, .null, .ref hy, .null, .null, .int 0, .null, .null, .null, .null, .null, .null, .int 0])), (ou, .inl (cJ, 1, .inr (.inl fo)))] s.heap.size = A at hD ⊢
  have hA : ∀ q : Nat, s.heap.size ≤ q → A q := fun q h => by rw [← hAe]; exact Or.inr h
  have hS : va_S A s.heap s.heap [] := va_S.rf
  have hP : va_P (dC, dI) classes [(x, .inr (0, [.ref tp, .int 0, .int ((-1)), .ref sg, .null, .null, .ref st, .null, .ref ft, .null, .ref hy, .null, .null, .int 0, .null, .null, .null, .null, .null, .null, .int 0])), (ou, .inl (cJ, 1, .inr (.inl fo)))] s.heap := hP
  have hl := lv_entry ([.ref x, .int n, .ref ou]) (n := 4) (Nat.le_of_ble_eq_true rfl)
  rw [lg_entry_eq]
  generalize (lg_sl ([.ref x, .int n, .ref ou]) ++ List.replicate (4 - (lg_sl ([.ref x, .int n, .ref ou])).length) Slot.unset).toArray = ls at hl ⊢
  have hl : lv_has ls 4 [(0, .ref x), (1, .int n), (2, .ref ou)] := hl
  refine lv_aload_n hx hb d_LW_end_0 rfl (lv_at hl 2 rfl) ?_
  refine lv_iconst (v := 0) hx hb d_LW_end_1 (by decide) ?_
  refine lv_aload_n hx hb d_LW_end_2 rfl (lv_at hl 0 rfl) ?_
  refine lv_iload_n hx hb d_LW_end_3 rfl (lv_at hl 1 rfl) ?_
  have hFc := va_free (wc := [(x, .inr (0, [.ref tp, .int 0, .int ((-1)), .ref sg, .null, .null, .ref st, .null, .ref ft, .null, .ref hy, .null, .null, .int 0, .null, .null, .null, .null, .null, .null, .int 0]))]) hD hS hA [0] rfl
  refine te_calli (A0 := A) (A1 := va_A [(x, .inr (0, [.ref tp, .int 0, .int ((-1)), .ref sg, .null, .null, .ref st, .null, .ref ft, .null, .ref hy, .null, .null, .int 0, .null, .null, .null, .null, .null, .null, .int 0]))] s.heap.size) (te_runV (As := [.int n]) (rest := [.int 0, .ref ou]) ⟨hx, hb, hml, hown, hts⟩ (c_SP_end hfl hS0 dC dI x tp sg st ft hy n s.heap.size) (cwV 1 hts (tt_V k_654 k_655 k_656 k_240 kw_SP_end) rfl rfl rfl (by decide +kernel) ⟨Nat.le_of_ble_eq_true rfl, Nat.le_of_ble_eq_true rfl⟩) ⟨prT_blind, va_recv hK hP (ci := 0) (q0 := 0) rfl rfl, prT_pre hb0 ⟨hB0.1, hB0.2⟩ (hP.sub [0] rfl) (hK.sub [] rfl) (hD.sub [0] (by decide) rfl)⟩ rfl rfl hl.1 rfl (lv_room (Nat.le_of_ble_eq_true rfl)) d_LW_end_4 ⟨Nat.le_of_ble_eq_true rfl, Nat.le_of_ble_eq_true rfl⟩) hS (fun q _ h => hFc q h) hFc (fun r u t H locs ht hvm hw hBt hz1 hk1 hS => ?_) (fun cls xx H locs hth hnew hce hz hk hS => ?_)
  · obtain ⟨hrn, hR⟩ := hw
    rw [hrn]
    obtain ⟨hP, hD⟩ := va_join (wr := [(ou, .inl (cJ, 1, .inr (.inl fo)))]) (w1 := []) hP hD [0] [1] rfl rfl (by decide) (by decide) hk1 hFc va_P_nil va_D_nil
    have hP : va_P (dC, dI) classes [(ou, .inl (cJ, 1, .inr (.inl fo)))] H := hP
    have hD : va_D A [(ou, .inl (cJ, 1, .inr (.inl fo)))] := hD
    refine lv_i2l hx hb d_LW_end_7 rfl ?_
    refine va_last hx hb hK hP hD hS 0 0 rfl rfl (i := 0) (x := n.toInt64) vp_01 d_LW_end_8 (fun H locs hP hD hS => ?_)
    have hP : va_P (dC, dI) classes [(ou, .inl (cJ, 1, .inr (.inl (vp_updL fo (0 : Int32).toNatClampNeg n.toInt64))))] H := hP
    have hD : va_D A [(ou, .inl (cJ, 1, .inr (.inl (vp_updL fo (0 : Int32).toNatClampNeg n.toInt64))))] := hD
    refine lv_goto (tgt := 15) hx hb d_LW_end_9 (by decide) ?_
    refine lv_iconst (v := 0) hx hb d_LW_end_15 (by decide) ?_
    have hP9 := hP.sub (ws' := [(ou, .inl (cJ, 1, .inr (.inl (vp_updL fo (0 : Int32).toNatClampNeg n.toInt64))))]) [0] rfl
    have hD9 := hD.sub (ws' := [(ou, .inl (cJ, 1, .inr (.inl (vp_updL fo (0 : Int32).toNatClampNeg n.toInt64))))]) [0] (by decide) rfl
    have hK9 := hK.sub (tys' := [(cJ, .long)]) [0] rfl
    exact W.iret (v := 0) hx hb hr (fun t ht hW => ⟨⟨0, vp_updL fo (0 : Int32).toNatClampNeg n.toInt64, rfl, Or.inl ⟨rfl, rfl, hR⟩, by rw [ht]; exact hP9, va_K.moved hW.alike hK9, hD9⟩, hS.F ht⟩) hS.2.2 d_LW_end_16
  · have hP : va_P (dC, dI) classes [(x, .inr (0, [.ref tp, .int 0, .int ((-1)), .ref sg, .null, .null, .ref st, .null, .ref ft, .null, .ref hy, .null, .null, .int 0, .null, .null, .null, .null, .null, .null, .int 0])), (ou, .inl (cJ, 1, .inr (.inl fo)))] H := te_keep hP hk
    rcases hth with ⟨rfl, hR⟩
    refine te_catch (own := "ScholarsPressLaw") (D := x_IAE) (hpc := 12) (pre := []) (en := e1) (tl := []) hown hce (by rw [hxs]; rfl) (fun y hy => by cases hy) (by simp [covers, a1_1, a1_2]) (by rw [a1_4]; decide) a1_3 (by rw [a1_4]; exact hts _ k_653) te_same ?_
    refine lv_astore_n (lv' := [(3, .ref xx), (0, .ref x), (1, .int n), (2, .ref ou)]) hx hb d_LW_end_12 rfl hl (by decide) rfl (fun ls hl => ?_)
    refine lv_iconst (v := 1) hx hb d_LW_end_13 (by decide) ?_
    have hP9 := hP.sub (ws' := [(ou, .inl (cJ, 1, .inr (.inl fo)))]) [1] rfl
    have hD9 := hD.sub (ws' := [(ou, .inl (cJ, 1, .inr (.inl fo)))]) [1] (by decide) rfl
    have hK9 := hK.sub (tys' := [(cJ, .long)]) [0] rfl
    exact W.iret (v := 1) hx hb hr (fun t ht hW => ⟨⟨1, fo, rfl, Or.inr (⟨rfl, hR⟩), by rw [ht]; exact hP9, va_K.moved hW.alike hK9, hD9⟩, hS.F ht⟩) hS.2.2 d_LW_end_14
