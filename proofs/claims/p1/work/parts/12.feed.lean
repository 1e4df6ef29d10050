set_option maxHeartbeats 4000000 in
set_option maxRecDepth 100000 in
/-- feedInt: four bytes more -/
theorem c_SP_feedInt (l : Launch) (dC : Nat → ClassId) (dI : Nat → Nat → Nat) (x tp sg st ft hy : Nat) (cB : ClassId) (f : Nat → Int32) (n : Nat) (y : Int32) (sz : Nat) (hn : n + 4 ≤ 16384) : Met l y_SP_feedInt [w_SP_feedInt] ({ frames := 0, cells := 0, slots := 0, locals := 0 }) (va_Pc [.ref x, .int y] (pr sz (dC, dI) [(x, .inr (0, [.ref tp, .int (nI n), .int ((-1)), .ref sg, .null, .null, .ref st, .null, .ref ft, .null, .ref hy, .null, .null, .int 0, .null, .null, .null, .null, .null, .null, .int 0])), (tp, .inl (cB, 16384, .inl f))] [(cB, .byte)])) (va_Qv (fun (u : Nat → Int32) => True) (bw (dC, dI) (va_A [(x, .inr (0, [.ref tp, .int (nI n), .int ((-1)), .ref sg, .null, .null, .ref st, .null, .ref ft, .null, .ref hy, .null, .null, .int 0, .null, .null, .null, .null, .null, .null, .int 0])), (tp, .inl (cB, 16384, .inl f))] sz) (fun u : Nat → Int32 => [(x, .inr (0, [.ref tp, .int (nI (n + 4)), .int ((-1)), .ref sg, .null, .null, .ref st, .null, .ref ft, .null, .ref hy, .null, .null, .int 0, .null, .null, .null, .null, .null, .null, .int 0])), (tp, .inl (cB, 16384, .inl u))]) (fun u : Nat → Int32 => [(cB, .byte)])) (va_A [(x, .inr (0, [.ref tp, .int (nI n), .int ((-1)), .ref sg, .null, .null, .ref st, .null, .ref ft, .null, .ref hy, .null, .null, .int 0, .null, .null, .null, .null, .null, .null, .int 0])), (tp, .inl (cB, 16384, .inl f))] sz)) 0 0 (va_A [(x, .inr (0, [.ref tp, .int (nI n), .int ((-1)), .ref sg, .null, .null, .ref st, .null, .ref ft, .null, .ref hy, .null, .null, .int 0, .null, .null, .null, .null, .null, .null, .int 0])), (tp, .inl (cB, 16384, .inl f))] sz) := by
  refine Met.ofW (cc := b_SP_feedInt) (maxL := 3) (ret := none) (by decide) rfl ?_
  intro p e s m args below meth c s₁ B hml hv
  obtain ⟨rfl, hsz, hb0, hP, hK, hD0⟩ := hv
  have hx := B.exec
  have hb := B.bytes
  have hr := B.returns
  have hts : ∀ wq ∈ tt, wq.before ([.ref x, .int y] : List Value).toArray s = true := hb0.hts
  have hown : s.vm.findClass "ScholarsPress" = some m.cls := findClass_of_methodNamed B.named
  have hlocks := B.notSynchronized
  subst hsz
  have hD := hD0.self (sz := s.heap.size)
  generalize hAe : va_A [(x, .inr (0, [.ref tp, .int (nI n), .int ((-1)), .ref sg, .null, .null, .ref st, .null, .ref ft, .null, .ref hy, .null, .null, .int 0, .null, .null, .null, .null, .null, .null, .int 0])), (tp, .inl (cB, 16384, .inl f))] s.heap.size = A at hD ⊢
  have hA : ∀ q : Nat, s.heap.size ≤ q → A q := fun q h => by rw [← hAe]; exact Or.inr h
  have hS : va_S A s.heap s.heap [] := va_S.rf
  have hP : va_P (dC, dI) classes [(x, .inr (0, [.ref tp, .int (nI n), .int ((-1)), .ref sg, .null, .null, .ref st, .null, .ref ft, .null, .ref hy, .null, .null, .int 0, .null, .null, .null, .null, .null, .null, .int 0])), (tp, .inl (cB, 16384, .inl f))] s.heap := hP
  have hl := lv_entry ([.ref x, .int y]) (n := 3) (Nat.le_of_ble_eq_true rfl)
  rw [lg_entry_eq]
  generalize (lg_sl ([.ref x, .int y]) ++ List.replicate (3 - (lg_sl ([.ref x, .int y])).length) Slot.unset).toArray = ls at hl ⊢
  have hl : lv_has ls 3 [(0, .ref x), (1, .int y)] := hl
  refine lv_bipush (v := 24) hx hb d_SP_feedInt_0 (by decide) ?_
  refine lv_istore_n (lv' := [(2, .int 24), (0, .ref x), (1, .int y)]) hx hb d_SP_feedInt_2 rfl hl (by decide) rfl (fun ls hl => ?_)
  refine lv_iload_n hx hb d_SP_feedInt_3 rfl (lv_at hl 0 rfl) ?_
  refine lv_if_lt (tgt := 36) hx hb d_SP_feedInt_4 (by decide) (fun c_1 => ?_) (fun c_1 => ?_)
  · exact absurd c_1 (by decide)
  · refine lv_aload_n hx hb d_SP_feedInt_7 rfl (lv_at hl 1 rfl) ?_
    refine va_get (D := (dC, dI)) (ci := 0) (v := .ref tp) (C := "ScholarsPress") (T := F_SP) (N := 21) hx hb hts in_SP hown hK hP 0 rfl rfl 0 (by decide) (hts (.fieldLink "ScholarsPress" 9 "ScholarsPress" "tape" "[B") k_500) (fun _ h9 => h9) rfl d_SP_feedInt_8 ?_
    refine lv_aload_n hx hb d_SP_feedInt_11 rfl (lv_at hl 1 rfl) ?_
    refine va_get (D := (dC, dI)) (ci := 0) (v := .int (nI n)) (C := "ScholarsPress") (T := F_SP) (N := 21) hx hb hts in_SP hown hK hP 0 rfl rfl 1 (by decide) (hts (.fieldLink "ScholarsPress" 45 "ScholarsPress" "tapeLength" "I") k_501) (fun _ h9 => h9) rfl d_SP_feedInt_12 ?_
    refine lv_iload_n hx hb d_SP_feedInt_15 rfl (lv_at hl 2 rfl) ?_
    refine lv_iload_n hx hb d_SP_feedInt_16 rfl (lv_at hl 0 rfl) ?_
    refine lv_ishr hx hb d_SP_feedInt_17 ?_
    refine lv_topi (fun v_2 ev_2 => ?_)
    refine lv_i2b hx hb d_SP_feedInt_18 rfl ?_
    refine lv_topi (fun v_3 ev_3 => ?_)
    refine va_bast hx hb hK hP hD hS 1 0 rfl rfl (i := nI n) (x := v_3) (vp_in_nI (by omega) (by decide)) d_SP_feedInt_19 (fun H locs hP hD hS => ?_)
    obtain ⟨g_4, eg_4⟩ : ∃ g, g = upd f (nI n).toNatClampNeg (vp_nar .byte v_3) := ⟨_, rfl⟩
    have hP : va_P (dC, dI) classes [(x, .inr (0, [.ref tp, .int (nI n), .int ((-1)), .ref sg, .null, .null, .ref st, .null, .ref ft, .null, .ref hy, .null, .null, .int 0, .null, .null, .null, .null, .null, .null, .int 0])), (tp, .inl (cB, 16384, .inl g_4))] H := by rw [eg_4]; exact hP
    have hD : va_D A [(x, .inr (0, [.ref tp, .int (nI n), .int ((-1)), .ref sg, .null, .null, .ref st, .null, .ref ft, .null, .ref hy, .null, .null, .int 0, .null, .null, .null, .null, .null, .null, .int 0])), (tp, .inl (cB, 16384, .inl g_4))] := by rw [eg_4]; exact hD
    refine lv_aload_n hx hb d_SP_feedInt_20 rfl (lv_at hl 1 rfl) ?_
    refine lv_dup hx hb d_SP_feedInt_21 rfl ?_
    refine va_get (D := (dC, dI)) (ci := 0) (v := .int (nI n)) (C := "ScholarsPress") (T := F_SP) (N := 21) hx hb hts in_SP hown hK hP 0 rfl rfl 1 (by decide) (hts (.fieldLink "ScholarsPress" 45 "ScholarsPress" "tapeLength" "I") k_501) (fun _ h9 => h9) rfl d_SP_feedInt_22 ?_
    refine lv_iconst (v := 1) hx hb d_SP_feedInt_25 (by decide) ?_
    refine lv_iadd hx hb d_SP_feedInt_26 ?_
    rw [nI_1]
    refine va_put (D := (dC, dI)) (ci := 0) (v := .int (nI (n + 1))) (ty := .int) (C := "ScholarsPress") (T := F_SP) (N := 21) hx hb hts in_SP t_SP t_SP_ok n_SP hown hK hP hD hS 0 rfl rfl 1 (by decide) (hts (.fieldLink "ScholarsPress" 45 "ScholarsPress" "tapeLength" "I") k_501) (fun _ h9 => h9) rfl (by decide +kernel) rfl rfl (Nat.le_of_ble_eq_true rfl) d_SP_feedInt_27 (fun H locs hP hD hS => ?_)
    have hP : va_P (dC, dI) classes [(x, .inr (0, [.ref tp, .int (nI (n + 1)), .int ((-1)), .ref sg, .null, .null, .ref st, .null, .ref ft, .null, .ref hy, .null, .null, .int 0, .null, .null, .null, .null, .null, .null, .int 0])), (tp, .inl (cB, 16384, .inl g_4))] H := hP
    have hD : va_D A [(x, .inr (0, [.ref tp, .int (nI (n + 1)), .int ((-1)), .ref sg, .null, .null, .ref st, .null, .ref ft, .null, .ref hy, .null, .null, .int 0, .null, .null, .null, .null, .null, .null, .int 0])), (tp, .inl (cB, 16384, .inl g_4))] := hD
    refine lv_iinc (v := 16) (lv' := [(2, .int 16), (0, .ref x), (1, .int y)]) hx hb d_SP_feedInt_30 hl (k := 0) rfl (by decide) (by decide) rfl (fun ls hl => ?_)
    refine lv_goto (tgt := 3) hx hb d_SP_feedInt_33 (by decide) ?_
    refine lv_iload_n hx hb d_SP_feedInt_3 rfl (lv_at hl 0 rfl) ?_
    refine lv_if_lt (tgt := 36) hx hb d_SP_feedInt_4 (by decide) (fun c_5 => ?_) (fun c_5 => ?_)
    · exact absurd c_5 (by decide)
    · refine lv_aload_n hx hb d_SP_feedInt_7 rfl (lv_at hl 1 rfl) ?_
      refine va_get (D := (dC, dI)) (ci := 0) (v := .ref tp) (C := "ScholarsPress") (T := F_SP) (N := 21) hx hb hts in_SP hown hK hP 0 rfl rfl 0 (by decide) (hts (.fieldLink "ScholarsPress" 9 "ScholarsPress" "tape" "[B") k_500) (fun _ h9 => h9) rfl d_SP_feedInt_8 ?_
      refine lv_aload_n hx hb d_SP_feedInt_11 rfl (lv_at hl 1 rfl) ?_
      refine va_get (D := (dC, dI)) (ci := 0) (v := .int (nI (n + 1))) (C := "ScholarsPress") (T := F_SP) (N := 21) hx hb hts in_SP hown hK hP 0 rfl rfl 1 (by decide) (hts (.fieldLink "ScholarsPress" 45 "ScholarsPress" "tapeLength" "I") k_501) (fun _ h9 => h9) rfl d_SP_feedInt_12 ?_
      refine lv_iload_n hx hb d_SP_feedInt_15 rfl (lv_at hl 2 rfl) ?_
      refine lv_iload_n hx hb d_SP_feedInt_16 rfl (lv_at hl 0 rfl) ?_
      refine lv_ishr hx hb d_SP_feedInt_17 ?_
      refine lv_topi (fun v_6 ev_6 => ?_)
      refine lv_i2b hx hb d_SP_feedInt_18 rfl ?_
      refine lv_topi (fun v_7 ev_7 => ?_)
      refine va_bast hx hb hK hP hD hS 1 0 rfl rfl (i := nI (n + 1)) (x := v_7) (vp_in_nI (by omega) (by decide)) d_SP_feedInt_19 (fun H locs hP hD hS => ?_)
      obtain ⟨g_8, eg_8⟩ : ∃ g, g = upd g_4 (nI (n + 1)).toNatClampNeg (vp_nar .byte v_7) := ⟨_, rfl⟩
      have hP : va_P (dC, dI) classes [(x, .inr (0, [.ref tp, .int (nI (n + 1)), .int ((-1)), .ref sg, .null, .null, .ref st, .null, .ref ft, .null, .ref hy, .null, .null, .int 0, .null, .null, .null, .null, .null, .null, .int 0])), (tp, .inl (cB, 16384, .inl g_8))] H := by rw [eg_8]; exact hP
      have hD : va_D A [(x, .inr (0, [.ref tp, .int (nI (n + 1)), .int ((-1)), .ref sg, .null, .null, .ref st, .null, .ref ft, .null, .ref hy, .null, .null, .int 0, .null, .null, .null, .null, .null, .null, .int 0])), (tp, .inl (cB, 16384, .inl g_8))] := by rw [eg_8]; exact hD
      refine lv_aload_n hx hb d_SP_feedInt_20 rfl (lv_at hl 1 rfl) ?_
      refine lv_dup hx hb d_SP_feedInt_21 rfl ?_
      refine va_get (D := (dC, dI)) (ci := 0) (v := .int (nI (n + 1))) (C := "ScholarsPress") (T := F_SP) (N := 21) hx hb hts in_SP hown hK hP 0 rfl rfl 1 (by decide) (hts (.fieldLink "ScholarsPress" 45 "ScholarsPress" "tapeLength" "I") k_501) (fun _ h9 => h9) rfl d_SP_feedInt_22 ?_
      refine lv_iconst (v := 1) hx hb d_SP_feedInt_25 (by decide) ?_
      refine lv_iadd hx hb d_SP_feedInt_26 ?_
      rw [nI_1]
      refine va_put (D := (dC, dI)) (ci := 0) (v := .int (nI (n + 2))) (ty := .int) (C := "ScholarsPress") (T := F_SP) (N := 21) hx hb hts in_SP t_SP t_SP_ok n_SP hown hK hP hD hS 0 rfl rfl 1 (by decide) (hts (.fieldLink "ScholarsPress" 45 "ScholarsPress" "tapeLength" "I") k_501) (fun _ h9 => h9) rfl (by decide +kernel) rfl rfl (Nat.le_of_ble_eq_true rfl) d_SP_feedInt_27 (fun H locs hP hD hS => ?_)
      have hP : va_P (dC, dI) classes [(x, .inr (0, [.ref tp, .int (nI (n + 2)), .int ((-1)), .ref sg, .null, .null, .ref st, .null, .ref ft, .null, .ref hy, .null, .null, .int 0, .null, .null, .null, .null, .null, .null, .int 0])), (tp, .inl (cB, 16384, .inl g_8))] H := hP
      have hD : va_D A [(x, .inr (0, [.ref tp, .int (nI (n + 2)), .int ((-1)), .ref sg, .null, .null, .ref st, .null, .ref ft, .null, .ref hy, .null, .null, .int 0, .null, .null, .null, .null, .null, .null, .int 0])), (tp, .inl (cB, 16384, .inl g_8))] := hD
      refine lv_iinc (v := 8) (lv' := [(2, .int 8), (0, .ref x), (1, .int y)]) hx hb d_SP_feedInt_30 hl (k := 0) rfl (by decide) (by decide) rfl (fun ls hl => ?_)
      refine lv_goto (tgt := 3) hx hb d_SP_feedInt_33 (by decide) ?_
      refine lv_iload_n hx hb d_SP_feedInt_3 rfl (lv_at hl 0 rfl) ?_
      refine lv_if_lt (tgt := 36) hx hb d_SP_feedInt_4 (by decide) (fun c_9 => ?_) (fun c_9 => ?_)
      · exact absurd c_9 (by decide)
      · refine lv_aload_n hx hb d_SP_feedInt_7 rfl (lv_at hl 1 rfl) ?_
        refine va_get (D := (dC, dI)) (ci := 0) (v := .ref tp) (C := "ScholarsPress") (T := F_SP) (N := 21) hx hb hts in_SP hown hK hP 0 rfl rfl 0 (by decide) (hts (.fieldLink "ScholarsPress" 9 "ScholarsPress" "tape" "[B") k_500) (fun _ h9 => h9) rfl d_SP_feedInt_8 ?_
        refine lv_aload_n hx hb d_SP_feedInt_11 rfl (lv_at hl 1 rfl) ?_
        refine va_get (D := (dC, dI)) (ci := 0) (v := .int (nI (n + 2))) (C := "ScholarsPress") (T := F_SP) (N := 21) hx hb hts in_SP hown hK hP 0 rfl rfl 1 (by decide) (hts (.fieldLink "ScholarsPress" 45 "ScholarsPress" "tapeLength" "I") k_501) (fun _ h9 => h9) rfl d_SP_feedInt_12 ?_
        refine lv_iload_n hx hb d_SP_feedInt_15 rfl (lv_at hl 2 rfl) ?_
        refine lv_iload_n hx hb d_SP_feedInt_16 rfl (lv_at hl 0 rfl) ?_
        refine lv_ishr hx hb d_SP_feedInt_17 ?_
        refine lv_topi (fun v_10 ev_10 => ?_)
        refine lv_i2b hx hb d_SP_feedInt_18 rfl ?_
        refine lv_topi (fun v_11 ev_11 => ?_)
        refine va_bast hx hb hK hP hD hS 1 0 rfl rfl (i := nI (n + 2)) (x := v_11) (vp_in_nI (by omega) (by decide)) d_SP_feedInt_19 (fun H locs hP hD hS => ?_)
        obtain ⟨g_12, eg_12⟩ : ∃ g, g = upd g_8 (nI (n + 2)).toNatClampNeg (vp_nar .byte v_11) := ⟨_, rfl⟩
        have hP : va_P (dC, dI) classes [(x, .inr (0, [.ref tp, .int (nI (n + 2)), .int ((-1)), .ref sg, .null, .null, .ref st, .null, .ref ft, .null, .ref hy, .null, .null, .int 0, .null, .null, .null, .null, .null, .null, .int 0])), (tp, .inl (cB, 16384, .inl g_12))] H := by rw [eg_12]; exact hP
        have hD : va_D A [(x, .inr (0, [.ref tp, .int (nI (n + 2)), .int ((-1)), .ref sg, .null, .null, .ref st, .null, .ref ft, .null, .ref hy, .null, .null, .int 0, .null, .null, .null, .null, .null, .null, .int 0])), (tp, .inl (cB, 16384, .inl g_12))] := by rw [eg_12]; exact hD
        refine lv_aload_n hx hb d_SP_feedInt_20 rfl (lv_at hl 1 rfl) ?_
        refine lv_dup hx hb d_SP_feedInt_21 rfl ?_
        refine va_get (D := (dC, dI)) (ci := 0) (v := .int (nI (n + 2))) (C := "ScholarsPress") (T := F_SP) (N := 21) hx hb hts in_SP hown hK hP 0 rfl rfl 1 (by decide) (hts (.fieldLink "ScholarsPress" 45 "ScholarsPress" "tapeLength" "I") k_501) (fun _ h9 => h9) rfl d_SP_feedInt_22 ?_
        refine lv_iconst (v := 1) hx hb d_SP_feedInt_25 (by decide) ?_
        refine lv_iadd hx hb d_SP_feedInt_26 ?_
        rw [nI_1]
        refine va_put (D := (dC, dI)) (ci := 0) (v := .int (nI (n + 3))) (ty := .int) (C := "ScholarsPress") (T := F_SP) (N := 21) hx hb hts in_SP t_SP t_SP_ok n_SP hown hK hP hD hS 0 rfl rfl 1 (by decide) (hts (.fieldLink "ScholarsPress" 45 "ScholarsPress" "tapeLength" "I") k_501) (fun _ h9 => h9) rfl (by decide +kernel) rfl rfl (Nat.le_of_ble_eq_true rfl) d_SP_feedInt_27 (fun H locs hP hD hS => ?_)
        have hP : va_P (dC, dI) classes [(x, .inr (0, [.ref tp, .int (nI (n + 3)), .int ((-1)), .ref sg, .null, .null, .ref st, .null, .ref ft, .null, .ref hy, .null, .null, .int 0, .null, .null, .null, .null, .null, .null, .int 0])), (tp, .inl (cB, 16384, .inl g_12))] H := hP
        have hD : va_D A [(x, .inr (0, [.ref tp, .int (nI (n + 3)), .int ((-1)), .ref sg, .null, .null, .ref st, .null, .ref ft, .null, .ref hy, .null, .null, .int 0, .null, .null, .null, .null, .null, .null, .int 0])), (tp, .inl (cB, 16384, .inl g_12))] := hD
        refine lv_iinc (v := 0) (lv' := [(2, .int 0), (0, .ref x), (1, .int y)]) hx hb d_SP_feedInt_30 hl (k := 0) rfl (by decide) (by decide) rfl (fun ls hl => ?_)
        refine lv_goto (tgt := 3) hx hb d_SP_feedInt_33 (by decide) ?_
        refine lv_iload_n hx hb d_SP_feedInt_3 rfl (lv_at hl 0 rfl) ?_
        refine lv_if_lt (tgt := 36) hx hb d_SP_feedInt_4 (by decide) (fun c_13 => ?_) (fun c_13 => ?_)
        · exact absurd c_13 (by decide)
        · refine lv_aload_n hx hb d_SP_feedInt_7 rfl (lv_at hl 1 rfl) ?_
          refine va_get (D := (dC, dI)) (ci := 0) (v := .ref tp) (C := "ScholarsPress") (T := F_SP) (N := 21) hx hb hts in_SP hown hK hP 0 rfl rfl 0 (by decide) (hts (.fieldLink "ScholarsPress" 9 "ScholarsPress" "tape" "[B") k_500) (fun _ h9 => h9) rfl d_SP_feedInt_8 ?_
          refine lv_aload_n hx hb d_SP_feedInt_11 rfl (lv_at hl 1 rfl) ?_
          refine va_get (D := (dC, dI)) (ci := 0) (v := .int (nI (n + 3))) (C := "ScholarsPress") (T := F_SP) (N := 21) hx hb hts in_SP hown hK hP 0 rfl rfl 1 (by decide) (hts (.fieldLink "ScholarsPress" 45 "ScholarsPress" "tapeLength" "I") k_501) (fun _ h9 => h9) rfl d_SP_feedInt_12 ?_
          refine lv_iload_n hx hb d_SP_feedInt_15 rfl (lv_at hl 2 rfl) ?_
          refine lv_iload_n hx hb d_SP_feedInt_16 rfl (lv_at hl 0 rfl) ?_
          refine lv_ishr hx hb d_SP_feedInt_17 ?_
          refine lv_topi (fun v_14 ev_14 => ?_)
          refine lv_i2b hx hb d_SP_feedInt_18 rfl ?_
          refine lv_topi (fun v_15 ev_15 => ?_)
          refine va_bast hx hb hK hP hD hS 1 0 rfl rfl (i := nI (n + 3)) (x := v_15) (vp_in_nI (by omega) (by decide)) d_SP_feedInt_19 (fun H locs hP hD hS => ?_)
          obtain ⟨g_16, eg_16⟩ : ∃ g, g = upd g_12 (nI (n + 3)).toNatClampNeg (vp_nar .byte v_15) := ⟨_, rfl⟩
          have hP : va_P (dC, dI) classes [(x, .inr (0, [.ref tp, .int (nI (n + 3)), .int ((-1)), .ref sg, .null, .null, .ref st, .null, .ref ft, .null, .ref hy, .null, .null, .int 0, .null, .null, .null, .null, .null, .null, .int 0])), (tp, .inl (cB, 16384, .inl g_16))] H := by rw [eg_16]; exact hP
          have hD : va_D A [(x, .inr (0, [.ref tp, .int (nI (n + 3)), .int ((-1)), .ref sg, .null, .null, .ref st, .null, .ref ft, .null, .ref hy, .null, .null, .int 0, .null, .null, .null, .null, .null, .null, .int 0])), (tp, .inl (cB, 16384, .inl g_16))] := by rw [eg_16]; exact hD
          refine lv_aload_n hx hb d_SP_feedInt_20 rfl (lv_at hl 1 rfl) ?_
          refine lv_dup hx hb d_SP_feedInt_21 rfl ?_
          refine va_get (D := (dC, dI)) (ci := 0) (v := .int (nI (n + 3))) (C := "ScholarsPress") (T := F_SP) (N := 21) hx hb hts in_SP hown hK hP 0 rfl rfl 1 (by decide) (hts (.fieldLink "ScholarsPress" 45 "ScholarsPress" "tapeLength" "I") k_501) (fun _ h9 => h9) rfl d_SP_feedInt_22 ?_
          refine lv_iconst (v := 1) hx hb d_SP_feedInt_25 (by decide) ?_
          refine lv_iadd hx hb d_SP_feedInt_26 ?_
          rw [nI_1]
          refine va_put (D := (dC, dI)) (ci := 0) (v := .int (nI (n + 4))) (ty := .int) (C := "ScholarsPress") (T := F_SP) (N := 21) hx hb hts in_SP t_SP t_SP_ok n_SP hown hK hP hD hS 0 rfl rfl 1 (by decide) (hts (.fieldLink "ScholarsPress" 45 "ScholarsPress" "tapeLength" "I") k_501) (fun _ h9 => h9) rfl (by decide +kernel) rfl rfl (Nat.le_of_ble_eq_true rfl) d_SP_feedInt_27 (fun H locs hP hD hS => ?_)
          have hP : va_P (dC, dI) classes [(x, .inr (0, [.ref tp, .int (nI (n + 4)), .int ((-1)), .ref sg, .null, .null, .ref st, .null, .ref ft, .null, .ref hy, .null, .null, .int 0, .null, .null, .null, .null, .null, .null, .int 0])), (tp, .inl (cB, 16384, .inl g_16))] H := hP
          have hD : va_D A [(x, .inr (0, [.ref tp, .int (nI (n + 4)), .int ((-1)), .ref sg, .null, .null, .ref st, .null, .ref ft, .null, .ref hy, .null, .null, .int 0, .null, .null, .null, .null, .null, .null, .int 0])), (tp, .inl (cB, 16384, .inl g_16))] := hD
          refine lv_iinc (v := (-8)) (lv' := [(2, .int ((-8))), (0, .ref x), (1, .int y)]) hx hb d_SP_feedInt_30 hl (k := 0) rfl (by decide) (by decide) rfl (fun ls hl => ?_)
          refine lv_goto (tgt := 3) hx hb d_SP_feedInt_33 (by decide) ?_
          refine lv_iload_n hx hb d_SP_feedInt_3 rfl (lv_at hl 0 rfl) ?_
          refine lv_if_lt (tgt := 36) hx hb d_SP_feedInt_4 (by decide) (fun c_17 => ?_) (fun c_17 => ?_)
          · have hP9 := hP.sub (ws' := [(x, .inr (0, [.ref tp, .int (nI (n + 4)), .int ((-1)), .ref sg, .null, .null, .ref st, .null, .ref ft, .null, .ref hy, .null, .null, .int 0, .null, .null, .null, .null, .null, .null, .int 0])), (tp, .inl (cB, 16384, .inl g_16))]) [0, 1] rfl
            have hD9 := hD.sub (ws' := [(x, .inr (0, [.ref tp, .int (nI (n + 4)), .int ((-1)), .ref sg, .null, .null, .ref st, .null, .ref ft, .null, .ref hy, .null, .null, .int 0, .null, .null, .null, .null, .null, .null, .int 0])), (tp, .inl (cB, 16384, .inl g_16))]) [0, 1] (by decide) rfl
            have hK9 := hK.sub (tys' := [(cB, .byte)]) [0] rfl
            exact W.vret hx hb hr (fun t ht hW => ⟨⟨g_16, rfl, trivial, by rw [ht]; exact hP9, va_K.moved hW.alike hK9, hD9⟩, hS.F ht⟩) hS.2.2 d_SP_feedInt_36
          · exact absurd c_17 (by decide)
set_option maxHeartbeats 4000000 in
set_option maxRecDepth 100000 in
/-- four: four bytes more -/
theorem c_SM_four (l : Launch) (dC : Nat → ClassId) (dI : Nat → Nat → Nat) (mo so : Nat) (mr sr : Nat → Nat) (th : Int32) (tp : Nat) (cB : ClassId) (f : Nat → Int32) (n : Nat) (y : Int32) (sz : Nat) (hn : n + 4 ≤ 16384) : Met l y_SM_four [w_SM_four] ({ frames := 0, cells := 0, slots := 0, locals := 0 }) (va_Pc [.ref mo, .int y] (pr sz (dC, dI) [(mo, .inr (6, [.int th, .int ((-1)), .ref tp, .int (nI n), .ref (mr 1), .ref (mr 2), .ref (mr 3), .ref (mr 4), .ref (mr 5), .ref (mr 6), .ref so, .ref (mr 7), .ref (mr 8), .ref (mr 9), .int 0, .ref (mr 10), .ref (mr 11), .int 0, .ref (mr 12), .int 0, .ref (mr 13), .int 0, .ref (mr 14)])), (tp, .inl (cB, 16384, .inl f))] [(cB, .byte)])) (va_Qv (fun (u : Nat → Int32) => True) (bw (dC, dI) (va_A [(mo, .inr (6, [.int th, .int ((-1)), .ref tp, .int (nI n), .ref (mr 1), .ref (mr 2), .ref (mr 3), .ref (mr 4), .ref (mr 5), .ref (mr 6), .ref so, .ref (mr 7), .ref (mr 8), .ref (mr 9), .int 0, .ref (mr 10), .ref (mr 11), .int 0, .ref (mr 12), .int 0, .ref (mr 13), .int 0, .ref (mr 14)])), (tp, .inl (cB, 16384, .inl f))] sz) (fun u : Nat → Int32 => [(mo, .inr (6, [.int th, .int ((-1)), .ref tp, .int (nI (n + 4)), .ref (mr 1), .ref (mr 2), .ref (mr 3), .ref (mr 4), .ref (mr 5), .ref (mr 6), .ref so, .ref (mr 7), .ref (mr 8), .ref (mr 9), .int 0, .ref (mr 10), .ref (mr 11), .int 0, .ref (mr 12), .int 0, .ref (mr 13), .int 0, .ref (mr 14)])), (tp, .inl (cB, 16384, .inl u))]) (fun u : Nat → Int32 => [(cB, .byte)])) (va_A [(mo, .inr (6, [.int th, .int ((-1)), .ref tp, .int (nI n), .ref (mr 1), .ref (mr 2), .ref (mr 3), .ref (mr 4), .ref (mr 5), .ref (mr 6), .ref so, .ref (mr 7), .ref (mr 8), .ref (mr 9), .int 0, .ref (mr 10), .ref (mr 11), .int 0, .ref (mr 12), .int 0, .ref (mr 13), .int 0, .ref (mr 14)])), (tp, .inl (cB, 16384, .inl f))] sz)) 0 0 (va_A [(mo, .inr (6, [.int th, .int ((-1)), .ref tp, .int (nI n), .ref (mr 1), .ref (mr 2), .ref (mr 3), .ref (mr 4), .ref (mr 5), .ref (mr 6), .ref so, .ref (mr 7), .ref (mr 8), .ref (mr 9), .int 0, .ref (mr 10), .ref (mr 11), .int 0, .ref (mr 12), .int 0, .ref (mr 13), .int 0, .ref (mr 14)])), (tp, .inl (cB, 16384, .inl f))] sz) := by
  refine Met.ofW (cc := b_SM_four) (maxL := 3) (ret := none) (by decide) rfl ?_
  intro p e s m args below meth c s₁ B hml hv
  obtain ⟨rfl, hsz, hb0, hP, hK, hD0⟩ := hv
  have hx := B.exec
  have hb := B.bytes
  have hr := B.returns
  have hts : ∀ wq ∈ tt, wq.before ([.ref mo, .int y] : List Value).toArray s = true := hb0.hts
  have hown : s.vm.findClass "ScholarsPressModel" = some m.cls := findClass_of_methodNamed B.named
  have hlocks := B.notSynchronized
  subst hsz
  have hD := hD0.self (sz := s.heap.size)
  generalize hAe : va_A [(mo, .inr (6, [.int th, .int ((-1)), .ref tp, .int (nI n), .ref (mr 1), .ref (mr 2), .ref (mr 3), .ref (mr 4), .ref (mr 5), .ref (mr 6), .ref so, .ref (mr 7), .ref (mr 8), .ref (mr 9), .int 0, .ref (mr 10), .ref (mr 11), .int 0, .ref (mr 12), .int 0, .ref (mr 13), .int 0, .ref (mr 14)])), (tp, .inl (cB, 16384, .inl f))] s.heap.size = A at hD ⊢
  have hA : ∀ q : Nat, s.heap.size ≤ q → A q := fun q h => by rw [← hAe]; exact Or.inr h
  have hS : va_S A s.heap s.heap [] := va_S.rf
  have hP : va_P (dC, dI) classes [(mo, .inr (6, [.int th, .int ((-1)), .ref tp, .int (nI n), .ref (mr 1), .ref (mr 2), .ref (mr 3), .ref (mr 4), .ref (mr 5), .ref (mr 6), .ref so, .ref (mr 7), .ref (mr 8), .ref (mr 9), .int 0, .ref (mr 10), .ref (mr 11), .int 0, .ref (mr 12), .int 0, .ref (mr 13), .int 0, .ref (mr 14)])), (tp, .inl (cB, 16384, .inl f))] s.heap := hP
  have hl := lv_entry ([.ref mo, .int y]) (n := 3) (Nat.le_of_ble_eq_true rfl)
  rw [lg_entry_eq]
  generalize (lg_sl ([.ref mo, .int y]) ++ List.replicate (3 - (lg_sl ([.ref mo, .int y])).length) Slot.unset).toArray = ls at hl ⊢
  have hl : lv_has ls 3 [(0, .ref mo), (1, .int y)] := hl
  refine lv_bipush (v := 24) hx hb d_SM_four_0 (by decide) ?_
  refine lv_istore_n (lv' := [(2, .int 24), (0, .ref mo), (1, .int y)]) hx hb d_SM_four_2 rfl hl (by decide) rfl (fun ls hl => ?_)
  refine lv_iload_n hx hb d_SM_four_3 rfl (lv_at hl 0 rfl) ?_
  refine lv_if_lt (tgt := 36) hx hb d_SM_four_4 (by decide) (fun c_1 => ?_) (fun c_1 => ?_)
  · exact absurd c_1 (by decide)
  · refine lv_aload_n hx hb d_SM_four_7 rfl (lv_at hl 1 rfl) ?_
    refine va_get (D := (dC, dI)) (ci := 6) (v := .ref tp) (C := "ScholarsPressModel") (T := F_SM) (N := 23) hx hb hts in_SM hown hK hP 0 rfl rfl 2 (by decide) (hts (.fieldLink "ScholarsPressModel" 13 "ScholarsPressModel" "tape" "[B") k_3682) (fun _ h9 => h9) rfl d_SM_four_8 ?_
    refine lv_aload_n hx hb d_SM_four_11 rfl (lv_at hl 1 rfl) ?_
    refine va_get (D := (dC, dI)) (ci := 6) (v := .int (nI n)) (C := "ScholarsPressModel") (T := F_SM) (N := 23) hx hb hts in_SM hown hK hP 0 rfl rfl 3 (by decide) (hts (.fieldLink "ScholarsPressModel" 104 "ScholarsPressModel" "taped" "I") k_3683) (fun _ h9 => h9) rfl d_SM_four_12 ?_
    refine lv_iload_n hx hb d_SM_four_15 rfl (lv_at hl 2 rfl) ?_
    refine lv_iload_n hx hb d_SM_four_16 rfl (lv_at hl 0 rfl) ?_
    refine lv_ishr hx hb d_SM_four_17 ?_
    refine lv_topi (fun v_2 ev_2 => ?_)
    refine lv_i2b hx hb d_SM_four_18 rfl ?_
    refine lv_topi (fun v_3 ev_3 => ?_)
    refine va_bast hx hb hK hP hD hS 1 0 rfl rfl (i := nI n) (x := v_3) (vp_in_nI (by omega) (by decide)) d_SM_four_19 (fun H locs hP hD hS => ?_)
    obtain ⟨g_4, eg_4⟩ : ∃ g, g = upd f (nI n).toNatClampNeg (vp_nar .byte v_3) := ⟨_, rfl⟩
    have hP : va_P (dC, dI) classes [(mo, .inr (6, [.int th, .int ((-1)), .ref tp, .int (nI n), .ref (mr 1), .ref (mr 2), .ref (mr 3), .ref (mr 4), .ref (mr 5), .ref (mr 6), .ref so, .ref (mr 7), .ref (mr 8), .ref (mr 9), .int 0, .ref (mr 10), .ref (mr 11), .int 0, .ref (mr 12), .int 0, .ref (mr 13), .int 0, .ref (mr 14)])), (tp, .inl (cB, 16384, .inl g_4))] H := by rw [eg_4]; exact hP
    have hD : va_D A [(mo, .inr (6, [.int th, .int ((-1)), .ref tp, .int (nI n), .ref (mr 1), .ref (mr 2), .ref (mr 3), .ref (mr 4), .ref (mr 5), .ref (mr 6), .ref so, .ref (mr 7), .ref (mr 8), .ref (mr 9), .int 0, .ref (mr 10), .ref (mr 11), .int 0, .ref (mr 12), .int 0, .ref (mr 13), .int 0, .ref (mr 14)])), (tp, .inl (cB, 16384, .inl g_4))] := by rw [eg_4]; exact hD
    refine lv_aload_n hx hb d_SM_four_20 rfl (lv_at hl 1 rfl) ?_
    refine lv_dup hx hb d_SM_four_21 rfl ?_
    refine va_get (D := (dC, dI)) (ci := 6) (v := .int (nI n)) (C := "ScholarsPressModel") (T := F_SM) (N := 23) hx hb hts in_SM hown hK hP 0 rfl rfl 3 (by decide) (hts (.fieldLink "ScholarsPressModel" 104 "ScholarsPressModel" "taped" "I") k_3683) (fun _ h9 => h9) rfl d_SM_four_22 ?_
    refine lv_iconst (v := 1) hx hb d_SM_four_25 (by decide) ?_
    refine lv_iadd hx hb d_SM_four_26 ?_
    rw [nI_1]
    refine va_put (D := (dC, dI)) (ci := 6) (v := .int (nI (n + 1))) (ty := .int) (C := "ScholarsPressModel") (T := F_SM) (N := 23) hx hb hts in_SM t_SM t_SM_ok n_SM hown hK hP hD hS 0 rfl rfl 3 (by decide) (hts (.fieldLink "ScholarsPressModel" 104 "ScholarsPressModel" "taped" "I") k_3683) (fun _ h9 => h9) rfl (by decide +kernel) rfl rfl (Nat.le_of_ble_eq_true rfl) d_SM_four_27 (fun H locs hP hD hS => ?_)
    have hP : va_P (dC, dI) classes [(mo, .inr (6, [.int th, .int ((-1)), .ref tp, .int (nI (n + 1)), .ref (mr 1), .ref (mr 2), .ref (mr 3), .ref (mr 4), .ref (mr 5), .ref (mr 6), .ref so, .ref (mr 7), .ref (mr 8), .ref (mr 9), .int 0, .ref (mr 10), .ref (mr 11), .int 0, .ref (mr 12), .int 0, .ref (mr 13), .int 0, .ref (mr 14)])), (tp, .inl (cB, 16384, .inl g_4))] H := hP
    have hD : va_D A [(mo, .inr (6, [.int th, .int ((-1)), .ref tp, .int (nI (n + 1)), .ref (mr 1), .ref (mr 2), .ref (mr 3), .ref (mr 4), .ref (mr 5), .ref (mr 6), .ref so, .ref (mr 7), .ref (mr 8), .ref (mr 9), .int 0, .ref (mr 10), .ref (mr 11), .int 0, .ref (mr 12), .int 0, .ref (mr 13), .int 0, .ref (mr 14)])), (tp, .inl (cB, 16384, .inl g_4))] := hD
    refine lv_iinc (v := 16) (lv' := [(2, .int 16), (0, .ref mo), (1, .int y)]) hx hb d_SM_four_30 hl (k := 0) rfl (by decide) (by decide) rfl (fun ls hl => ?_)
    refine lv_goto (tgt := 3) hx hb d_SM_four_33 (by decide) ?_
    refine lv_iload_n hx hb d_SM_four_3 rfl (lv_at hl 0 rfl) ?_
    refine lv_if_lt (tgt := 36) hx hb d_SM_four_4 (by decide) (fun c_5 => ?_) (fun c_5 => ?_)
    · exact absurd c_5 (by decide)
    · refine lv_aload_n hx hb d_SM_four_7 rfl (lv_at hl 1 rfl) ?_
      refine va_get (D := (dC, dI)) (ci := 6) (v := .ref tp) (C := "ScholarsPressModel") (T := F_SM) (N := 23) hx hb hts in_SM hown hK hP 0 rfl rfl 2 (by decide) (hts (.fieldLink "ScholarsPressModel" 13 "ScholarsPressModel" "tape" "[B") k_3682) (fun _ h9 => h9) rfl d_SM_four_8 ?_
      refine lv_aload_n hx hb d_SM_four_11 rfl (lv_at hl 1 rfl) ?_
      refine va_get (D := (dC, dI)) (ci := 6) (v := .int (nI (n + 1))) (C := "ScholarsPressModel") (T := F_SM) (N := 23) hx hb hts in_SM hown hK hP 0 rfl rfl 3 (by decide) (hts (.fieldLink "ScholarsPressModel" 104 "ScholarsPressModel" "taped" "I") k_3683) (fun _ h9 => h9) rfl d_SM_four_12 ?_
      refine lv_iload_n hx hb d_SM_four_15 rfl (lv_at hl 2 rfl) ?_
      refine lv_iload_n hx hb d_SM_four_16 rfl (lv_at hl 0 rfl) ?_
      refine lv_ishr hx hb d_SM_four_17 ?_
      refine lv_topi (fun v_6 ev_6 => ?_)
      refine lv_i2b hx hb d_SM_four_18 rfl ?_
      refine lv_topi (fun v_7 ev_7 => ?_)
      refine va_bast hx hb hK hP hD hS 1 0 rfl rfl (i := nI (n + 1)) (x := v_7) (vp_in_nI (by omega) (by decide)) d_SM_four_19 (fun H locs hP hD hS => ?_)
      obtain ⟨g_8, eg_8⟩ : ∃ g, g = upd g_4 (nI (n + 1)).toNatClampNeg (vp_nar .byte v_7) := ⟨_, rfl⟩
      have hP : va_P (dC, dI) classes [(mo, .inr (6, [.int th, .int ((-1)), .ref tp, .int (nI (n + 1)), .ref (mr 1), .ref (mr 2), .ref (mr 3), .ref (mr 4), .ref (mr 5), .ref (mr 6), .ref so, .ref (mr 7), .ref (mr 8), .ref (mr 9), .int 0, .ref (mr 10), .ref (mr 11), .int 0, .ref (mr 12), .int 0, .ref (mr 13), .int 0, .ref (mr 14)])), (tp, .inl (cB, 16384, .inl g_8))] H := by rw [eg_8]; exact hP
      have hD : va_D A [(mo, .inr (6, [.int th, .int ((-1)), .ref tp, .int (nI (n + 1)), .ref (mr 1), .ref (mr 2), .ref (mr 3), .ref (mr 4), .ref (mr 5), .ref (mr 6), .ref so, .ref (mr 7), .ref (mr 8), .ref (mr 9), .int 0, .ref (mr 10), .ref (mr 11), .int 0, .ref (mr 12), .int 0, .ref (mr 13), .int 0, .ref (mr 14)])), (tp, .inl (cB, 16384, .inl g_8))] := by rw [eg_8]; exact hD
      refine lv_aload_n hx hb d_SM_four_20 rfl (lv_at hl 1 rfl) ?_
      refine lv_dup hx hb d_SM_four_21 rfl ?_
      refine va_get (D := (dC, dI)) (ci := 6) (v := .int (nI (n + 1))) (C := "ScholarsPressModel") (T := F_SM) (N := 23) hx hb hts in_SM hown hK hP 0 rfl rfl 3 (by decide) (hts (.fieldLink "ScholarsPressModel" 104 "ScholarsPressModel" "taped" "I") k_3683) (fun _ h9 => h9) rfl d_SM_four_22 ?_
      refine lv_iconst (v := 1) hx hb d_SM_four_25 (by decide) ?_
      refine lv_iadd hx hb d_SM_four_26 ?_
      rw [nI_1]
      refine va_put (D := (dC, dI)) (ci := 6) (v := .int (nI (n + 2))) (ty := .int) (C := "ScholarsPressModel") (T := F_SM) (N := 23) hx hb hts in_SM t_SM t_SM_ok n_SM hown hK hP hD hS 0 rfl rfl 3 (by decide) (hts (.fieldLink "ScholarsPressModel" 104 "ScholarsPressModel" "taped" "I") k_3683) (fun _ h9 => h9) rfl (by decide +kernel) rfl rfl (Nat.le_of_ble_eq_true rfl) d_SM_four_27 (fun H locs hP hD hS => ?_)
      have hP : va_P (dC, dI) classes [(mo, .inr (6, [.int th, .int ((-1)), .ref tp, .int (nI (n + 2)), .ref (mr 1), .ref (mr 2), .ref (mr 3), .ref (mr 4), .ref (mr 5), .ref (mr 6), .ref so, .ref (mr 7), .ref (mr 8), .ref (mr 9), .int 0, .ref (mr 10), .ref (mr 11), .int 0, .ref (mr 12), .int 0, .ref (mr 13), .int 0, .ref (mr 14)])), (tp, .inl (cB, 16384, .inl g_8))] H := hP
      have hD : va_D A [(mo, .inr (6, [.int th, .int ((-1)), .ref tp, .int (nI (n + 2)), .ref (mr 1), .ref (mr 2), .ref (mr 3), .ref (mr 4), .ref (mr 5), .ref (mr 6), .ref so, .ref (mr 7), .ref (mr 8), .ref (mr 9), .int 0, .ref (mr 10), .ref (mr 11), .int 0, .ref (mr 12), .int 0, .ref (mr 13), .int 0, .ref (mr 14)])), (tp, .inl (cB, 16384, .inl g_8))] := hD
      refine lv_iinc (v := 8) (lv' := [(2, .int 8), (0, .ref mo), (1, .int y)]) hx hb d_SM_four_30 hl (k := 0) rfl (by decide) (by decide) rfl (fun ls hl => ?_)
      refine lv_goto (tgt := 3) hx hb d_SM_four_33 (by decide) ?_
      refine lv_iload_n hx hb d_SM_four_3 rfl (lv_at hl 0 rfl) ?_
      refine lv_if_lt (tgt := 36) hx hb d_SM_four_4 (by decide) (fun c_9 => ?_) (fun c_9 => ?_)
      · exact absurd c_9 (by decide)
      · refine lv_aload_n hx hb d_SM_four_7 rfl (lv_at hl 1 rfl) ?_
        refine va_get (D := (dC, dI)) (ci := 6) (v := .ref tp) (C := "ScholarsPressModel") (T := F_SM) (N := 23) hx hb hts in_SM hown hK hP 0 rfl rfl 2 (by decide) (hts (.fieldLink "ScholarsPressModel" 13 "ScholarsPressModel" "tape" "[B") k_3682) (fun _ h9 => h9) rfl d_SM_four_8 ?_
        refine lv_aload_n hx hb d_SM_four_11 rfl (lv_at hl 1 rfl) ?_
        refine va_get (D := (dC, dI)) (ci := 6) (v := .int (nI (n + 2))) (C := "ScholarsPressModel") (T := F_SM) (N := 23) hx hb hts in_SM hown hK hP 0 rfl rfl 3 (by decide) (hts (.fieldLink "ScholarsPressModel" 104 "ScholarsPressModel" "taped" "I") k_3683) (fun _ h9 => h9) rfl d_SM_four_12 ?_
        refine lv_iload_n hx hb d_SM_four_15 rfl (lv_at hl 2 rfl) ?_
        refine lv_iload_n hx hb d_SM_four_16 rfl (lv_at hl 0 rfl) ?_
        refine lv_ishr hx hb d_SM_four_17 ?_
        refine lv_topi (fun v_10 ev_10 => ?_)
        refine lv_i2b hx hb d_SM_four_18 rfl ?_
        refine lv_topi (fun v_11 ev_11 => ?_)
        refine va_bast hx hb hK hP hD hS 1 0 rfl rfl (i := nI (n + 2)) (x := v_11) (vp_in_nI (by omega) (by decide)) d_SM_four_19 (fun H locs hP hD hS => ?_)
        obtain ⟨g_12, eg_12⟩ : ∃ g, g = upd g_8 (nI (n + 2)).toNatClampNeg (vp_nar .byte v_11) := ⟨_, rfl⟩
        have hP : va_P (dC, dI) classes [(mo, .inr (6, [.int th, .int ((-1)), .ref tp, .int (nI (n + 2)), .ref (mr 1), .ref (mr 2), .ref (mr 3), .ref (mr 4), .ref (mr 5), .ref (mr 6), .ref so, .ref (mr 7), .ref (mr 8), .ref (mr 9), .int 0, .ref (mr 10), .ref (mr 11), .int 0, .ref (mr 12), .int 0, .ref (mr 13), .int 0, .ref (mr 14)])), (tp, .inl (cB, 16384, .inl g_12))] H := by rw [eg_12]; exact hP
        have hD : va_D A [(mo, .inr (6, [.int th, .int ((-1)), .ref tp, .int (nI (n + 2)), .ref (mr 1), .ref (mr 2), .ref (mr 3), .ref (mr 4), .ref (mr 5), .ref (mr 6), .ref so, .ref (mr 7), .ref (mr 8), .ref (mr 9), .int 0, .ref (mr 10), .ref (mr 11), .int 0, .ref (mr 12), .int 0, .ref (mr 13), .int 0, .ref (mr 14)])), (tp, .inl (cB, 16384, .inl g_12))] := by rw [eg_12]; exact hD
        refine lv_aload_n hx hb d_SM_four_20 rfl (lv_at hl 1 rfl) ?_
        refine lv_dup hx hb d_SM_four_21 rfl ?_
        refine va_get (D := (dC, dI)) (ci := 6) (v := .int (nI (n + 2))) (C := "ScholarsPressModel") (T := F_SM) (N := 23) hx hb hts in_SM hown hK hP 0 rfl rfl 3 (by decide) (hts (.fieldLink "ScholarsPressModel" 104 "ScholarsPressModel" "taped" "I") k_3683) (fun _ h9 => h9) rfl d_SM_four_22 ?_
        refine lv_iconst (v := 1) hx hb d_SM_four_25 (by decide) ?_
        refine lv_iadd hx hb d_SM_four_26 ?_
        rw [nI_1]
        refine va_put (D := (dC, dI)) (ci := 6) (v := .int (nI (n + 3))) (ty := .int) (C := "ScholarsPressModel") (T := F_SM) (N := 23) hx hb hts in_SM t_SM t_SM_ok n_SM hown hK hP hD hS 0 rfl rfl 3 (by decide) (hts (.fieldLink "ScholarsPressModel" 104 "ScholarsPressModel" "taped" "I") k_3683) (fun _ h9 => h9) rfl (by decide +kernel) rfl rfl (Nat.le_of_ble_eq_true rfl) d_SM_four_27 (fun H locs hP hD hS => ?_)
        have hP : va_P (dC, dI) classes [(mo, .inr (6, [.int th, .int ((-1)), .ref tp, .int (nI (n + 3)), .ref (mr 1), .ref (mr 2), .ref (mr 3), .ref (mr 4), .ref (mr 5), .ref (mr 6), .ref so, .ref (mr 7), .ref (mr 8), .ref (mr 9), .int 0, .ref (mr 10), .ref (mr 11), .int 0, .ref (mr 12), .int 0, .ref (mr 13), .int 0, .ref (mr 14)])), (tp, .inl (cB, 16384, .inl g_12))] H := hP
        have hD : va_D A [(mo, .inr (6, [.int th, .int ((-1)), .ref tp, .int (nI (n + 3)), .ref (mr 1), .ref (mr 2), .ref (mr 3), .ref (mr 4), .ref (mr 5), .ref (mr 6), .ref so, .ref (mr 7), .ref (mr 8), .ref (mr 9), .int 0, .ref (mr 10), .ref (mr 11), .int 0, .ref (mr 12), .int 0, .ref (mr 13), .int 0, .ref (mr 14)])), (tp, .inl (cB, 16384, .inl g_12))] := hD
        refine lv_iinc (v := 0) (lv' := [(2, .int 0), (0, .ref mo), (1, .int y)]) hx hb d_SM_four_30 hl (k := 0) rfl (by decide) (by decide) rfl (fun ls hl => ?_)
        refine lv_goto (tgt := 3) hx hb d_SM_four_33 (by decide) ?_
        refine lv_iload_n hx hb d_SM_four_3 rfl (lv_at hl 0 rfl) ?_
        refine lv_if_lt (tgt := 36) hx hb d_SM_four_4 (by decide) (fun c_13 => ?_) (fun c_13 => ?_)
        · exact absurd c_13 (by decide)
        · refine lv_aload_n hx hb d_SM_four_7 rfl (lv_at hl 1 rfl) ?_
          refine va_get (D := (dC, dI)) (ci := 6) (v := .ref tp) (C := "ScholarsPressModel") (T := F_SM) (N := 23) hx hb hts in_SM hown hK hP 0 rfl rfl 2 (by decide) (hts (.fieldLink "ScholarsPressModel" 13 "ScholarsPressModel" "tape" "[B") k_3682) (fun _ h9 => h9) rfl d_SM_four_8 ?_
          refine lv_aload_n hx hb d_SM_four_11 rfl (lv_at hl 1 rfl) ?_
          refine va_get (D := (dC, dI)) (ci := 6) (v := .int (nI (n + 3))) (C := "ScholarsPressModel") (T := F_SM) (N := 23) hx hb hts in_SM hown hK hP 0 rfl rfl 3 (by decide) (hts (.fieldLink "ScholarsPressModel" 104 "ScholarsPressModel" "taped" "I") k_3683) (fun _ h9 => h9) rfl d_SM_four_12 ?_
          refine lv_iload_n hx hb d_SM_four_15 rfl (lv_at hl 2 rfl) ?_
          refine lv_iload_n hx hb d_SM_four_16 rfl (lv_at hl 0 rfl) ?_
          refine lv_ishr hx hb d_SM_four_17 ?_
          refine lv_topi (fun v_14 ev_14 => ?_)
          refine lv_i2b hx hb d_SM_four_18 rfl ?_
          refine lv_topi (fun v_15 ev_15 => ?_)
          refine va_bast hx hb hK hP hD hS 1 0 rfl rfl (i := nI (n + 3)) (x := v_15) (vp_in_nI (by omega) (by decide)) d_SM_four_19 (fun H locs hP hD hS => ?_)
          obtain ⟨g_16, eg_16⟩ : ∃ g, g = upd g_12 (nI (n + 3)).toNatClampNeg (vp_nar .byte v_15) := ⟨_, rfl⟩
          have hP : va_P (dC, dI) classes [(mo, .inr (6, [.int th, .int ((-1)), .ref tp, .int (nI (n + 3)), .ref (mr 1), .ref (mr 2), .ref (mr 3), .ref (mr 4), .ref (mr 5), .ref (mr 6), .ref so, .ref (mr 7), .ref (mr 8), .ref (mr 9), .int 0, .ref (mr 10), .ref (mr 11), .int 0, .ref (mr 12), .int 0, .ref (mr 13), .int 0, .ref (mr 14)])), (tp, .inl (cB, 16384, .inl g_16))] H := by rw [eg_16]; exact hP
          have hD : va_D A [(mo, .inr (6, [.int th, .int ((-1)), .ref tp, .int (nI (n + 3)), .ref (mr 1), .ref (mr 2), .ref (mr 3), .ref (mr 4), .ref (mr 5), .ref (mr 6), .ref so, .ref (mr 7), .ref (mr 8), .ref (mr 9), .int 0, .ref (mr 10), .ref (mr 11), .int 0, .ref (mr 12), .int 0, .ref (mr 13), .int 0, .ref (mr 14)])), (tp, .inl (cB, 16384, .inl g_16))] := by rw [eg_16]; exact hD
          refine lv_aload_n hx hb d_SM_four_20 rfl (lv_at hl 1 rfl) ?_
          refine lv_dup hx hb d_SM_four_21 rfl ?_
          refine va_get (D := (dC, dI)) (ci := 6) (v := .int (nI (n + 3))) (C := "ScholarsPressModel") (T := F_SM) (N := 23) hx hb hts in_SM hown hK hP 0 rfl rfl 3 (by decide) (hts (.fieldLink "ScholarsPressModel" 104 "ScholarsPressModel" "taped" "I") k_3683) (fun _ h9 => h9) rfl d_SM_four_22 ?_
          refine lv_iconst (v := 1) hx hb d_SM_four_25 (by decide) ?_
          refine lv_iadd hx hb d_SM_four_26 ?_
          rw [nI_1]
          refine va_put (D := (dC, dI)) (ci := 6) (v := .int (nI (n + 4))) (ty := .int) (C := "ScholarsPressModel") (T := F_SM) (N := 23) hx hb hts in_SM t_SM t_SM_ok n_SM hown hK hP hD hS 0 rfl rfl 3 (by decide) (hts (.fieldLink "ScholarsPressModel" 104 "ScholarsPressModel" "taped" "I") k_3683) (fun _ h9 => h9) rfl (by decide +kernel) rfl rfl (Nat.le_of_ble_eq_true rfl) d_SM_four_27 (fun H locs hP hD hS => ?_)
          have hP : va_P (dC, dI) classes [(mo, .inr (6, [.int th, .int ((-1)), .ref tp, .int (nI (n + 4)), .ref (mr 1), .ref (mr 2), .ref (mr 3), .ref (mr 4), .ref (mr 5), .ref (mr 6), .ref so, .ref (mr 7), .ref (mr 8), .ref (mr 9), .int 0, .ref (mr 10), .ref (mr 11), .int 0, .ref (mr 12), .int 0, .ref (mr 13), .int 0, .ref (mr 14)])), (tp, .inl (cB, 16384, .inl g_16))] H := hP
          have hD : va_D A [(mo, .inr (6, [.int th, .int ((-1)), .ref tp, .int (nI (n + 4)), .ref (mr 1), .ref (mr 2), .ref (mr 3), .ref (mr 4), .ref (mr 5), .ref (mr 6), .ref so, .ref (mr 7), .ref (mr 8), .ref (mr 9), .int 0, .ref (mr 10), .ref (mr 11), .int 0, .ref (mr 12), .int 0, .ref (mr 13), .int 0, .ref (mr 14)])), (tp, .inl (cB, 16384, .inl g_16))] := hD
          refine lv_iinc (v := (-8)) (lv' := [(2, .int ((-8))), (0, .ref mo), (1, .int y)]) hx hb d_SM_four_30 hl (k := 0) rfl (by decide) (by decide) rfl (fun ls hl => ?_)
          refine lv_goto (tgt := 3) hx hb d_SM_four_33 (by decide) ?_
          refine lv_iload_n hx hb d_SM_four_3 rfl (lv_at hl 0 rfl) ?_
          refine lv_if_lt (tgt := 36) hx hb d_SM_four_4 (by decide) (fun c_17 => ?_) (fun c_17 => ?_)
          · have hP9 := hP.sub (ws' := [(mo, .inr (6, [.int th, .int ((-1)), .ref tp, .int (nI (n + 4)), .ref (mr 1), .ref (mr 2), .ref (mr 3), .ref (mr 4), .ref (mr 5), .ref (mr 6), .ref so, .ref (mr 7), .ref (mr 8), .ref (mr 9), .int 0, .ref (mr 10), .ref (mr 11), .int 0, .ref (mr 12), .int 0, .ref (mr 13), .int 0, .ref (mr 14)])), (tp, .inl (cB, 16384, .inl g_16))]) [0, 1] rfl
            have hD9 := hD.sub (ws' := [(mo, .inr (6, [.int th, .int ((-1)), .ref tp, .int (nI (n + 4)), .ref (mr 1), .ref (mr 2), .ref (mr 3), .ref (mr 4), .ref (mr 5), .ref (mr 6), .ref so, .ref (mr 7), .ref (mr 8), .ref (mr 9), .int 0, .ref (mr 10), .ref (mr 11), .int 0, .ref (mr 12), .int 0, .ref (mr 13), .int 0, .ref (mr 14)])), (tp, .inl (cB, 16384, .inl g_16))]) [0, 1] (by decide) rfl
            have hK9 := hK.sub (tys' := [(cB, .byte)]) [0] rfl
            exact W.vret hx hb hr (fun t ht hW => ⟨⟨g_16, rfl, trivial, by rw [ht]; exact hP9, va_K.moved hW.alike hK9, hD9⟩, hS.F ht⟩) hS.2.2 d_SM_four_36
          · exact absurd c_17 (by decide)
