set_option maxHeartbeats 4000000 in
set_option maxRecDepth 100000 in
/-- Letters.clear of the reference -/
theorem c_MLetters_clear (l : Launch) (dC : Nat → ClassId) (dI : Nat → Nat → Nat) (h0 wd tl : Nat) (yr : Nat → Nat) (cW cT : ClassId) (f1 f2 : Nat → Int32) (kn jn : Int32) (sz : Nat) : Met l y_MLetters_clear [w_MLetters_clear] ({ frames := 0, cells := 0, slots := 0, locals := 0 }) (va_Pc [.ref h0] (pr sz (dC, dI) [(h0, .inr (7, [.ref wd, .ref tl, .int kn, .int jn, .ref (yr 0), .ref (yr 1), .ref (yr 2), .ref (yr 3), .ref (yr 4)])), (wd, .inl (cW, 256, .inl f1)), (tl, .inl (cT, 256, .inl f2))] [(cW, .int), (cT, .boolean)])) (va_Qv (fun (u : (Nat → Int32) × (Nat → Int32)) => ∀ j, j < 256 → u.2 j = 0) (bw (dC, dI) (va_A [(h0, .inr (7, [.ref wd, .ref tl, .int kn, .int jn, .ref (yr 0), .ref (yr 1), .ref (yr 2), .ref (yr 3), .ref (yr 4)])), (wd, .inl (cW, 256, .inl f1)), (tl, .inl (cT, 256, .inl f2))] sz) (fun u : (Nat → Int32) × (Nat → Int32) => [(h0, .inr (7, [.ref wd, .ref tl, .int 0, .int 0, .ref (yr 0), .ref (yr 1), .ref (yr 2), .ref (yr 3), .ref (yr 4)])), (wd, .inl (cW, 256, .inl u.1)), (tl, .inl (cT, 256, .inl u.2))]) (fun u : (Nat → Int32) × (Nat → Int32) => [(cW, .int), (cT, .boolean)])) (va_A [(h0, .inr (7, [.ref wd, .ref tl, .int kn, .int jn, .ref (yr 0), .ref (yr 1), .ref (yr 2), .ref (yr 3), .ref (yr 4)])), (wd, .inl (cW, 256, .inl f1)), (tl, .inl (cT, 256, .inl f2))] sz)) 0 0 (va_A [(h0, .inr (7, [.ref wd, .ref tl, .int kn, .int jn, .ref (yr 0), .ref (yr 1), .ref (yr 2), .ref (yr 3), .ref (yr 4)])), (wd, .inl (cW, 256, .inl f1)), (tl, .inl (cT, 256, .inl f2))] sz) := by
  refine Met.ofW (cc := b_MLetters_clear) (maxL := 2) (ret := none) (by decide) rfl ?_
  intro p e s m args below meth c s₁ B hml hv
  obtain ⟨rfl, hsz, hb0, hP, hK, hD0⟩ := hv
  have hx := B.exec
  have hb := B.bytes
  have hr := B.returns
  have hts : ∀ wq ∈ tt, wq.before ([.ref h0] : List Value).toArray s = true := hb0.hts
  have hown : s.vm.findClass "ScholarsPressModel$Letters" = some m.cls := findClass_of_methodNamed B.named
  have hlocks := B.notSynchronized
  subst hsz
  have hD := hD0.self (sz := s.heap.size)
  generalize hAe : va_A [(h0, .inr (7, [.ref wd, .ref tl, .int kn, .int jn, .ref (yr 0), .ref (yr 1), .ref (yr 2), .ref (yr 3), .ref (yr 4)])), (wd, .inl (cW, 256, .inl f1)), (tl, .inl (cT, 256, .inl f2))] s.heap.size = A at hD ⊢
  have hA : ∀ q : Nat, s.heap.size ≤ q → A q := fun q h => by rw [← hAe]; exact Or.inr h
  have hS : va_S A s.heap s.heap [] := va_S.rf
  have hP : va_P (dC, dI) classes [(h0, .inr (7, [.ref wd, .ref tl, .int kn, .int jn, .ref (yr 0), .ref (yr 1), .ref (yr 2), .ref (yr 3), .ref (yr 4)])), (wd, .inl (cW, 256, .inl f1)), (tl, .inl (cT, 256, .inl f2))] s.heap := hP
  have hl := lv_entry ([.ref h0]) (n := 2) (Nat.le_of_ble_eq_true rfl)
  rw [lg_entry_eq]
  generalize (lg_sl ([.ref h0]) ++ List.replicate (2 - (lg_sl ([.ref h0])).length) Slot.unset).toArray = ls at hl ⊢
  have hl : lv_has ls 2 [(0, .ref h0)] := hl
  have loop : ∀ (k i : Nat) (g1 g2 : Nat → Int32) (H : Heap) (locs : List Loc) (ls : Array Slot), i + k = 256 → (∀ j, j < i → g2 j = 0) → va_P (dC, dI) classes [(h0, .inr (7, [.ref wd, .ref tl, .int kn, .int jn, .ref (yr 0), .ref (yr 1), .ref (yr 2), .ref (yr 3), .ref (yr 4)])), (wd, .inl (cW, 256, .inl g1)), (tl, .inl (cT, 256, .inl g2))] H → va_D A [(h0, .inr (7, [.ref wd, .ref tl, .int kn, .int jn, .ref (yr 0), .ref (yr 1), .ref (yr 2), .ref (yr 3), .ref (yr 4)])), (wd, .inl (cW, 256, .inl g1)), (tl, .inl (cT, 256, .inl g2))] → va_S A s.heap H locs → lv_has ls 2 [(0, .ref h0), (1, .int (nI i))] → W p l e (headSpec [w_MLetters_clear] ({ frames := 0, cells := 0, slots := 0, locals := 0 })).room s m ([.ref h0] : List Value).toArray below meth c H locs 0 0 (MQ below (va_Qv (fun (u : (Nat → Int32) × (Nat → Int32)) => ∀ j, j < 256 → u.2 j = 0) (bw (dC, dI) A (fun u : (Nat → Int32) × (Nat → Int32) => [(h0, .inr (7, [.ref wd, .ref tl, .int 0, .int 0, .ref (yr 0), .ref (yr 1), .ref (yr 2), .ref (yr 3), .ref (yr 4)])), (wd, .inl (cW, 256, .inl u.1)), (tl, .inl (cT, 256, .inl u.2))]) (fun u : (Nat → Int32) × (Nat → Int32) => [(cW, .int), (cT, .boolean)])) A) ([.ref h0] : List Value).toArray s 0 0 A) (F0 m 2 ls []) := by
    intro k
    induction k with
    | zero =>
      intro i g1 g2 H locs ls hi hg hP hD hS hl
      refine lv_iload_n hx hb d_MLetters_clear_2 rfl (lv_at hl 1 rfl) ?_
      refine lv_sipush (v := 256) hx hb d_MLetters_clear_3 (by decide) ?_
      refine lv_icmp_ge (tgt := 31) hx hb d_MLetters_clear_6 (by decide) (fun c1 => ?_) (fun c1 => ?_)
      · have hin : i = 256 := by omega
        subst hin
        refine lv_aload_n hx hb d_MLetters_clear_31 rfl (lv_at hl 0 rfl) ?_
        refine lv_iconst (v := 0) hx hb d_MLetters_clear_32 (by decide) ?_
        refine va_put (D := (dC, dI)) (ci := 7) (v := .int 0) (ty := .int) (C := "ScholarsPressModel$Letters") (T := F_MLetters) (N := 9) hx hb hts in_MLetters t_MLetters t_MLetters_ok n_MLetters hown hK hP hD hS 0 rfl rfl 2 (by decide) (hts (.fieldLink "ScholarsPressModel$Letters" 39 "ScholarsPressModel$Letters" "kerns" "I") k_2757) (fun _ h9 => h9) rfl (by decide +kernel) rfl rfl (Nat.le_of_ble_eq_true rfl) d_MLetters_clear_33 (fun H locs hP hD hS => ?_)
        have hP : va_P (dC, dI) classes [(h0, .inr (7, [.ref wd, .ref tl, .int 0, .int jn, .ref (yr 0), .ref (yr 1), .ref (yr 2), .ref (yr 3), .ref (yr 4)])), (wd, .inl (cW, 256, .inl g1)), (tl, .inl (cT, 256, .inl g2))] H := hP
        have hD : va_D A [(h0, .inr (7, [.ref wd, .ref tl, .int 0, .int jn, .ref (yr 0), .ref (yr 1), .ref (yr 2), .ref (yr 3), .ref (yr 4)])), (wd, .inl (cW, 256, .inl g1)), (tl, .inl (cT, 256, .inl g2))] := hD
        refine lv_aload_n hx hb d_MLetters_clear_36 rfl (lv_at hl 0 rfl) ?_
        refine lv_iconst (v := 0) hx hb d_MLetters_clear_37 (by decide) ?_
        refine va_put (D := (dC, dI)) (ci := 7) (v := .int 0) (ty := .int) (C := "ScholarsPressModel$Letters") (T := F_MLetters) (N := 9) hx hb hts in_MLetters t_MLetters t_MLetters_ok n_MLetters hown hK hP hD hS 0 rfl rfl 3 (by decide) (hts (.fieldLink "ScholarsPressModel$Letters" 43 "ScholarsPressModel$Letters" "joins" "I") k_2758) (fun _ h9 => h9) rfl (by decide +kernel) rfl rfl (Nat.le_of_ble_eq_true rfl) d_MLetters_clear_38 (fun H locs hP hD hS => ?_)
        have hP : va_P (dC, dI) classes [(h0, .inr (7, [.ref wd, .ref tl, .int 0, .int 0, .ref (yr 0), .ref (yr 1), .ref (yr 2), .ref (yr 3), .ref (yr 4)])), (wd, .inl (cW, 256, .inl g1)), (tl, .inl (cT, 256, .inl g2))] H := hP
        have hD : va_D A [(h0, .inr (7, [.ref wd, .ref tl, .int 0, .int 0, .ref (yr 0), .ref (yr 1), .ref (yr 2), .ref (yr 3), .ref (yr 4)])), (wd, .inl (cW, 256, .inl g1)), (tl, .inl (cT, 256, .inl g2))] := hD
        have hP9 := hP.sub (ws' := [(h0, .inr (7, [.ref wd, .ref tl, .int 0, .int 0, .ref (yr 0), .ref (yr 1), .ref (yr 2), .ref (yr 3), .ref (yr 4)])), (wd, .inl (cW, 256, .inl g1)), (tl, .inl (cT, 256, .inl g2))]) [0, 1, 2] rfl
        have hD9 := hD.sub (ws' := [(h0, .inr (7, [.ref wd, .ref tl, .int 0, .int 0, .ref (yr 0), .ref (yr 1), .ref (yr 2), .ref (yr 3), .ref (yr 4)])), (wd, .inl (cW, 256, .inl g1)), (tl, .inl (cT, 256, .inl g2))]) [0, 1, 2] (by decide) rfl
        have hK9 := hK.sub (tys' := [(cW, .int), (cT, .boolean)]) [0, 1] rfl
        exact W.vret hx hb hr (fun t ht hW => ⟨⟨(g1, g2), rfl, hg, by rw [ht]; exact hP9, va_K.moved hW.alike hK9, hD9⟩, hS.F ht⟩) hS.2.2 d_MLetters_clear_41
      · exact absurd (show (256 : Int32) ≤ nI i from nI_le (a := 256) (b := i) (by omega) (by omega)) c1
    | succ k ih =>
      intro i g1 g2 H locs ls hi hg hP hD hS hl
      refine lv_iload_n hx hb d_MLetters_clear_2 rfl (lv_at hl 1 rfl) ?_
      refine lv_sipush (v := 256) hx hb d_MLetters_clear_3 (by decide) ?_
      refine lv_icmp_ge (tgt := 31) hx hb d_MLetters_clear_6 (by decide) (fun c1 => ?_) (fun c1 => ?_)
      · exact absurd c1 (show ¬ (256 : Int32) ≤ nI i from nI_ge (a := i) (b := 256) (by omega) (by decide))
      · refine lv_aload_n hx hb d_MLetters_clear_9 rfl (lv_at hl 0 rfl) ?_
        refine va_get (D := (dC, dI)) (ci := 7) (v := .ref wd) (C := "ScholarsPressModel$Letters") (T := F_MLetters) (N := 9) hx hb hts in_MLetters hown hK hP 0 rfl rfl 0 (by decide) (hts (.fieldLink "ScholarsPressModel$Letters" 7 "ScholarsPressModel$Letters" "width" "[I") k_2754) (fun _ h9 => h9) rfl d_MLetters_clear_10 ?_
        refine lv_iload_n hx hb d_MLetters_clear_13 rfl (lv_at hl 1 rfl) ?_
        refine lv_sipush (v := 500) hx hb d_MLetters_clear_14 (by decide) ?_
        refine va_iast hx hb hK hP hD hS 1 0 rfl rfl (i := nI i) (x := 500) (vp_in_nI (by omega) (by decide)) d_MLetters_clear_17 (fun H locs hP hD hS => ?_)
        obtain ⟨g3, eg3⟩ : ∃ g, g = upd g1 (nI i).toNatClampNeg 500 := ⟨_, rfl⟩
        have hP : va_P (dC, dI) classes [(h0, .inr (7, [.ref wd, .ref tl, .int kn, .int jn, .ref (yr 0), .ref (yr 1), .ref (yr 2), .ref (yr 3), .ref (yr 4)])), (wd, .inl (cW, 256, .inl g3)), (tl, .inl (cT, 256, .inl g2))] H := by rw [eg3]; exact hP
        have hD : va_D A [(h0, .inr (7, [.ref wd, .ref tl, .int kn, .int jn, .ref (yr 0), .ref (yr 1), .ref (yr 2), .ref (yr 3), .ref (yr 4)])), (wd, .inl (cW, 256, .inl g3)), (tl, .inl (cT, 256, .inl g2))] := by rw [eg3]; exact hD
        refine lv_aload_n hx hb d_MLetters_clear_18 rfl (lv_at hl 0 rfl) ?_
        refine va_get (D := (dC, dI)) (ci := 7) (v := .ref tl) (C := "ScholarsPressModel$Letters") (T := F_MLetters) (N := 9) hx hb hts in_MLetters hown hK hP 0 rfl rfl 1 (by decide) (hts (.fieldLink "ScholarsPressModel$Letters" 13 "ScholarsPressModel$Letters" "told" "[Z") k_2756) (fun _ h9 => h9) rfl d_MLetters_clear_19 ?_
        refine lv_iload_n hx hb d_MLetters_clear_22 rfl (lv_at hl 1 rfl) ?_
        refine lv_iconst (v := 0) hx hb d_MLetters_clear_23 (by decide) ?_
        refine va_zast hx hb hK hP hD hS 2 1 rfl rfl (i := nI i) (x := 0) (vp_in_nI (by omega) (by decide)) d_MLetters_clear_24 (fun H locs hP hD hS => ?_)
        rw [nI_clamp (by omega)] at hP hD
        refine lv_iinc (v := nI (i + 1)) (lv' := [(1, .int (nI (i + 1))), (0, .ref h0)]) hx hb d_MLetters_clear_25 hl (k := 1) rfl (nI_1 i) (by decide) rfl (fun ls hl => ?_)
        refine lv_goto (tgt := 2) hx hb d_MLetters_clear_28 (by decide) ?_
        refine ih (i + 1) g3 (upd g2 i (vp_nar .boolean 0)) H locs ls (by omega) (fun j hj => ?_) hP hD hS (lv_sub hl [1, 0] rfl)
        by_cases hji : j = i
        · subst hji; rw [pk_us]; decide
        · rw [pk_un hji]; exact hg j (by omega)
  refine lv_iconst (v := 0) hx hb d_MLetters_clear_0 (by decide) ?_
  refine lv_istore_n (lv' := [(1, .int 0), (0, .ref h0)]) hx hb d_MLetters_clear_1 rfl hl (by decide) rfl (fun ls hl => ?_)
  exact loop 256 0 f1 f2 s.heap [] ls rfl (fun j hj => absurd hj (Nat.not_lt_zero j)) hP hD hS (lv_sub hl [1, 0] rfl)
