abbrev DEF_SP : List Value := [.null, .int 0, .int 0, .null, .null, .null, .null, .null, .null, .null, .null, .null, .null, .int 0, .null, .null, .null, .null, .null, .null, .int 0]
theorem df_SP : ∀ j, j < 21 → defaultValue (t_SP j) = vp_V DEF_SP j := by decide +kernel
abbrev DEF_SM : List Value := [.int 0, .int 0, .null, .int 0, .null, .null, .null, .null, .null, .null, .null, .null, .null, .null, .int 0, .null, .null, .int 0, .null, .int 0, .null, .int 0, .null]
theorem df_SM : ∀ j, j < 23 → defaultValue (t_SM j) = vp_V DEF_SM j := by decide +kernel
def fz0 : Nat → Int32 := fun j => match j with | 0 => 300000 | 1 => 400000 | 2 => 1 | 3 => 10000 | 4 => 6000 | _ => 0
theorem start_zs {args : Array Value} {s : State} (h : (Jvm.Cond.and given_1 narrow_1).before args s = true) (hts : ∀ w ∈ lw_tbl, w.before args s = true) : ∃ zt : Nat, zs s.heap.size zt fz0 s s.heap := by
  have hq := flat_of_before _ h
  have hn : ∀ a : Nat, a < s.heap.size → ¬ (fun q : Nat => s.heap.size ≤ q) a := fun a ha => Nat.not_le.mpr ha
  have harr : (Cond.arrayOf (.static "ScholarsPress$Style" "PAGE_BEGINNING" "[I") .int).before args s = true := hq _ (by decide +kernel)
  have hlen : (Term.length (.static "ScholarsPress$Style" "PAGE_BEGINNING" "[I")).eval args s none [] s = some (.int (Int32.ofNat 6)) := va_eqt (hq (.eq (.length (.static "ScholarsPress$Style" "PAGE_BEGINNING" "[I")) (.int 6)) (by decide +kernel))
  have hel : ∀ j : Nat, j < 6 → (Term.elem (.static "ScholarsPress$Style" "PAGE_BEGINNING" "[I") (.int (Int32.ofNat j))).eval args s none [] s = some (.int (fz0 j)) := by
    intro j hj
    match j, hj with
    | 0, _ => exact va_eqt (hq (.eq (.elem (.static "ScholarsPress$Style" "PAGE_BEGINNING" "[I") (.int 0)) (.int 300000)) (by decide +kernel))
    | 1, _ => exact va_eqt (hq (.eq (.elem (.static "ScholarsPress$Style" "PAGE_BEGINNING" "[I") (.int 1)) (.int 400000)) (by decide +kernel))
    | 2, _ => exact va_eqt (hq (.eq (.elem (.static "ScholarsPress$Style" "PAGE_BEGINNING" "[I") (.int 2)) (.int 1)) (by decide +kernel))
    | 3, _ => exact va_eqt (hq (.eq (.elem (.static "ScholarsPress$Style" "PAGE_BEGINNING" "[I") (.int 3)) (.int 10000)) (by decide +kernel))
    | 4, _ => exact va_eqt (hq (.eq (.elem (.static "ScholarsPress$Style" "PAGE_BEGINNING" "[I") (.int 4)) (.int 6000)) (by decide +kernel))
    | 5, _ => exact va_eqt (hq (.eq (.elem (.static "ScholarsPress$Style" "PAGE_BEGINNING" "[I") (.int 5)) (.int 0)) (by decide +kernel))
    | k + 6, hj => exact absurd hj (by omega)
  obtain ⟨t, ht, hT⟩ := va_Tof (f := fun j => .int (fz0 j)) (by decide) harr hlen hel hn
  exact ⟨t, va_Zof (hts _ (List.mem_of_getElem? (i := 346) (by decide +kernel))) (hts _ (List.mem_of_getElem? (i := 242) (by decide +kernel))) ht hn, hT⟩
theorem start_S0 {args : Array Value} {s : State} (h : (Jvm.Cond.and given_1 narrow_1).before args s = true) (hts : ∀ w ∈ lw_tbl, w.before args s = true) : te_S0 s := by
  have hq := flat_of_before _ h
  have h1 : te_us.before args s = true := hq _ (by decide +kernel)
  have h2 : te_ss.before args s = true := hq _ (by decide +kernel)
  have h3 : te_lu.before args s = true := hts _ (List.mem_of_getElem? (i := 603) (by decide +kernel))
  have h4 : te_lss.before args s = true := hts _ (List.mem_of_getElem? (i := 605) (by decide +kernel))
  exact ⟨te_rf (te_Base.refl s) h3 h1, te_rf (te_Base.refl s) h4 h2, te_ls (te_Base.refl s) h3, te_ls (te_Base.refl s) h4⟩
theorem l6 : ∀ L : Nat, L < 6 → Int32.ofNat L - 6 < 0 := by decide
set_option maxHeartbeats 8000000 in
set_option maxRecDepth 100000 in
/-- THE LAW, from its entry -/
theorem whole_start {p : Program} {e : Env} {s : State} {m : MethodId} {below : List Frame} {meth : Method} {c : Code} (l : Launch) (hfl : l.flags = flags0) {b L : Nat} {xs : Nat → Int32} (hL : L ≤ 6) (C0 : lw_At p s m meth c b L xs) : W p l e room_1 s m #[Value.ref b] below meth c s.heap [] 0 0 (lw_Z below #[Value.ref b] s) (entryFrame m ([Value.ref b] : List Value).toArray 8) := by
  obtain ⟨hx, hb, hr, hml, hown0, hts0, hX, hbl, hlocks, hgv⟩ := id C0
  have hb0 : tb s := tb.of hts0
  have hts : ∀ wq ∈ tt, wq.before #[Value.ref b] s = true := hb0.hts
  have hown : s.vm.findClass "ScholarsPressLaw" = some m.cls := hown0
  obtain ⟨zt, hZ0⟩ := start_zs hgv hts0
  have hS0 := start_S0 hgv hts0
  have hNc : va_Nc x_ISE x_IAE s := va_Nc.of (flat_of_before _ hgv _ (by decide +kernel))
  obtain ⟨A, eA⟩ : ∃ A : Nat → Prop, A = fun q => s.heap.size ≤ q := ⟨_, rfl⟩
  have hA : ∀ q : Nat, s.heap.size ≤ q → A q := fun q h => by rw [eA]; exact h
  have hAn : ∀ q : Nat, A q → s.heap.size ≤ q := fun q h => by rw [eA] at h; exact h
  have hbA : ¬ A b := fun h => absurd (hAn b h) (Nat.not_le.mpr hbl)
  have hn0 : s.heap.size ≤ s.heap.size := Nat.le_refl _
  obtain ⟨c0, i0, hKn0⟩ := u_known (C := "ScholarsPress") (T := F_SP) (N := 21) (n := 21) hts in_SP (hts (.instantiable "ScholarsPress" 21) k_284)
  obtain ⟨c1, i1, hKn1⟩ := u_known (C := "ScholarsPress$Signs") (T := F_PSigns) (N := 8) (n := 8) hts in_PSigns (hts (.instantiable "ScholarsPress$Signs" 8) k_292)
  obtain ⟨c2, i2, hKn2⟩ := u_known (C := "ScholarsPress$Style") (T := F_PStyle) (N := 15) (n := 15) hts in_PStyle (hts (.instantiable "ScholarsPress$Style" 15) k_340)
  obtain ⟨c3, i3, hKn3⟩ := u_known (C := "ScholarsPress$Font") (T := F_PFont) (N := 8) (n := 8) hts in_PFont (hts (.instantiable "ScholarsPress$Font" 8) k_411)
  obtain ⟨c4, i4, hKn4⟩ := u_known (C := "ScholarsPress$Hyphens") (T := F_PHyphens) (N := 14) (n := 14) hts in_PHyphens (hts (.instantiable "ScholarsPress$Hyphens" 14) k_448)
  obtain ⟨c5, i5, hKn5⟩ := u_known (C := "ScholarsPress$Source") (T := F_PSource) (N := 20) (n := 20) hts in_PSource (hts (.instantiable "ScholarsPress$Source" 20) k_1208)
  obtain ⟨c6, i6, hKn6⟩ := u_known (C := "ScholarsPressModel") (T := F_SM) (N := 23) (n := 23) hts in_SM (hts (.instantiable "ScholarsPressModel" 23) k_2700)
  obtain ⟨c7, i7, hKn7⟩ := u_known (C := "ScholarsPressModel$Letters") (T := F_MLetters) (N := 9) (n := 9) hts in_MLetters (hts (.instantiable "ScholarsPressModel$Letters" 9) k_2706)
  obtain ⟨c8, i8, hKn8⟩ := u_known (C := "ScholarsPressModel$Signs") (T := F_MSigns) (N := 8) (n := 8) hts in_MSigns (hts (.instantiable "ScholarsPressModel$Signs" 8) k_2712)
  obtain ⟨c9, i9, hKn9⟩ := u_known (C := "ScholarsPressModel$Parting") (T := F_MParting) (N := 14) (n := 14) hts in_MParting (hts (.instantiable "ScholarsPressModel$Parting" 14) k_2784)
  obtain ⟨c10, i10, hKn10⟩ := u_known (C := "ScholarsPressModel$Style") (T := F_MStyle) (N := 28) (n := 28) hts in_MStyle (hts (.instantiable "ScholarsPressModel$Style" 28) k_2835)
  obtain ⟨c11, i11, hKn11⟩ := u_known (C := "ScholarsPressModel$Source") (T := F_MSource) (N := 28) (n := 28) hts in_MSource (hts (.instantiable "ScholarsPressModel$Source" 28) k_2955)
  obtain ⟨c12, i12, hKn12⟩ := u_known (C := "ScholarsPressModel$Tree") (T := F_MTree) (N := 30) (n := 30) hts in_MTree (hts (.instantiable "ScholarsPressModel$Tree" 30) k_3079)
  obtain ⟨c13, i13, hKn13⟩ := u_known (C := "ScholarsPressModel$Setting") (T := F_MSetting) (N := 141) (n := 141) hts in_MSetting (hts (.instantiable "ScholarsPressModel$Setting" 141) k_3198)
  obtain ⟨dC, dI, hKc⟩ : ∃ (dC : Nat → ClassId) (dI : Nat → Nat → Nat), ∀ (k : Nat) (q : vw_C), classes[k]? = some q → u_Kn s q.1 q.2.1 q.2.2 (dC k) (dI k) := by
    refine ⟨fun k => match k with | 0 => c0 | 1 => c1 | 2 => c2 | 3 => c3 | 4 => c4 | 5 => c5 | 6 => c6 | 7 => c7 | 8 => c8 | 9 => c9 | 10 => c10 | 11 => c11 | 12 => c12 | _ => c13, fun k => match k with | 0 => i0 | 1 => i1 | 2 => i2 | 3 => i3 | 4 => i4 | 5 => i5 | 6 => i6 | 7 => i7 | 8 => i8 | 9 => i9 | 10 => i10 | 11 => i11 | 12 => i12 | _ => i13, ?_⟩
    intro k q hq
    match k, hq with
    | 0, hq => cases hq; exact hKn0
    | 1, hq => cases hq; exact hKn1
    | 2, hq => cases hq; exact hKn2
    | 3, hq => cases hq; exact hKn3
    | 4, hq => cases hq; exact hKn4
    | 5, hq => cases hq; exact hKn5
    | 6, hq => cases hq; exact hKn6
    | 7, hq => cases hq; exact hKn7
    | 8, hq => cases hq; exact hKn8
    | 9, hq => cases hq; exact hKn9
    | 10, hq => cases hq; exact hKn10
    | 11, hq => cases hq; exact hKn11
    | 12, hq => cases hq; exact hKn12
    | 13, hq => cases hq; exact hKn13
    | k + 14, hq => simp [classes] at hq
  have hS : va_S A s.heap s.heap [] := va_S.rf
  have hK : va_K (dC, dI) classes [] s := ⟨hKc, fun k q h => by simp at h⟩
  have hP : va_P (dC, dI) classes [] s.heap := va_P_nil
  have hD : va_D A [] := va_D_nil
  have hl := lv_entry ([.ref b]) (n := 8) (Nat.le_of_ble_eq_true rfl)
  rw [lg_entry_eq]
  generalize (lg_sl ([.ref b]) ++ List.replicate (8 - (lg_sl ([.ref b])).length) Slot.unset).toArray = ls at hl ⊢
  have hl : lv_has ls 8 [(0, .ref b)] := hl
  refine va_new (D := (dC, dI)) (ci := 0) (fs := DEF_SP) (C := "ScholarsPress") (T := F_SP) (N := 21) hx hb hts in_SP t_SP t_SP_ok hown (hts (.classLink "ScholarsPressLaw" 8 "ScholarsPress") k_283) (hts (.instantiable "ScholarsPress" 21) k_284) (hts (.initialized "ScholarsPress") k_240) hK hP hD hS hA rfl df_SP (Nat.le_of_ble_eq_true rfl) (Nat.le_of_ble_eq_true rfl) d_law_0 (fun q_1 H hP hD hS => ?_)
  have hP : va_P (dC, dI) classes [(q_1, .inr (0, DEF_SP))] H := hP
  have hD : va_D A [(q_1, .inr (0, DEF_SP))] := hD
  refine lv_dup hx hb d_law_3 rfl ?_
  refine vi_v (wc := [(q_1, .inr (0, DEF_SP))]) (wr := []) (va_runI (As := []) (rest := [.ref q_1]) ⟨hx, hb, hml, hown, hts⟩ (c_SP_init l dC dI s.heap.size zt fz0 q_1 H.size) (cwI 0 hts (tt_1 kw_SP_init rfl) rfl rfl rfl (hts _ k_240) (hts _ k_285) (hts _ k_286) rfl (by decide +kernel) ⟨Nat.le_of_ble_eq_true rfl, Nat.le_of_ble_eq_true rfl⟩) ⟨prZ_blind, prZ_pre hb0 (hP.sub [0] rfl) (hK.sub [] rfl) (hD.sub [0] (by decide) rfl) hS hn0 hAn hZ0⟩ rfl rfl hl.1 rfl (lv_room (Nat.le_of_ble_eq_true rfl)) d_law_4 ⟨Nat.le_of_ble_eq_true rfl, Nat.le_of_ble_eq_true rfl⟩) hP hD hK hS hA [0] [] rfl rfl (by decide) (by decide) (fun u H locs hw hP hK hD hS => ?_)
  obtain ⟨uX, rfl⟩ : ∃ z, z = u := ⟨_, rfl⟩
  have hP : va_P (dC, dI) classes [(q_1, .inr (0, [.ref (uX.1 0), .int 0, .int ((-1)), .ref (uX.1 1), .null, .null, .ref (uX.1 2), .null, .ref (uX.1 3), .null, .ref (uX.1 4), .null, .null, .int 0, .null, .null, .null, .null, .null, .null, .int 0])), ((uX.1 0), .inl ((uX.2 0), 16384, .inl ((fun _ => 0)))), ((uX.1 1), .inr (1, [.null, .int 0, .int 0, .int 0, .int 0, .int 0, .int 0, .long 0]))] H := hP
  have hD : va_D A [(q_1, .inr (0, [.ref (uX.1 0), .int 0, .int ((-1)), .ref (uX.1 1), .null, .null, .ref (uX.1 2), .null, .ref (uX.1 3), .null, .ref (uX.1 4), .null, .null, .int 0, .null, .null, .null, .null, .null, .null, .int 0])), ((uX.1 0), .inl ((uX.2 0), 16384, .inl ((fun _ => 0)))), ((uX.1 1), .inr (1, [.null, .int 0, .int 0, .int 0, .int 0, .int 0, .int 0, .long 0]))] := hD
  have hK : va_K (dC, dI) classes [((uX.2 0), .byte)] s := hK.sub [0] rfl
  refine lv_astore_n (lv' := [(1, .ref q_1), (0, .ref b)]) hx hb d_law_7 rfl hl (by decide) rfl (fun ls hl => ?_)
  refine va_new (D := (dC, dI)) (ci := 6) (fs := DEF_SM) (C := "ScholarsPressModel") (T := F_SM) (N := 23) hx hb hts in_SM t_SM t_SM_ok hown (hts (.classLink "ScholarsPressLaw" 85 "ScholarsPressModel") k_2699) (hts (.instantiable "ScholarsPressModel" 23) k_2700) (hts (.initialized "ScholarsPressModel") k_247) hK hP hD hS hA rfl df_SM (Nat.le_of_ble_eq_true rfl) (Nat.le_of_ble_eq_true rfl) d_law_8 (fun q_2 H hP hD hS => ?_)
  have hP : va_P (dC, dI) classes [(q_1, .inr (0, [.ref (uX.1 0), .int 0, .int ((-1)), .ref (uX.1 1), .null, .null, .ref (uX.1 2), .null, .ref (uX.1 3), .null, .ref (uX.1 4), .null, .null, .int 0, .null, .null, .null, .null, .null, .null, .int 0])), ((uX.1 0), .inl ((uX.2 0), 16384, .inl ((fun _ => 0)))), ((uX.1 1), .inr (1, [.null, .int 0, .int 0, .int 0, .int 0, .int 0, .int 0, .long 0])), (q_2, .inr (6, DEF_SM))] H := hP
  have hD : va_D A [(q_1, .inr (0, [.ref (uX.1 0), .int 0, .int ((-1)), .ref (uX.1 1), .null, .null, .ref (uX.1 2), .null, .ref (uX.1 3), .null, .ref (uX.1 4), .null, .null, .int 0, .null, .null, .null, .null, .null, .null, .int 0])), ((uX.1 0), .inl ((uX.2 0), 16384, .inl ((fun _ => 0)))), ((uX.1 1), .inr (1, [.null, .int 0, .int 0, .int 0, .int 0, .int 0, .int 0, .long 0])), (q_2, .inr (6, DEF_SM))] := hD
  refine lv_dup hx hb d_law_11 rfl ?_
  refine vi_v (wc := [(q_2, .inr (6, DEF_SM))]) (wr := [(q_1, .inr (0, [.ref (uX.1 0), .int 0, .int ((-1)), .ref (uX.1 1), .null, .null, .ref (uX.1 2), .null, .ref (uX.1 3), .null, .ref (uX.1 4), .null, .null, .int 0, .null, .null, .null, .null, .null, .null, .int 0])), ((uX.1 0), .inl ((uX.2 0), 16384, .inl ((fun _ => 0)))), ((uX.1 1), .inr (1, [.null, .int 0, .int 0, .int 0, .int 0, .int 0, .int 0, .long 0]))]) (va_runI (As := []) (rest := [.ref q_2]) ⟨hx, hb, hml, hown, hts⟩ (c_SM_init l dC dI q_2 H.size) (cwI 0 hts (tt_1 kw_SM_init rfl) rfl rfl rfl (hts _ k_247) (hts _ k_2701) (hts _ k_2702) rfl (by decide +kernel) ⟨Nat.le_of_ble_eq_true rfl, Nat.le_of_ble_eq_true rfl⟩) ⟨pr_blind, pr_pre hb0 (hP.sub [3] rfl) (hK.sub [] rfl) (hD.sub [3] (by decide) rfl)⟩ rfl rfl hl.1 rfl (lv_room (Nat.le_of_ble_eq_true rfl)) d_law_12 ⟨Nat.le_of_ble_eq_true rfl, Nat.le_of_ble_eq_true rfl⟩) hP hD hK hS hA [3] [0, 1, 2] rfl rfl (by decide) (by decide) (fun u H locs hw hP hK hD hS => ?_)
  obtain ⟨uM, rfl⟩ : ∃ z, z = u := ⟨_, rfl⟩
  have hP : va_P (dC, dI) classes [(q_1, .inr (0, [.ref (uX.1 0), .int 0, .int ((-1)), .ref (uX.1 1), .null, .null, .ref (uX.1 2), .null, .ref (uX.1 3), .null, .ref (uX.1 4), .null, .null, .int 0, .null, .null, .null, .null, .null, .null, .int 0])), ((uX.1 0), .inl ((uX.2 0), 16384, .inl ((fun _ => 0)))), ((uX.1 1), .inr (1, [.null, .int 0, .int 0, .int 0, .int 0, .int 0, .int 0, .long 0])), (q_2, .inr (6, [.int 0, .int ((-1)), .ref (uM.1 0), .int 0, .ref (uM.1 1), .ref (uM.1 2), .ref (uM.1 3), .ref (uM.1 4), .ref (uM.1 5), .ref (uM.1 6), .ref (uM.1 7), .ref (uM.1 8), .ref (uM.1 9), .ref (uM.1 10), .int 0, .ref (uM.1 11), .ref (uM.1 12), .int 0, .ref (uM.1 13), .int 0, .ref (uM.1 14), .int 0, .ref (uM.1 15)])), ((uM.1 0), .inl ((uM.2.2 0), 16384, .inl ((fun _ => 0)))), ((uM.1 2), .inr (7, [.ref (uM.1 16), .ref (uM.1 17), .int 0, .int 0, .ref (uM.1 18), .ref (uM.1 19), .ref (uM.1 20), .ref (uM.1 21), .ref (uM.1 22)])), ((uM.1 22), .inr (8, [.null, .int 0, .int 0, .int 0, .int 0, .int 0, .int 0, .int 0])), ((uM.1 16), .inl ((uM.2.2 1), 256, .inl ((uM.2.1 0)))), ((uM.1 17), .inl ((uM.2.2 2), 256, .inl ((uM.2.1 1)))), ((uM.1 4), .inr (9, [.int 2, .int 3, .int 0, .int 0, .ref (uM.1 23), .ref (uM.1 24), .ref (uM.1 25), .ref (uM.1 26), .ref (uM.1 27), .ref (uM.1 28), .ref (uM.1 29), .ref (uM.1 30), .int 0, .ref (uM.1 31)])), ((uM.1 6), .inr (10, [.ref (uM.1 32), .ref (uM.1 33), .ref (uM.1 34), .int 0, .int 0, .int 0, .int 0, .int 0, .int 0, .ref (uM.1 35), .ref (uM.1 36), .ref (uM.1 37), .ref (uM.1 38), .ref (uM.1 39), .ref (uM.1 40), .ref (uM.1 41), .ref (uM.1 42), .ref (uM.1 43), .ref (uM.1 44), .ref (uM.1 45), .ref (uM.1 46), .ref (uM.1 47), .ref (uM.1 48), .ref (uM.1 49), .ref (uM.1 50), .ref (uM.1 51), .ref (uM.1 52), .ref (uM.1 53)])), ((uM.1 33), .inr (8, [.null, .int 0, .int 0, .int 0, .int 0, .int 0, .int 0, .int 0])), ((uM.1 34), .inl ((uM.2.2 3), 6, .inl ((uM.2.1 2)))), ((uM.1 47), .inl ((uM.2.2 4), 130, .inl ((uM.2.1 3)))), ((uM.1 40), .inl ((uM.2.2 5), 971, .inl ((uM.2.1 4)))), ((uM.1 35), .inl ((uM.2.2 6), 121, .inl ((uM.2.1 5)))), ((uM.1 7), .inr (11, [.ref (uM.1 54), .int 0, .int 0, .int 0, .int 0, .int 0, .ref (uM.1 55), .ref (uM.1 56), .ref (uM.1 57), .ref (uM.1 58), .ref (uM.1 59), .ref (uM.1 60), .ref (uM.1 61), .ref (uM.1 62), .ref (uM.1 63), .ref (uM.1 64), .ref (uM.1 65), .ref (uM.1 66), .ref (uM.1 67), .ref (uM.1 68), .ref (uM.1 69), .ref (uM.1 70), .ref (uM.1 71), .ref (uM.1 72), .ref (uM.1 73), .int 0, .int 0, .int 0])), ((uM.1 8), .inr (11, [.ref (uM.1 74), .int 0, .int 0, .int 0, .int 0, .int 0, .ref (uM.1 75), .ref (uM.1 76), .ref (uM.1 77), .ref (uM.1 78), .ref (uM.1 79), .ref (uM.1 80), .ref (uM.1 81), .ref (uM.1 82), .ref (uM.1 83), .ref (uM.1 84), .ref (uM.1 85), .ref (uM.1 86), .ref (uM.1 87), .ref (uM.1 88), .ref (uM.1 89), .ref (uM.1 90), .ref (uM.1 91), .ref (uM.1 92), .ref (uM.1 93), .int 0, .int 0, .int 0]))] H := hP
  have hD : va_D A [(q_1, .inr (0, [.ref (uX.1 0), .int 0, .int ((-1)), .ref (uX.1 1), .null, .null, .ref (uX.1 2), .null, .ref (uX.1 3), .null, .ref (uX.1 4), .null, .null, .int 0, .null, .null, .null, .null, .null, .null, .int 0])), ((uX.1 0), .inl ((uX.2 0), 16384, .inl ((fun _ => 0)))), ((uX.1 1), .inr (1, [.null, .int 0, .int 0, .int 0, .int 0, .int 0, .int 0, .long 0])), (q_2, .inr (6, [.int 0, .int ((-1)), .ref (uM.1 0), .int 0, .ref (uM.1 1), .ref (uM.1 2), .ref (uM.1 3), .ref (uM.1 4), .ref (uM.1 5), .ref (uM.1 6), .ref (uM.1 7), .ref (uM.1 8), .ref (uM.1 9), .ref (uM.1 10), .int 0, .ref (uM.1 11), .ref (uM.1 12), .int 0, .ref (uM.1 13), .int 0, .ref (uM.1 14), .int 0, .ref (uM.1 15)])), ((uM.1 0), .inl ((uM.2.2 0), 16384, .inl ((fun _ => 0)))), ((uM.1 2), .inr (7, [.ref (uM.1 16), .ref (uM.1 17), .int 0, .int 0, .ref (uM.1 18), .ref (uM.1 19), .ref (uM.1 20), .ref (uM.1 21), .ref (uM.1 22)])), ((uM.1 22), .inr (8, [.null, .int 0, .int 0, .int 0, .int 0, .int 0, .int 0, .int 0])), ((uM.1 16), .inl ((uM.2.2 1), 256, .inl ((uM.2.1 0)))), ((uM.1 17), .inl ((uM.2.2 2), 256, .inl ((uM.2.1 1)))), ((uM.1 4), .inr (9, [.int 2, .int 3, .int 0, .int 0, .ref (uM.1 23), .ref (uM.1 24), .ref (uM.1 25), .ref (uM.1 26), .ref (uM.1 27), .ref (uM.1 28), .ref (uM.1 29), .ref (uM.1 30), .int 0, .ref (uM.1 31)])), ((uM.1 6), .inr (10, [.ref (uM.1 32), .ref (uM.1 33), .ref (uM.1 34), .int 0, .int 0, .int 0, .int 0, .int 0, .int 0, .ref (uM.1 35), .ref (uM.1 36), .ref (uM.1 37), .ref (uM.1 38), .ref (uM.1 39), .ref (uM.1 40), .ref (uM.1 41), .ref (uM.1 42), .ref (uM.1 43), .ref (uM.1 44), .ref (uM.1 45), .ref (uM.1 46), .ref (uM.1 47), .ref (uM.1 48), .ref (uM.1 49), .ref (uM.1 50), .ref (uM.1 51), .ref (uM.1 52), .ref (uM.1 53)])), ((uM.1 33), .inr (8, [.null, .int 0, .int 0, .int 0, .int 0, .int 0, .int 0, .int 0])), ((uM.1 34), .inl ((uM.2.2 3), 6, .inl ((uM.2.1 2)))), ((uM.1 47), .inl ((uM.2.2 4), 130, .inl ((uM.2.1 3)))), ((uM.1 40), .inl ((uM.2.2 5), 971, .inl ((uM.2.1 4)))), ((uM.1 35), .inl ((uM.2.2 6), 121, .inl ((uM.2.1 5)))), ((uM.1 7), .inr (11, [.ref (uM.1 54), .int 0, .int 0, .int 0, .int 0, .int 0, .ref (uM.1 55), .ref (uM.1 56), .ref (uM.1 57), .ref (uM.1 58), .ref (uM.1 59), .ref (uM.1 60), .ref (uM.1 61), .ref (uM.1 62), .ref (uM.1 63), .ref (uM.1 64), .ref (uM.1 65), .ref (uM.1 66), .ref (uM.1 67), .ref (uM.1 68), .ref (uM.1 69), .ref (uM.1 70), .ref (uM.1 71), .ref (uM.1 72), .ref (uM.1 73), .int 0, .int 0, .int 0])), ((uM.1 8), .inr (11, [.ref (uM.1 74), .int 0, .int 0, .int 0, .int 0, .int 0, .ref (uM.1 75), .ref (uM.1 76), .ref (uM.1 77), .ref (uM.1 78), .ref (uM.1 79), .ref (uM.1 80), .ref (uM.1 81), .ref (uM.1 82), .ref (uM.1 83), .ref (uM.1 84), .ref (uM.1 85), .ref (uM.1 86), .ref (uM.1 87), .ref (uM.1 88), .ref (uM.1 89), .ref (uM.1 90), .ref (uM.1 91), .ref (uM.1 92), .ref (uM.1 93), .int 0, .int 0, .int 0]))] := hD
  have hK : va_K (dC, dI) classes [((uX.2 0), .byte), ((uM.2.2 0), .byte), ((uM.2.2 1), .int), ((uM.2.2 2), .boolean), ((uM.2.2 3), .int), ((uM.2.2 4), .int), ((uM.2.2 5), .int), ((uM.2.2 6), .int)] s := hK.sub [0, 1, 2, 3, 4, 5, 6, 7] rfl
  refine lv_astore_n (lv' := [(2, .ref q_2), (1, .ref q_1), (0, .ref b)]) hx hb d_law_15 rfl hl (by decide) rfl (fun ls hl => ?_)
  refine lv_iconst (v := 1) hx hb d_law_16 (by decide) ?_
  refine va_newa (D := (dC, dI)) hx hb (atype := .long) (hts _ k_409) rfl hK hP hD hS hA (a0 := (1, .inr (.inl (fun _ => 0)))) (n := 1) (fun _ => rfl) (by decide) (by decide) (by decide) (Nat.le_of_ble_eq_true rfl) (Nat.le_of_ble_eq_true rfl) d_law_17 (fun q_3 cA_4 H hK hP hD hS => ?_)
  have hP : va_P (dC, dI) classes [(q_1, .inr (0, [.ref (uX.1 0), .int 0, .int ((-1)), .ref (uX.1 1), .null, .null, .ref (uX.1 2), .null, .ref (uX.1 3), .null, .ref (uX.1 4), .null, .null, .int 0, .null, .null, .null, .null, .null, .null, .int 0])), ((uX.1 0), .inl ((uX.2 0), 16384, .inl ((fun _ => 0)))), ((uX.1 1), .inr (1, [.null, .int 0, .int 0, .int 0, .int 0, .int 0, .int 0, .long 0])), (q_2, .inr (6, [.int 0, .int ((-1)), .ref (uM.1 0), .int 0, .ref (uM.1 1), .ref (uM.1 2), .ref (uM.1 3), .ref (uM.1 4), .ref (uM.1 5), .ref (uM.1 6), .ref (uM.1 7), .ref (uM.1 8), .ref (uM.1 9), .ref (uM.1 10), .int 0, .ref (uM.1 11), .ref (uM.1 12), .int 0, .ref (uM.1 13), .int 0, .ref (uM.1 14), .int 0, .ref (uM.1 15)])), ((uM.1 0), .inl ((uM.2.2 0), 16384, .inl ((fun _ => 0)))), ((uM.1 2), .inr (7, [.ref (uM.1 16), .ref (uM.1 17), .int 0, .int 0, .ref (uM.1 18), .ref (uM.1 19), .ref (uM.1 20), .ref (uM.1 21), .ref (uM.1 22)])), ((uM.1 22), .inr (8, [.null, .int 0, .int 0, .int 0, .int 0, .int 0, .int 0, .int 0])), ((uM.1 16), .inl ((uM.2.2 1), 256, .inl ((uM.2.1 0)))), ((uM.1 17), .inl ((uM.2.2 2), 256, .inl ((uM.2.1 1)))), ((uM.1 4), .inr (9, [.int 2, .int 3, .int 0, .int 0, .ref (uM.1 23), .ref (uM.1 24), .ref (uM.1 25), .ref (uM.1 26), .ref (uM.1 27), .ref (uM.1 28), .ref (uM.1 29), .ref (uM.1 30), .int 0, .ref (uM.1 31)])), ((uM.1 6), .inr (10, [.ref (uM.1 32), .ref (uM.1 33), .ref (uM.1 34), .int 0, .int 0, .int 0, .int 0, .int 0, .int 0, .ref (uM.1 35), .ref (uM.1 36), .ref (uM.1 37), .ref (uM.1 38), .ref (uM.1 39), .ref (uM.1 40), .ref (uM.1 41), .ref (uM.1 42), .ref (uM.1 43), .ref (uM.1 44), .ref (uM.1 45), .ref (uM.1 46), .ref (uM.1 47), .ref (uM.1 48), .ref (uM.1 49), .ref (uM.1 50), .ref (uM.1 51), .ref (uM.1 52), .ref (uM.1 53)])), ((uM.1 33), .inr (8, [.null, .int 0, .int 0, .int 0, .int 0, .int 0, .int 0, .int 0])), ((uM.1 34), .inl ((uM.2.2 3), 6, .inl ((uM.2.1 2)))), ((uM.1 47), .inl ((uM.2.2 4), 130, .inl ((uM.2.1 3)))), ((uM.1 40), .inl ((uM.2.2 5), 971, .inl ((uM.2.1 4)))), ((uM.1 35), .inl ((uM.2.2 6), 121, .inl ((uM.2.1 5)))), ((uM.1 7), .inr (11, [.ref (uM.1 54), .int 0, .int 0, .int 0, .int 0, .int 0, .ref (uM.1 55), .ref (uM.1 56), .ref (uM.1 57), .ref (uM.1 58), .ref (uM.1 59), .ref (uM.1 60), .ref (uM.1 61), .ref (uM.1 62), .ref (uM.1 63), .ref (uM.1 64), .ref (uM.1 65), .ref (uM.1 66), .ref (uM.1 67), .ref (uM.1 68), .ref (uM.1 69), .ref (uM.1 70), .ref (uM.1 71), .ref (uM.1 72), .ref (uM.1 73), .int 0, .int 0, .int 0])), ((uM.1 8), .inr (11, [.ref (uM.1 74), .int 0, .int 0, .int 0, .int 0, .int 0, .ref (uM.1 75), .ref (uM.1 76), .ref (uM.1 77), .ref (uM.1 78), .ref (uM.1 79), .ref (uM.1 80), .ref (uM.1 81), .ref (uM.1 82), .ref (uM.1 83), .ref (uM.1 84), .ref (uM.1 85), .ref (uM.1 86), .ref (uM.1 87), .ref (uM.1 88), .ref (uM.1 89), .ref (uM.1 90), .ref (uM.1 91), .ref (uM.1 92), .ref (uM.1 93), .int 0, .int 0, .int 0])), (q_3, .inl (cA_4, 1, .inr (.inl ((fun _ => 0)))))] H := hP
  have hD : va_D A [(q_1, .inr (0, [.ref (uX.1 0), .int 0, .int ((-1)), .ref (uX.1 1), .null, .null, .ref (uX.1 2), .null, .ref (uX.1 3), .null, .ref (uX.1 4), .null, .null, .int 0, .null, .null, .null, .null, .null, .null, .int 0])), ((uX.1 0), .inl ((uX.2 0), 16384, .inl ((fun _ => 0)))), ((uX.1 1), .inr (1, [.null, .int 0, .int 0, .int 0, .int 0, .int 0, .int 0, .long 0])), (q_2, .inr (6, [.int 0, .int ((-1)), .ref (uM.1 0), .int 0, .ref (uM.1 1), .ref (uM.1 2), .ref (uM.1 3), .ref (uM.1 4), .ref (uM.1 5), .ref (uM.1 6), .ref (uM.1 7), .ref (uM.1 8), .ref (uM.1 9), .ref (uM.1 10), .int 0, .ref (uM.1 11), .ref (uM.1 12), .int 0, .ref (uM.1 13), .int 0, .ref (uM.1 14), .int 0, .ref (uM.1 15)])), ((uM.1 0), .inl ((uM.2.2 0), 16384, .inl ((fun _ => 0)))), ((uM.1 2), .inr (7, [.ref (uM.1 16), .ref (uM.1 17), .int 0, .int 0, .ref (uM.1 18), .ref (uM.1 19), .ref (uM.1 20), .ref (uM.1 21), .ref (uM.1 22)])), ((uM.1 22), .inr (8, [.null, .int 0, .int 0, .int 0, .int 0, .int 0, .int 0, .int 0])), ((uM.1 16), .inl ((uM.2.2 1), 256, .inl ((uM.2.1 0)))), ((uM.1 17), .inl ((uM.2.2 2), 256, .inl ((uM.2.1 1)))), ((uM.1 4), .inr (9, [.int 2, .int 3, .int 0, .int 0, .ref (uM.1 23), .ref (uM.1 24), .ref (uM.1 25), .ref (uM.1 26), .ref (uM.1 27), .ref (uM.1 28), .ref (uM.1 29), .ref (uM.1 30), .int 0, .ref (uM.1 31)])), ((uM.1 6), .inr (10, [.ref (uM.1 32), .ref (uM.1 33), .ref (uM.1 34), .int 0, .int 0, .int 0, .int 0, .int 0, .int 0, .ref (uM.1 35), .ref (uM.1 36), .ref (uM.1 37), .ref (uM.1 38), .ref (uM.1 39), .ref (uM.1 40), .ref (uM.1 41), .ref (uM.1 42), .ref (uM.1 43), .ref (uM.1 44), .ref (uM.1 45), .ref (uM.1 46), .ref (uM.1 47), .ref (uM.1 48), .ref (uM.1 49), .ref (uM.1 50), .ref (uM.1 51), .ref (uM.1 52), .ref (uM.1 53)])), ((uM.1 33), .inr (8, [.null, .int 0, .int 0, .int 0, .int 0, .int 0, .int 0, .int 0])), ((uM.1 34), .inl ((uM.2.2 3), 6, .inl ((uM.2.1 2)))), ((uM.1 47), .inl ((uM.2.2 4), 130, .inl ((uM.2.1 3)))), ((uM.1 40), .inl ((uM.2.2 5), 971, .inl ((uM.2.1 4)))), ((uM.1 35), .inl ((uM.2.2 6), 121, .inl ((uM.2.1 5)))), ((uM.1 7), .inr (11, [.ref (uM.1 54), .int 0, .int 0, .int 0, .int 0, .int 0, .ref (uM.1 55), .ref (uM.1 56), .ref (uM.1 57), .ref (uM.1 58), .ref (uM.1 59), .ref (uM.1 60), .ref (uM.1 61), .ref (uM.1 62), .ref (uM.1 63), .ref (uM.1 64), .ref (uM.1 65), .ref (uM.1 66), .ref (uM.1 67), .ref (uM.1 68), .ref (uM.1 69), .ref (uM.1 70), .ref (uM.1 71), .ref (uM.1 72), .ref (uM.1 73), .int 0, .int 0, .int 0])), ((uM.1 8), .inr (11, [.ref (uM.1 74), .int 0, .int 0, .int 0, .int 0, .int 0, .ref (uM.1 75), .ref (uM.1 76), .ref (uM.1 77), .ref (uM.1 78), .ref (uM.1 79), .ref (uM.1 80), .ref (uM.1 81), .ref (uM.1 82), .ref (uM.1 83), .ref (uM.1 84), .ref (uM.1 85), .ref (uM.1 86), .ref (uM.1 87), .ref (uM.1 88), .ref (uM.1 89), .ref (uM.1 90), .ref (uM.1 91), .ref (uM.1 92), .ref (uM.1 93), .int 0, .int 0, .int 0])), (q_3, .inl (cA_4, 1, .inr (.inl ((fun _ => 0)))))] := hD
  have hK : va_K (dC, dI) classes [((uX.2 0), .byte), ((uM.2.2 0), .byte), ((uM.2.2 1), .int), ((uM.2.2 2), .boolean), ((uM.2.2 3), .int), ((uM.2.2 4), .int), ((uM.2.2 5), .int), ((uM.2.2 6), .int), (cA_4, .long)] s := hK
  refine lv_astore_n (lv' := [(3, .ref q_3), (2, .ref q_2), (1, .ref q_1), (0, .ref b)]) hx hb d_law_19 rfl hl (by decide) rfl (fun ls hl => ?_)
  refine lv_iconst (v := 0) hx hb d_law_20 (by decide) ?_
  refine lv_istore (lv' := [(4, .int 0), (3, .ref q_3), (2, .ref q_2), (1, .ref q_1), (0, .ref b)]) hx hb d_law_21 hl (by decide) rfl (fun ls hl => ?_)
  refine W.widen (k := 517) (n := 1569238) (by decide) (by decide) ?_
  rcases (show L = 6 ∨ L < 6 by omega) with rfl | hL6
  · refine lv_iload hx hb d_law_23 (lv_at hl 0 rfl) ?_
    refine lv_aload_n hx hb d_law_25 rfl (lv_at hl 4 rfl) ?_
    refine va_slen hx hb hX hbl hbA hS d_law_26 ?_
    refine lv_topi (fun v_5 ev_5 => ?_)
    obtain rfl : v_5 = 6 := ev_5.trans (by decide)
    refine lv_bipush (v := 6) hx hb d_law_27 (by decide) ?_
    refine lv_isub hx hb d_law_29 ?_
    refine lv_topi (fun v_6 ev_6 => ?_)
    obtain rfl : v_6 = 0 := ev_6.trans (by decide)
    refine lv_icmp_gt (tgt := 1287) hx hb d_law_30 (by decide) (fun c_7 => absurd c_7 (by decide)) (fun c_7 => ?_)
    refine lv_aload_n hx hb d_law_33 rfl (lv_at hl 4 rfl) ?_
    refine lv_iload hx hb d_law_34 (lv_at hl 0 rfl) ?_
    refine va_sld hx hb hX hbl hbA hS (i := 0) (by unfold vp_in; decide) d_law_36 ?_
    refine lv_bipush (v := 31) hx hb d_law_37 (by decide) ?_
    refine lv_iand hx hb d_law_39 ?_
    refine lv_topi (fun y ey => ?_)
    have hj : y.toInt = 0 ∨ y.toInt = 1 ∨ y.toInt = 2 ∨ y.toInt = 3 ∨ y.toInt = 4 ∨ y.toInt = 5 ∨ y.toInt = 6 ∨ y.toInt = 7 ∨ y.toInt = 8 ∨ y.toInt = 9 ∨ y.toInt = 10 ∨ y.toInt = 11 ∨ y.toInt = 12 ∨ y.toInt = 13 ∨ y.toInt = 14 ∨ y.toInt = 15 ∨ y.toInt = 16 ∨ y.toInt = 17 ∨ y.toInt = 18 ∨ y.toInt = 19 ∨ (y.toInt < 0 ∨ 19 < y.toInt) := by omega
    rcases hj with hj | hj | hj | hj | hj | hj | hj | hj | hj | hj | hj | hj | hj | hj | hj | hj | hj | hj | hj | hj | hj
    · refine lv_tableIn (tgt := 136) hx hb d_law_40 (by omega) (by omega) (off := 96) (by rw [hj]; rfl) (by decide) ?_
      exact law_0 (uX := uX) (uM := uM) C0 hb0 hA hAn hfl hS0 hNc hZ0 hK hP hD hS hl rfl rfl rfl rfl rfl
    · refine lv_tableIn (tgt := 240) hx hb d_law_40 (by omega) (by omega) (off := 200) (by rw [hj]; rfl) (by decide) ?_
      exact law_1 (uX := uX) (uM := uM) C0 hb0 hA hAn hfl hS0 hNc hZ0 hK hP hD hS hl rfl rfl rfl rfl rfl
    · refine lv_tableIn (tgt := 296) hx hb d_law_40 (by omega) (by omega) (off := 256) (by rw [hj]; rfl) (by decide) ?_
      exact law_2 (uX := uX) (uM := uM) C0 hb0 hA hAn hfl hS0 hNc hZ0 hK hP hD hS hl rfl rfl rfl rfl rfl
    · refine lv_tableIn (tgt := 340) hx hb d_law_40 (by omega) (by omega) (off := 300) (by rw [hj]; rfl) (by decide) ?_
      exact law_3 (uX := uX) (uM := uM) C0 hb0 hA hAn hfl hS0 hNc hZ0 hK hP hD hS hl rfl rfl rfl rfl rfl
    · refine lv_tableIn (tgt := 384) hx hb d_law_40 (by omega) (by omega) (off := 344) (by rw [hj]; rfl) (by decide) ?_
      exact law_4 (uX := uX) (uM := uM) C0 hb0 hA hAn hfl hS0 hNc hZ0 hK hP hD hS hl rfl rfl rfl rfl rfl
    · refine lv_tableIn (tgt := 428) hx hb d_law_40 (by omega) (by omega) (off := 388) (by rw [hj]; rfl) (by decide) ?_
      exact law_5 (uX := uX) (uM := uM) C0 hb0 hA hAn hfl hS0 hNc hZ0 hK hP hD hS hl rfl rfl rfl rfl rfl
    · refine lv_tableIn (tgt := 472) hx hb d_law_40 (by omega) (by omega) (off := 432) (by rw [hj]; rfl) (by decide) ?_
      exact law_6 (uX := uX) (uM := uM) C0 hb0 hA hAn hfl hS0 hNc hZ0 hK hP hD hS hl rfl rfl rfl rfl rfl
    · refine lv_tableIn (tgt := 540) hx hb d_law_40 (by omega) (by omega) (off := 500) (by rw [hj]; rfl) (by decide) ?_
      exact law_7 (uX := uX) (uM := uM) C0 hb0 hA hAn hfl hS0 hNc hZ0 hK hP hD hS hl rfl rfl rfl rfl rfl
    · refine lv_tableIn (tgt := 553) hx hb d_law_40 (by omega) (by omega) (off := 513) (by rw [hj]; rfl) (by decide) ?_
      exact law_8 (uX := uX) (uM := uM) C0 hb0 hA hAn hfl hS0 hNc hZ0 hK hP hD hS hl rfl rfl rfl rfl rfl
    · refine lv_tableIn (tgt := 609) hx hb d_law_40 (by omega) (by omega) (off := 569) (by rw [hj]; rfl) (by decide) ?_
      exact law_9 (uX := uX) (uM := uM) C0 hb0 hA hAn hfl hS0 hNc hZ0 hK hP hD hS hl rfl rfl rfl rfl rfl
    · refine lv_tableIn (tgt := 677) hx hb d_law_40 (by omega) (by omega) (off := 637) (by rw [hj]; rfl) (by decide) ?_
      exact law_10 (uX := uX) (uM := uM) C0 hb0 hA hAn hfl hS0 hNc hZ0 hK hP hD hS hl rfl rfl rfl rfl rfl
    · refine lv_tableIn (tgt := 733) hx hb d_law_40 (by omega) (by omega) (off := 693) (by rw [hj]; rfl) (by decide) ?_
      exact law_11 (uX := uX) (uM := uM) C0 hb0 hA hAn hfl hS0 hNc hZ0 hK hP hD hS hl rfl rfl rfl rfl rfl
    · refine lv_tableIn (tgt := 801) hx hb d_law_40 (by omega) (by omega) (off := 761) (by rw [hj]; rfl) (by decide) ?_
      exact law_12 (uX := uX) (uM := uM) C0 hb0 hA hAn hfl hS0 hNc hZ0 hK hP hD hS hl rfl rfl rfl rfl rfl
    · refine lv_tableIn (tgt := 868) hx hb d_law_40 (by omega) (by omega) (off := 828) (by rw [hj]; rfl) (by decide) ?_
      exact law_13 (uX := uX) (uM := uM) C0 hb0 hA hAn hfl hS0 hNc hZ0 hK hP hD hS hl rfl rfl rfl rfl rfl
    · refine lv_tableIn (tgt := 935) hx hb d_law_40 (by omega) (by omega) (off := 895) (by rw [hj]; rfl) (by decide) ?_
      exact law_14 (uX := uX) (uM := uM) C0 hb0 hA hAn hfl hS0 hNc hZ0 hK hP hD hS hl rfl rfl rfl rfl rfl
    · refine lv_tableIn (tgt := 990) hx hb d_law_40 (by omega) (by omega) (off := 950) (by rw [hj]; rfl) (by decide) ?_
      exact law_15 (uX := uX) (uM := uM) C0 hb0 hA hAn hfl hS0 hNc hZ0 hK hP hD hS hl rfl rfl rfl rfl rfl
    · refine lv_tableIn (tgt := 1046) hx hb d_law_40 (by omega) (by omega) (off := 1006) (by rw [hj]; rfl) (by decide) ?_
      exact law_16 (uX := uX) (uM := uM) C0 hb0 hA hAn hfl hS0 hNc hZ0 hK hP hD hS hl rfl rfl rfl rfl rfl
    · refine lv_tableIn (tgt := 1114) hx hb d_law_40 (by omega) (by omega) (off := 1074) (by rw [hj]; rfl) (by decide) ?_
      exact law_17 (uX := uX) (uM := uM) C0 hb0 hA hAn hfl hS0 hNc hZ0 hK hP hD hS hl rfl rfl rfl rfl rfl
    · refine lv_tableIn (tgt := 1170) hx hb d_law_40 (by omega) (by omega) (off := 1130) (by rw [hj]; rfl) (by decide) ?_
      exact law_18 (uX := uX) (uM := uM) C0 hb0 hA hAn hfl hS0 hNc hZ0 hK hP hD hS hl rfl rfl rfl rfl rfl
    · refine lv_tableIn (tgt := 1226) hx hb d_law_40 (by omega) (by omega) (off := 1186) (by rw [hj]; rfl) (by decide) ?_
      exact law_19 (uX := uX) (uM := uM) C0 hb0 hA hAn hfl hS0 hNc hZ0 hK hP hD hS hl rfl rfl rfl rfl rfl
    · refine lv_tableOut (tgt := 1281) hx hb d_law_40 hj (by decide) ?_
      exact law_end C0 hb0 hA hAn hS (lv_sub hl [0, 4] rfl) (by decide) (by decide)
  · refine lv_iload hx hb d_law_23 (lv_at hl 0 rfl) ?_
    refine lv_aload_n hx hb d_law_25 rfl (lv_at hl 4 rfl) ?_
    refine va_slen hx hb hX hbl hbA hS d_law_26 ?_
    refine lv_bipush (v := 6) hx hb d_law_27 (by decide) ?_
    refine lv_isub hx hb d_law_29 ?_
    refine lv_icmp_gt (tgt := 1287) hx hb d_law_30 (by decide) (fun c1 => ?_) (fun c1 => absurd (l6 L hL6) c1)
    refine lv_iconst (v := 1) hx hb d_law_1287 (by decide) ?_
    refine va_forget (fun q hq => hAn _ (hS.2.2 q hq)) ?_
    refine W.widen (k := 600002) (n := 7302232) (by decide) (by decide) ?_
    exact lw_ret hx hb hr hlocks d_law_1288
