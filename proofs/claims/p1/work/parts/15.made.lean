theorem k_oi : Cond.code objectInit ⟨#[0xb1]⟩ 1 none ∈ tt := tt_mem 290 (by decide +kernel) (by decide +kernel)
abbrev DEF_MSource : List Value := [.null, .int 0, .int 0, .int 0, .int 0, .int 0, .null, .null, .null, .null, .null, .null, .null, .null, .null, .null, .null, .null, .null, .null, .null, .null, .null, .null, .null, .int 0, .int 0, .int 0]
theorem df_MSource : ∀ j, j < 28 → defaultValue (t_MSource j) = vp_V DEF_MSource j := by decide +kernel
abbrev DEF_MTree : List Value := [.null, .null, .null, .null, .null, .null, .null, .null, .null, .null, .null, .null, .null, .null, .null, .null, .null, .null, .null, .null, .null, .null, .null, .null, .null, .null, .null, .null, .int 0, .int 0]
theorem df_MTree : ∀ j, j < 30 → defaultValue (t_MTree j) = vp_V DEF_MTree j := by decide +kernel
abbrev DEF_MSetting : List Value := [.null, .null, .null, .null, .int 0, .null, .null, .null, .int 0, .int 0, .null, .null, .null, .null, .null, .null, .null, .null, .null, .null, .null, .null, .null, .null, .null, .null, .null, .null, .null, .null, .int 0, .null, .null, .null, .null, .null, .null, .null, .null, .null, .null, .null, .int 0, .null, .null, .null, .null, .null, .null, .null, .null, .null, .null, .int 0, .int 0, .null, .null, .null, .null, .null, .null, .null, .null, .null, .null, .null, .int 0, .null, .null, .null, .null, .null, .null, .int 0, .null, .null, .null, .null, .null, .null, .null, .null, .null, .null, .null, .null, .null, .null, .int 0, .null, .null, .null, .null, .null, .int 0, .int 0, .int 0, .int 0, .int 0, .null, .int 0, .int 0, .null, .int 0, .null, .null, .null, .null, .null, .null, .null, .null, .long 0, .long 0, .long 0, .long 0, .long 0, .int 0, .int 0, .int 0, .int 0, .null, .null, .null, .null, .null, .int 0, .null, .null, .null, .null, .null, .null, .int 0, .int 0, .int 0, .int 0, .long 0, .null, .null, .null]
theorem df_MSetting : ∀ j, j < 141 → defaultValue (t_MSetting j) = vp_V DEF_MSetting j := by decide +kernel
set_option maxHeartbeats 4000000 in
set_option maxRecDepth 100000 in
/-- the SOURCE of the reference: rows made -/
theorem c_MSource_init (l : Launch) (dC : Nat → ClassId) (dI : Nat → Nat → Nat) (h0 : Nat) (fs : List Value) (sz : Nat) (hlen : fs.length = 28) : Met l y_MSource_init [w_MSource_init] ({ frames := 1, cells := 20, slots := 81720, locals := 20 }) (va_Pc [.ref h0] (pr sz (dC, dI) [(h0, .inr (11, fs))] [])) (va_Qv (fun (u : List Value) => u.length = 28) (bw (dC, dI) (va_A [(h0, .inr (11, fs))] sz) (fun u : List Value => [(h0, .inr (11, u))]) (fun u : List Value => [])) (va_A [(h0, .inr (11, fs))] sz)) 20 81720 (va_A [(h0, .inr (11, fs))] sz) := by
  refine Met.ofW (cc := b_MSource_init) (maxL := 1) (ret := none) (by decide) rfl ?_
  intro p e s m args below meth c s₁ B hml hv
  obtain ⟨rfl, hsz, hb0, hP, hK, hD0⟩ := hv
  have hx := B.exec
  have hb := B.bytes
  have hr := B.returns
  have hts : ∀ wq ∈ tt, wq.before ([.ref h0] : List Value).toArray s = true := hb0.hts
  have hown : s.vm.findClass "ScholarsPressModel$Source" = some m.cls := findClass_of_methodNamed B.named
  have hlocks := B.notSynchronized
  have hin : meth.name = "<init>" := (name_of_methodNamed B.named B.method).1
  subst hsz
  have hD := hD0.self (sz := s.heap.size)
  generalize hAe : va_A [(h0, .inr (11, fs))] s.heap.size = A at hD ⊢
  have hA : ∀ q : Nat, s.heap.size ≤ q → A q := fun q h => by rw [← hAe]; exact Or.inr h
  have hS : va_S A s.heap s.heap [] := va_S.rf
  have hP : va_P (dC, dI) classes [(h0, .inr (11, fs))] s.heap := hP
  have hl := lv_entry ([.ref h0]) (n := 1) (Nat.le_of_ble_eq_true rfl)
  rw [lg_entry_eq]
  generalize (lg_sl ([.ref h0]) ++ List.replicate (1 - (lg_sl ([.ref h0])).length) Slot.unset).toArray = ls at hl ⊢
  have hl : lv_has ls 1 [(0, .ref h0)] := hl
  refine lv_aload_n hx hb d_MSource_init_0 rfl (lv_at hl 0 rfl) ?_
  refine W.objInit hx hb hown (hts (.methodLink "ScholarsPressModel$Source" 3 objectInit) k_2959) (hts (.instanceMethod objectInit) k_289) (hts _ k_oi) rfl (by rw [hml]; exact hl.1) rfl d_MSource_init_1 (Nat.le_of_ble_eq_true rfl) (Nat.le_of_ble_eq_true rfl) ?_
  refine W.eq (g2 := F0 m 4 ls []) rfl ?_
  refine lv_aload_n hx hb d_MSource_init_4 rfl (lv_at hl 0 rfl) ?_
  refine lv_sipush (v := 16384) hx hb d_MSource_init_5 (by decide) ?_
  refine ca_np (n := 16384) (Nn := 16384) (a0 := (16384, .inl (fun _ => 0))) (q0 := 0) (ci := 11) (k := 0) (C := "ScholarsPressModel$Source") (T := F_MSource) (N := 28) hx hb hts in_MSource t_MSource t_MSource_ok n_MSource hown k_338 rfl hK hP hD hS hA rfl hlen rfl (by decide) (hts (.fieldLink "ScholarsPressModel$Source" 9 "ScholarsPressModel$Source" "text" "[B") k_2960) (fun _ h9 => h9) rfl hin rfl (by decide +kernel) (fun _ => rfl) (by decide) (by decide) (by decide) (Nat.le_of_ble_eq_true rfl) (Nat.le_of_ble_eq_true rfl) d_MSource_init_8 d_MSource_init_10 (fun q_1 H locs hP hD hS => ?_)
  obtain ⟨fs_2, efs_2⟩ : ∃ z, z = fs.set 0 (.ref q_1) := ⟨_, rfl⟩
  have hlen : fs_2.length = 28 := by rw [efs_2, List.length_set]; exact hlen
  have hP : va_P (dC, dI) classes [(h0, .inr (11, fs_2))] H := by rw [efs_2]; exact hP
  have hD : va_D A [(h0, .inr (11, fs_2))] := by rw [efs_2]; exact hD
  refine lv_aload_n hx hb d_MSource_init_13 rfl (lv_at hl 0 rfl) ?_
  refine lv_sipush (v := 16392) hx hb d_MSource_init_14 (by decide) ?_
  refine ca_np (n := 16392) (Nn := 16392) (a0 := (16392, .inl (fun _ => 0))) (q0 := 0) (ci := 11) (k := 6) (C := "ScholarsPressModel$Source") (T := F_MSource) (N := 28) hx hb hts in_MSource t_MSource t_MSource_ok n_MSource hown k_408 rfl hK hP hD hS hA rfl hlen rfl (by decide) (hts (.fieldLink "ScholarsPressModel$Source" 15 "ScholarsPressModel$Source" "item" "[I") k_2977) (fun _ h9 => h9) rfl hin rfl (by decide +kernel) (fun _ => rfl) (by decide) (by decide) (by decide) (Nat.le_of_ble_eq_true rfl) (Nat.le_of_ble_eq_true rfl) d_MSource_init_17 d_MSource_init_19 (fun q_3 H locs hP hD hS => ?_)
  obtain ⟨fs_4, efs_4⟩ : ∃ z, z = fs_2.set 6 (.ref q_3) := ⟨_, rfl⟩
  have hlen : fs_4.length = 28 := by rw [efs_4, List.length_set]; exact hlen
  have hP : va_P (dC, dI) classes [(h0, .inr (11, fs_4))] H := by rw [efs_4]; exact hP
  have hD : va_D A [(h0, .inr (11, fs_4))] := by rw [efs_4]; exact hD
  refine lv_aload_n hx hb d_MSource_init_22 rfl (lv_at hl 0 rfl) ?_
  refine lv_sipush (v := 16392) hx hb d_MSource_init_23 (by decide) ?_
  refine ca_np (n := 16392) (Nn := 16392) (a0 := (16392, .inl (fun _ => 0))) (q0 := 0) (ci := 11) (k := 7) (C := "ScholarsPressModel$Source") (T := F_MSource) (N := 28) hx hb hts in_MSource t_MSource t_MSource_ok n_MSource hown k_408 rfl hK hP hD hS hA rfl hlen rfl (by decide) (hts (.fieldLink "ScholarsPressModel$Source" 19 "ScholarsPressModel$Source" "itemA" "[I") k_2980) (fun _ h9 => h9) rfl hin rfl (by decide +kernel) (fun _ => rfl) (by decide) (by decide) (by decide) (Nat.le_of_ble_eq_true rfl) (Nat.le_of_ble_eq_true rfl) d_MSource_init_26 d_MSource_init_28 (fun q_5 H locs hP hD hS => ?_)
  obtain ⟨fs_6, efs_6⟩ : ∃ z, z = fs_4.set 7 (.ref q_5) := ⟨_, rfl⟩
  have hlen : fs_6.length = 28 := by rw [efs_6, List.length_set]; exact hlen
  have hP : va_P (dC, dI) classes [(h0, .inr (11, fs_6))] H := by rw [efs_6]; exact hP
  have hD : va_D A [(h0, .inr (11, fs_6))] := by rw [efs_6]; exact hD
  refine lv_aload_n hx hb d_MSource_init_31 rfl (lv_at hl 0 rfl) ?_
  refine lv_sipush (v := 16392) hx hb d_MSource_init_32 (by decide) ?_
  refine ca_np (n := 16392) (Nn := 16392) (a0 := (16392, .inl (fun _ => 0))) (q0 := 0) (ci := 11) (k := 8) (C := "ScholarsPressModel$Source") (T := F_MSource) (N := 28) hx hb hts in_MSource t_MSource t_MSource_ok n_MSource hown k_408 rfl hK hP hD hS hA rfl hlen rfl (by decide) (hts (.fieldLink "ScholarsPressModel$Source" 22 "ScholarsPressModel$Source" "itemB" "[I") k_2983) (fun _ h9 => h9) rfl hin rfl (by decide +kernel) (fun _ => rfl) (by decide) (by decide) (by decide) (Nat.le_of_ble_eq_true rfl) (Nat.le_of_ble_eq_true rfl) d_MSource_init_35 d_MSource_init_37 (fun q_7 H locs hP hD hS => ?_)
  obtain ⟨fs_8, efs_8⟩ : ∃ z, z = fs_6.set 8 (.ref q_7) := ⟨_, rfl⟩
  have hlen : fs_8.length = 28 := by rw [efs_8, List.length_set]; exact hlen
  have hP : va_P (dC, dI) classes [(h0, .inr (11, fs_8))] H := by rw [efs_8]; exact hP
  have hD : va_D A [(h0, .inr (11, fs_8))] := by rw [efs_8]; exact hD
  refine lv_aload_n hx hb d_MSource_init_40 rfl (lv_at hl 0 rfl) ?_
  refine lv_sipush (v := 500) hx hb d_MSource_init_41 (by decide) ?_
  refine ca_np (n := 500) (Nn := 500) (a0 := (500, .inl (fun _ => 0))) (q0 := 0) (ci := 11) (k := 9) (C := "ScholarsPressModel$Source") (T := F_MSource) (N := 28) hx hb hts in_MSource t_MSource t_MSource_ok n_MSource hown k_408 rfl hK hP hD hS hA rfl hlen rfl (by decide) (hts (.fieldLink "ScholarsPressModel$Source" 25 "ScholarsPressModel$Source" "from" "[I") k_2986) (fun _ h9 => h9) rfl hin rfl (by decide +kernel) (fun _ => rfl) (by decide) (by decide) (by decide) (Nat.le_of_ble_eq_true rfl) (Nat.le_of_ble_eq_true rfl) d_MSource_init_44 d_MSource_init_46 (fun q_9 H locs hP hD hS => ?_)
  obtain ⟨fs_10, efs_10⟩ : ∃ z, z = fs_8.set 9 (.ref q_9) := ⟨_, rfl⟩
  have hlen : fs_10.length = 28 := by rw [efs_10, List.length_set]; exact hlen
  have hP : va_P (dC, dI) classes [(h0, .inr (11, fs_10))] H := by rw [efs_10]; exact hP
  have hD : va_D A [(h0, .inr (11, fs_10))] := by rw [efs_10]; exact hD
  refine lv_aload_n hx hb d_MSource_init_49 rfl (lv_at hl 0 rfl) ?_
  refine lv_sipush (v := 500) hx hb d_MSource_init_50 (by decide) ?_
  refine ca_np (n := 500) (Nn := 500) (a0 := (500, .inl (fun _ => 0))) (q0 := 0) (ci := 11) (k := 10) (C := "ScholarsPressModel$Source") (T := F_MSource) (N := 28) hx hb hts in_MSource t_MSource t_MSource_ok n_MSource hown k_408 rfl hK hP hD hS hA rfl hlen rfl (by decide) (hts (.fieldLink "ScholarsPressModel$Source" 28 "ScholarsPressModel$Source" "to" "[I") k_2988) (fun _ h9 => h9) rfl hin rfl (by decide +kernel) (fun _ => rfl) (by decide) (by decide) (by decide) (Nat.le_of_ble_eq_true rfl) (Nat.le_of_ble_eq_true rfl) d_MSource_init_53 d_MSource_init_55 (fun q_11 H locs hP hD hS => ?_)
  obtain ⟨fs_12, efs_12⟩ : ∃ z, z = fs_10.set 10 (.ref q_11) := ⟨_, rfl⟩
  have hlen : fs_12.length = 28 := by rw [efs_12, List.length_set]; exact hlen
  have hP : va_P (dC, dI) classes [(h0, .inr (11, fs_12))] H := by rw [efs_12]; exact hP
  have hD : va_D A [(h0, .inr (11, fs_12))] := by rw [efs_12]; exact hD
  refine lv_aload_n hx hb d_MSource_init_58 rfl (lv_at hl 0 rfl) ?_
  refine lv_sipush (v := 500) hx hb d_MSource_init_59 (by decide) ?_
  refine ca_np (n := 500) (Nn := 500) (a0 := (500, .inl (fun _ => 0))) (q0 := 0) (ci := 11) (k := 11) (C := "ScholarsPressModel$Source") (T := F_MSource) (N := 28) hx hb hts in_MSource t_MSource t_MSource_ok n_MSource hown k_408 rfl hK hP hD hS hA rfl hlen rfl (by decide) (hts (.fieldLink "ScholarsPressModel$Source" 31 "ScholarsPressModel$Source" "parent" "[I") k_2990) (fun _ h9 => h9) rfl hin rfl (by decide +kernel) (fun _ => rfl) (by decide) (by decide) (by decide) (Nat.le_of_ble_eq_true rfl) (Nat.le_of_ble_eq_true rfl) d_MSource_init_62 d_MSource_init_64 (fun q_13 H locs hP hD hS => ?_)
  obtain ⟨fs_14, efs_14⟩ : ∃ z, z = fs_12.set 11 (.ref q_13) := ⟨_, rfl⟩
  have hlen : fs_14.length = 28 := by rw [efs_14, List.length_set]; exact hlen
  have hP : va_P (dC, dI) classes [(h0, .inr (11, fs_14))] H := by rw [efs_14]; exact hP
  have hD : va_D A [(h0, .inr (11, fs_14))] := by rw [efs_14]; exact hD
  refine lv_aload_n hx hb d_MSource_init_67 rfl (lv_at hl 0 rfl) ?_
  refine lv_sipush (v := 500) hx hb d_MSource_init_68 (by decide) ?_
  refine ca_np (n := 500) (Nn := 500) (a0 := (500, .inl (fun _ => 0))) (q0 := 0) (ci := 11) (k := 12) (C := "ScholarsPressModel$Source") (T := F_MSource) (N := 28) hx hb hts in_MSource t_MSource t_MSource_ok n_MSource hown k_408 rfl hK hP hD hS hA rfl hlen rfl (by decide) (hts (.fieldLink "ScholarsPressModel$Source" 34 "ScholarsPressModel$Source" "name" "[I") k_2994) (fun _ h9 => h9) rfl hin rfl (by decide +kernel) (fun _ => rfl) (by decide) (by decide) (by decide) (Nat.le_of_ble_eq_true rfl) (Nat.le_of_ble_eq_true rfl) d_MSource_init_71 d_MSource_init_73 (fun q_15 H locs hP hD hS => ?_)
  obtain ⟨fs_16, efs_16⟩ : ∃ z, z = fs_14.set 12 (.ref q_15) := ⟨_, rfl⟩
  have hlen : fs_16.length = 28 := by rw [efs_16, List.length_set]; exact hlen
  have hP : va_P (dC, dI) classes [(h0, .inr (11, fs_16))] H := by rw [efs_16]; exact hP
  have hD : va_D A [(h0, .inr (11, fs_16))] := by rw [efs_16]; exact hD
  refine lv_aload_n hx hb d_MSource_init_76 rfl (lv_at hl 0 rfl) ?_
  refine lv_sipush (v := 500) hx hb d_MSource_init_77 (by decide) ?_
  refine ca_np (n := 500) (Nn := 500) (a0 := (500, .inl (fun _ => 0))) (q0 := 0) (ci := 11) (k := 13) (C := "ScholarsPressModel$Source") (T := F_MSource) (N := 28) hx hb hts in_MSource t_MSource t_MSource_ok n_MSource hown k_408 rfl hK hP hD hS hA rfl hlen rfl (by decide) (hts (.fieldLink "ScholarsPressModel$Source" 37 "ScholarsPressModel$Source" "nameEnd" "[I") k_2996) (fun _ h9 => h9) rfl hin rfl (by decide +kernel) (fun _ => rfl) (by decide) (by decide) (by decide) (Nat.le_of_ble_eq_true rfl) (Nat.le_of_ble_eq_true rfl) d_MSource_init_80 d_MSource_init_82 (fun q_17 H locs hP hD hS => ?_)
  obtain ⟨fs_18, efs_18⟩ : ∃ z, z = fs_16.set 13 (.ref q_17) := ⟨_, rfl⟩
  have hlen : fs_18.length = 28 := by rw [efs_18, List.length_set]; exact hlen
  have hP : va_P (dC, dI) classes [(h0, .inr (11, fs_18))] H := by rw [efs_18]; exact hP
  have hD : va_D A [(h0, .inr (11, fs_18))] := by rw [efs_18]; exact hD
  refine lv_aload_n hx hb d_MSource_init_85 rfl (lv_at hl 0 rfl) ?_
  refine lv_sipush (v := 500) hx hb d_MSource_init_86 (by decide) ?_
  refine ca_np (n := 500) (Nn := 500) (a0 := (500, .inl (fun _ => 0))) (q0 := 0) (ci := 11) (k := 14) (C := "ScholarsPressModel$Source") (T := F_MSource) (N := 28) hx hb hts in_MSource t_MSource t_MSource_ok n_MSource hown k_408 rfl hK hP hD hS hA rfl hlen rfl (by decide) (hts (.fieldLink "ScholarsPressModel$Source" 40 "ScholarsPressModel$Source" "fields" "[I") k_2998) (fun _ h9 => h9) rfl hin rfl (by decide +kernel) (fun _ => rfl) (by decide) (by decide) (by decide) (Nat.le_of_ble_eq_true rfl) (Nat.le_of_ble_eq_true rfl) d_MSource_init_89 d_MSource_init_91 (fun q_19 H locs hP hD hS => ?_)
  obtain ⟨fs_20, efs_20⟩ : ∃ z, z = fs_18.set 14 (.ref q_19) := ⟨_, rfl⟩
  have hlen : fs_20.length = 28 := by rw [efs_20, List.length_set]; exact hlen
  have hP : va_P (dC, dI) classes [(h0, .inr (11, fs_20))] H := by rw [efs_20]; exact hP
  have hD : va_D A [(h0, .inr (11, fs_20))] := by rw [efs_20]; exact hD
  refine lv_aload_n hx hb d_MSource_init_94 rfl (lv_at hl 0 rfl) ?_
  refine lv_sipush (v := 500) hx hb d_MSource_init_95 (by decide) ?_
  refine ca_np (n := 500) (Nn := 500) (a0 := (500, .inl (fun _ => 0))) (q0 := 0) (ci := 11) (k := 15) (C := "ScholarsPressModel$Source") (T := F_MSource) (N := 28) hx hb hts in_MSource t_MSource t_MSource_ok n_MSource hown k_408 rfl hK hP hD hS hA rfl hlen rfl (by decide) (hts (.fieldLink "ScholarsPressModel$Source" 43 "ScholarsPressModel$Source" "begin" "[I") k_3000) (fun _ h9 => h9) rfl hin rfl (by decide +kernel) (fun _ => rfl) (by decide) (by decide) (by decide) (Nat.le_of_ble_eq_true rfl) (Nat.le_of_ble_eq_true rfl) d_MSource_init_98 d_MSource_init_100 (fun q_21 H locs hP hD hS => ?_)
  obtain ⟨fs_22, efs_22⟩ : ∃ z, z = fs_20.set 15 (.ref q_21) := ⟨_, rfl⟩
  have hlen : fs_22.length = 28 := by rw [efs_22, List.length_set]; exact hlen
  have hP : va_P (dC, dI) classes [(h0, .inr (11, fs_22))] H := by rw [efs_22]; exact hP
  have hD : va_D A [(h0, .inr (11, fs_22))] := by rw [efs_22]; exact hD
  refine lv_aload_n hx hb d_MSource_init_103 rfl (lv_at hl 0 rfl) ?_
  refine lv_sipush (v := 500) hx hb d_MSource_init_104 (by decide) ?_
  refine ca_np (n := 500) (Nn := 500) (a0 := (500, .inl (fun _ => 0))) (q0 := 0) (ci := 11) (k := 16) (C := "ScholarsPressModel$Source") (T := F_MSource) (N := 28) hx hb hts in_MSource t_MSource t_MSource_ok n_MSource hown k_408 rfl hK hP hD hS hA rfl hlen rfl (by decide) (hts (.fieldLink "ScholarsPressModel$Source" 46 "ScholarsPressModel$Source" "end" "[I") k_3003) (fun _ h9 => h9) rfl hin rfl (by decide +kernel) (fun _ => rfl) (by decide) (by decide) (by decide) (Nat.le_of_ble_eq_true rfl) (Nat.le_of_ble_eq_true rfl) d_MSource_init_107 d_MSource_init_109 (fun q_23 H locs hP hD hS => ?_)
  obtain ⟨fs_24, efs_24⟩ : ∃ z, z = fs_22.set 16 (.ref q_23) := ⟨_, rfl⟩
  have hlen : fs_24.length = 28 := by rw [efs_24, List.length_set]; exact hlen
  have hP : va_P (dC, dI) classes [(h0, .inr (11, fs_24))] H := by rw [efs_24]; exact hP
  have hD : va_D A [(h0, .inr (11, fs_24))] := by rw [efs_24]; exact hD
  refine lv_aload_n hx hb d_MSource_init_112 rfl (lv_at hl 0 rfl) ?_
  refine lv_sipush (v := 3000) hx hb d_MSource_init_113 (by decide) ?_
  refine ca_np (n := 3000) (Nn := 3000) (a0 := (3000, .inl (fun _ => 0))) (q0 := 0) (ci := 11) (k := 17) (C := "ScholarsPressModel$Source") (T := F_MSource) (N := 28) hx hb hts in_MSource t_MSource t_MSource_ok n_MSource hown k_408 rfl hK hP hD hS hA rfl hlen rfl (by decide) (hts (.fieldLink "ScholarsPressModel$Source" 49 "ScholarsPressModel$Source" "field" "[I") k_3006) (fun _ h9 => h9) rfl hin rfl (by decide +kernel) (fun _ => rfl) (by decide) (by decide) (by decide) (Nat.le_of_ble_eq_true rfl) (Nat.le_of_ble_eq_true rfl) d_MSource_init_116 d_MSource_init_118 (fun q_25 H locs hP hD hS => ?_)
  obtain ⟨fs_26, efs_26⟩ : ∃ z, z = fs_24.set 17 (.ref q_25) := ⟨_, rfl⟩
  have hlen : fs_26.length = 28 := by rw [efs_26, List.length_set]; exact hlen
  have hP : va_P (dC, dI) classes [(h0, .inr (11, fs_26))] H := by rw [efs_26]; exact hP
  have hD : va_D A [(h0, .inr (11, fs_26))] := by rw [efs_26]; exact hD
  refine lv_aload_n hx hb d_MSource_init_121 rfl (lv_at hl 0 rfl) ?_
  refine lv_sipush (v := 3000) hx hb d_MSource_init_122 (by decide) ?_
  refine ca_np (n := 3000) (Nn := 3000) (a0 := (3000, .inl (fun _ => 0))) (q0 := 0) (ci := 11) (k := 18) (C := "ScholarsPressModel$Source") (T := F_MSource) (N := 28) hx hb hts in_MSource t_MSource t_MSource_ok n_MSource hown k_408 rfl hK hP hD hS hA rfl hlen rfl (by decide) (hts (.fieldLink "ScholarsPressModel$Source" 52 "ScholarsPressModel$Source" "fieldEnd" "[I") k_3007) (fun _ h9 => h9) rfl hin rfl (by decide +kernel) (fun _ => rfl) (by decide) (by decide) (by decide) (Nat.le_of_ble_eq_true rfl) (Nat.le_of_ble_eq_true rfl) d_MSource_init_125 d_MSource_init_127 (fun q_27 H locs hP hD hS => ?_)
  obtain ⟨fs_28, efs_28⟩ : ∃ z, z = fs_26.set 18 (.ref q_27) := ⟨_, rfl⟩
  have hlen : fs_28.length = 28 := by rw [efs_28, List.length_set]; exact hlen
  have hP : va_P (dC, dI) classes [(h0, .inr (11, fs_28))] H := by rw [efs_28]; exact hP
  have hD : va_D A [(h0, .inr (11, fs_28))] := by rw [efs_28]; exact hD
  refine lv_aload_n hx hb d_MSource_init_130 rfl (lv_at hl 0 rfl) ?_
  refine lv_sipush (v := 3000) hx hb d_MSource_init_131 (by decide) ?_
  refine ca_np (n := 3000) (Nn := 3000) (a0 := (3000, .inl (fun _ => 0))) (q0 := 0) (ci := 11) (k := 19) (C := "ScholarsPressModel$Source") (T := F_MSource) (N := 28) hx hb hts in_MSource t_MSource t_MSource_ok n_MSource hown k_408 rfl hK hP hD hS hA rfl hlen rfl (by decide) (hts (.fieldLink "ScholarsPressModel$Source" 55 "ScholarsPressModel$Source" "string" "[I") k_3008) (fun _ h9 => h9) rfl hin rfl (by decide +kernel) (fun _ => rfl) (by decide) (by decide) (by decide) (Nat.le_of_ble_eq_true rfl) (Nat.le_of_ble_eq_true rfl) d_MSource_init_134 d_MSource_init_136 (fun q_29 H locs hP hD hS => ?_)
  obtain ⟨fs_30, efs_30⟩ : ∃ z, z = fs_28.set 19 (.ref q_29) := ⟨_, rfl⟩
  have hlen : fs_30.length = 28 := by rw [efs_30, List.length_set]; exact hlen
  have hP : va_P (dC, dI) classes [(h0, .inr (11, fs_30))] H := by rw [efs_30]; exact hP
  have hD : va_D A [(h0, .inr (11, fs_30))] := by rw [efs_30]; exact hD
  refine lv_aload_n hx hb d_MSource_init_139 rfl (lv_at hl 0 rfl) ?_
  refine lv_sipush (v := 3000) hx hb d_MSource_init_140 (by decide) ?_
  refine ca_np (n := 3000) (Nn := 3000) (a0 := (3000, .inl (fun _ => 0))) (q0 := 0) (ci := 11) (k := 20) (C := "ScholarsPressModel$Source") (T := F_MSource) (N := 28) hx hb hts in_MSource t_MSource t_MSource_ok n_MSource hown k_408 rfl hK hP hD hS hA rfl hlen rfl (by decide) (hts (.fieldLink "ScholarsPressModel$Source" 58 "ScholarsPressModel$Source" "stringEnd" "[I") k_3011) (fun _ h9 => h9) rfl hin rfl (by decide +kernel) (fun _ => rfl) (by decide) (by decide) (by decide) (Nat.le_of_ble_eq_true rfl) (Nat.le_of_ble_eq_true rfl) d_MSource_init_143 d_MSource_init_145 (fun q_31 H locs hP hD hS => ?_)
  obtain ⟨fs_32, efs_32⟩ : ∃ z, z = fs_30.set 20 (.ref q_31) := ⟨_, rfl⟩
  have hlen : fs_32.length = 28 := by rw [efs_32, List.length_set]; exact hlen
  have hP : va_P (dC, dI) classes [(h0, .inr (11, fs_32))] H := by rw [efs_32]; exact hP
  have hD : va_D A [(h0, .inr (11, fs_32))] := by rw [efs_32]; exact hD
  refine lv_aload_n hx hb d_MSource_init_148 rfl (lv_at hl 0 rfl) ?_
  refine lv_bipush (v := 40) hx hb d_MSource_init_149 (by decide) ?_
  refine ca_np (n := 40) (Nn := 40) (a0 := (40, .inl (fun _ => 0))) (q0 := 0) (ci := 11) (k := 21) (C := "ScholarsPressModel$Source") (T := F_MSource) (N := 28) hx hb hts in_MSource t_MSource t_MSource_ok n_MSource hown k_408 rfl hK hP hD hS hA rfl hlen rfl (by decide) (hts (.fieldLink "ScholarsPressModel$Source" 61 "ScholarsPressModel$Source" "entity" "[I") k_3014) (fun _ h9 => h9) rfl hin rfl (by decide +kernel) (fun _ => rfl) (by decide) (by decide) (by decide) (Nat.le_of_ble_eq_true rfl) (Nat.le_of_ble_eq_true rfl) d_MSource_init_151 d_MSource_init_153 (fun q_33 H locs hP hD hS => ?_)
  obtain ⟨fs_34, efs_34⟩ : ∃ z, z = fs_32.set 21 (.ref q_33) := ⟨_, rfl⟩
  have hlen : fs_34.length = 28 := by rw [efs_34, List.length_set]; exact hlen
  have hP : va_P (dC, dI) classes [(h0, .inr (11, fs_34))] H := by rw [efs_34]; exact hP
  have hD : va_D A [(h0, .inr (11, fs_34))] := by rw [efs_34]; exact hD
  refine lv_aload_n hx hb d_MSource_init_156 rfl (lv_at hl 0 rfl) ?_
  refine lv_bipush (v := 40) hx hb d_MSource_init_157 (by decide) ?_
  refine ca_np (n := 40) (Nn := 40) (a0 := (40, .inl (fun _ => 0))) (q0 := 0) (ci := 11) (k := 22) (C := "ScholarsPressModel$Source") (T := F_MSource) (N := 28) hx hb hts in_MSource t_MSource t_MSource_ok n_MSource hown k_408 rfl hK hP hD hS hA rfl hlen rfl (by decide) (hts (.fieldLink "ScholarsPressModel$Source" 64 "ScholarsPressModel$Source" "entityEnd" "[I") k_3015) (fun _ h9 => h9) rfl hin rfl (by decide +kernel) (fun _ => rfl) (by decide) (by decide) (by decide) (Nat.le_of_ble_eq_true rfl) (Nat.le_of_ble_eq_true rfl) d_MSource_init_159 d_MSource_init_161 (fun q_35 H locs hP hD hS => ?_)
  obtain ⟨fs_36, efs_36⟩ : ∃ z, z = fs_34.set 22 (.ref q_35) := ⟨_, rfl⟩
  have hlen : fs_36.length = 28 := by rw [efs_36, List.length_set]; exact hlen
  have hP : va_P (dC, dI) classes [(h0, .inr (11, fs_36))] H := by rw [efs_36]; exact hP
  have hD : va_D A [(h0, .inr (11, fs_36))] := by rw [efs_36]; exact hD
  refine lv_aload_n hx hb d_MSource_init_164 rfl (lv_at hl 0 rfl) ?_
  refine lv_bipush (v := 40) hx hb d_MSource_init_165 (by decide) ?_
  refine ca_np (n := 40) (Nn := 40) (a0 := (40, .inl (fun _ => 0))) (q0 := 0) (ci := 11) (k := 23) (C := "ScholarsPressModel$Source") (T := F_MSource) (N := 28) hx hb hts in_MSource t_MSource t_MSource_ok n_MSource hown k_408 rfl hK hP hD hS hA rfl hlen rfl (by decide) (hts (.fieldLink "ScholarsPressModel$Source" 67 "ScholarsPressModel$Source" "entityText" "[I") k_3016) (fun _ h9 => h9) rfl hin rfl (by decide +kernel) (fun _ => rfl) (by decide) (by decide) (by decide) (Nat.le_of_ble_eq_true rfl) (Nat.le_of_ble_eq_true rfl) d_MSource_init_167 d_MSource_init_169 (fun q_37 H locs hP hD hS => ?_)
  obtain ⟨fs_38, efs_38⟩ : ∃ z, z = fs_36.set 23 (.ref q_37) := ⟨_, rfl⟩
  have hlen : fs_38.length = 28 := by rw [efs_38, List.length_set]; exact hlen
  have hP : va_P (dC, dI) classes [(h0, .inr (11, fs_38))] H := by rw [efs_38]; exact hP
  have hD : va_D A [(h0, .inr (11, fs_38))] := by rw [efs_38]; exact hD
  refine lv_aload_n hx hb d_MSource_init_172 rfl (lv_at hl 0 rfl) ?_
  refine lv_bipush (v := 40) hx hb d_MSource_init_173 (by decide) ?_
  refine ca_np (n := 40) (Nn := 40) (a0 := (40, .inl (fun _ => 0))) (q0 := 0) (ci := 11) (k := 24) (C := "ScholarsPressModel$Source") (T := F_MSource) (N := 28) hx hb hts in_MSource t_MSource t_MSource_ok n_MSource hown k_408 rfl hK hP hD hS hA rfl hlen rfl (by decide) (hts (.fieldLink "ScholarsPressModel$Source" 70 "ScholarsPressModel$Source" "entityTextEnd" "[I") k_3017) (fun _ h9 => h9) rfl hin rfl (by decide +kernel) (fun _ => rfl) (by decide) (by decide) (by decide) (Nat.le_of_ble_eq_true rfl) (Nat.le_of_ble_eq_true rfl) d_MSource_init_175 d_MSource_init_177 (fun q_39 H locs hP hD hS => ?_)
  obtain ⟨fs_40, efs_40⟩ : ∃ z, z = fs_38.set 24 (.ref q_39) := ⟨_, rfl⟩
  have hlen : fs_40.length = 28 := by rw [efs_40, List.length_set]; exact hlen
  have hP : va_P (dC, dI) classes [(h0, .inr (11, fs_40))] H := by rw [efs_40]; exact hP
  have hD : va_D A [(h0, .inr (11, fs_40))] := by rw [efs_40]; exact hD
  have hP9 := hP.sub (ws' := [(h0, .inr (11, fs_40))]) [0] rfl
  have hD9 := hD.sub (ws' := [(h0, .inr (11, fs_40))]) [0] (by decide) rfl
  have hK9 := hK.sub (tys' := []) [] rfl
  exact W.vret hx hb hr (fun t ht hW => ⟨⟨fs_40, rfl, hlen, by rw [ht]; exact hP9, va_K.moved hW.alike hK9, hD9⟩, hS.F ht⟩) hS.2.2 d_MSource_init_180
set_option maxHeartbeats 4000000 in
set_option maxRecDepth 100000 in
/-- Tree: rows made -/
theorem c_MTree_init (l : Launch) (dC : Nat → ClassId) (dI : Nat → Nat → Nat) (h0 : Nat) (fs : List Value) (sz : Nat) (hlen : fs.length = 30) : Met l y_MTree_init [w_MTree_init] ({ frames := 2, cells := 48, slots := 129763, locals := 40 }) (va_Pc [.ref h0] (pr sz (dC, dI) [(h0, .inr (12, fs))] [])) (va_Qv (fun (u : List Value) => u.length = 30) (bw (dC, dI) (va_A [(h0, .inr (12, fs))] sz) (fun u : List Value => [(h0, .inr (12, u))]) (fun u : List Value => [])) (va_A [(h0, .inr (12, fs))] sz)) 48 129763 (va_A [(h0, .inr (12, fs))] sz) := by
  refine Met.ofW (cc := b_MTree_init) (maxL := 1) (ret := none) (by decide) rfl ?_
  intro p e s m args below meth c s₁ B hml hv
  obtain ⟨rfl, hsz, hb0, hP, hK, hD0⟩ := hv
  have hx := B.exec
  have hb := B.bytes
  have hr := B.returns
  have hts : ∀ wq ∈ tt, wq.before ([.ref h0] : List Value).toArray s = true := hb0.hts
  have hown : s.vm.findClass "ScholarsPressModel$Tree" = some m.cls := findClass_of_methodNamed B.named
  have hlocks := B.notSynchronized
  have hin : meth.name = "<init>" := (name_of_methodNamed B.named B.method).1
  subst hsz
  have hD := hD0.self (sz := s.heap.size)
  generalize hAe : va_A [(h0, .inr (12, fs))] s.heap.size = A at hD ⊢
  have hA : ∀ q : Nat, s.heap.size ≤ q → A q := fun q h => by rw [← hAe]; exact Or.inr h
  have hS : va_S A s.heap s.heap [] := va_S.rf
  have hP : va_P (dC, dI) classes [(h0, .inr (12, fs))] s.heap := hP
  have hl := lv_entry ([.ref h0]) (n := 1) (Nat.le_of_ble_eq_true rfl)
  rw [lg_entry_eq]
  generalize (lg_sl ([.ref h0]) ++ List.replicate (1 - (lg_sl ([.ref h0])).length) Slot.unset).toArray = ls at hl ⊢
  have hl : lv_has ls 1 [(0, .ref h0)] := hl
  refine lv_aload_n hx hb d_MTree_init_0 rfl (lv_at hl 0 rfl) ?_
  refine W.objInit hx hb hown (hts (.methodLink "ScholarsPressModel$Tree" 3 objectInit) k_3083) (hts (.instanceMethod objectInit) k_289) (hts _ k_oi) rfl (by rw [hml]; exact hl.1) rfl d_MTree_init_1 (Nat.le_of_ble_eq_true rfl) (Nat.le_of_ble_eq_true rfl) ?_
  refine W.eq (g2 := F0 m 4 ls []) rfl ?_
  refine lv_aload_n hx hb d_MTree_init_4 rfl (lv_at hl 0 rfl) ?_
  refine va_new (D := (dC, dI)) (ci := 11) (fs := DEF_MSource) (C := "ScholarsPressModel$Source") (T := F_MSource) (N := 28) hx hb hts in_MSource t_MSource t_MSource_ok hown (hts (.classLink "ScholarsPressModel$Tree" 9 "ScholarsPressModel$Source") k_3084) (hts (.instantiable "ScholarsPressModel$Source" 28) k_2955) (hts (.initialized "ScholarsPressModel$Source") k_252) hK hP hD hS hA rfl df_MSource (Nat.le_of_ble_eq_true rfl) (Nat.le_of_ble_eq_true rfl) d_MTree_init_5 (fun q_1 H hP hD hS => ?_)
  have hP : va_P (dC, dI) classes [(h0, .inr (12, fs)), (q_1, .inr (11, DEF_MSource))] H := hP
  have hD : va_D A [(h0, .inr (12, fs)), (q_1, .inr (11, DEF_MSource))] := hD
  refine lv_dup hx hb d_MTree_init_8 rfl ?_
  refine vi_v (wc := [(q_1, .inr (11, DEF_MSource))]) (wr := [(h0, .inr (12, fs))]) (va_runIN (As := []) (rest := [.ref q_1, .ref h0]) ⟨hx, hb, hml, hown, hts⟩ (c_MSource_init l dC dI q_1 DEF_MSource H.size rfl) (⟨va_cnB (host := "ScholarsPressModel") 0 hts (tt_1 kw_MSource_init rfl) rfl rfl rfl (va_Nw.of rfl (hts _ k_3085)) (hts _ k_252) (by decide +kernel) ⟨Nat.le_of_ble_eq_true rfl, Nat.le_of_ble_eq_true rfl⟩, rfl, hts _ k_2957⟩) ⟨pr_blind, pr_pre hb0 (hP.sub [1] rfl) (hK.sub [] rfl) (hD.sub [1] (by decide) rfl)⟩ rfl rfl hl.1 rfl (lv_room (Nat.le_of_ble_eq_true rfl)) d_MTree_init_9 ⟨Nat.le_of_ble_eq_true rfl, Nat.le_of_ble_eq_true rfl⟩) hP hD hK hS hA [1] [0] rfl rfl (by decide) (by decide) (fun u H locs hw hP hK hD hS => ?_)
  have hP : va_P (dC, dI) classes [(h0, .inr (12, fs)), (q_1, .inr (11, u))] H := hP
  have hD : va_D A [(h0, .inr (12, fs)), (q_1, .inr (11, u))] := hD
  have hK : va_K (dC, dI) classes [] s := hK
  refine va_putF (D := (dC, dI)) (ci := 12) (v := .ref q_1) (ty := .object "ScholarsPressModel$Source") (C := "ScholarsPressModel$Tree") (T := F_MTree) (N := 30) hx hb hts in_MTree t_MTree t_MTree_ok n_MTree hown hK hP hD hS 0 rfl rfl 0 (by decide) (hts (.fieldLink "ScholarsPressModel$Tree" 12 "ScholarsPressModel$Tree" "s" "LScholarsPressModel$Source;") k_3086) (fun _ h9 => h9) rfl hin rfl (by decide +kernel) rfl rfl (by rw [hlen]; decide) d_MTree_init_12 (fun H locs hP hD hS => ?_)
  have hP := hP.sub (ws' := [(h0, .inr (12, fs.set 0 (.ref q_1)))]) [0] rfl
  have hD := hD.sub (ws' := [(h0, .inr (12, fs.set 0 (.ref q_1)))]) [0] (by decide) rfl
  obtain ⟨fs_2, efs_2⟩ : ∃ z, z = fs.set 0 (.ref q_1) := ⟨_, rfl⟩
  have hlen : fs_2.length = 30 := by rw [efs_2, List.length_set]; exact hlen
  have hP : va_P (dC, dI) classes [(h0, .inr (12, fs_2))] H := by rw [efs_2]; exact hP
  have hD : va_D A [(h0, .inr (12, fs_2))] := by rw [efs_2]; exact hD
  refine lv_aload_n hx hb d_MTree_init_15 rfl (lv_at hl 0 rfl) ?_
  refine lv_sipush (v := 16384) hx hb d_MTree_init_16 (by decide) ?_
  refine ca_np (n := 16384) (Nn := 16384) (a0 := (16384, .inl (fun _ => 0))) (q0 := 0) (ci := 12) (k := 1) (C := "ScholarsPressModel$Tree") (T := F_MTree) (N := 30) hx hb hts in_MTree t_MTree t_MTree_ok n_MTree hown k_338 rfl hK hP hD hS hA rfl hlen rfl (by decide) (hts (.fieldLink "ScholarsPressModel$Tree" 18 "ScholarsPressModel$Tree" "styleText" "[B") k_3088) (fun _ h9 => h9) rfl hin rfl (by decide +kernel) (fun _ => rfl) (by decide) (by decide) (by decide) (Nat.le_of_ble_eq_true rfl) (Nat.le_of_ble_eq_true rfl) d_MTree_init_19 d_MTree_init_21 (fun q_3 H locs hP hD hS => ?_)
  obtain ⟨fs_4, efs_4⟩ : ∃ z, z = fs_2.set 1 (.ref q_3) := ⟨_, rfl⟩
  have hlen : fs_4.length = 30 := by rw [efs_4, List.length_set]; exact hlen
  have hP : va_P (dC, dI) classes [(h0, .inr (12, fs_4))] H := by rw [efs_4]; exact hP
  have hD : va_D A [(h0, .inr (12, fs_4))] := by rw [efs_4]; exact hD
  refine lv_aload_n hx hb d_MTree_init_24 rfl (lv_at hl 0 rfl) ?_
  refine lv_bipush (v := 6) hx hb d_MTree_init_25 (by decide) ?_
  refine ca_np (n := 6) (Nn := 6) (a0 := (6, .inl (fun _ => 0))) (q0 := 0) (ci := 12) (k := 2) (C := "ScholarsPressModel$Tree") (T := F_MTree) (N := 30) hx hb hts in_MTree t_MTree t_MTree_ok n_MTree hown k_408 rfl hK hP hD hS hA rfl hlen rfl (by decide) (hts (.fieldLink "ScholarsPressModel$Tree" 22 "ScholarsPressModel$Tree" "page" "[I") k_3090) (fun _ h9 => h9) rfl hin rfl (by decide +kernel) (fun _ => rfl) (by decide) (by decide) (by decide) (Nat.le_of_ble_eq_true rfl) (Nat.le_of_ble_eq_true rfl) d_MTree_init_27 d_MTree_init_29 (fun q_5 H locs hP hD hS => ?_)
  obtain ⟨fs_6, efs_6⟩ : ∃ z, z = fs_4.set 2 (.ref q_5) := ⟨_, rfl⟩
  have hlen : fs_6.length = 30 := by rw [efs_6, List.length_set]; exact hlen
  have hP : va_P (dC, dI) classes [(h0, .inr (12, fs_6))] H := by rw [efs_6]; exact hP
  have hD : va_D A [(h0, .inr (12, fs_6))] := by rw [efs_6]; exact hD
  refine lv_aload_n hx hb d_MTree_init_32 rfl (lv_at hl 0 rfl) ?_
  refine lv_sipush (v := 11000) hx hb d_MTree_init_33 (by decide) ?_
  refine ca_np (n := 11000) (Nn := 11000) (a0 := (11000, .inl (fun _ => 0))) (q0 := 0) (ci := 12) (k := 3) (C := "ScholarsPressModel$Tree") (T := F_MTree) (N := 30) hx hb hts in_MTree t_MTree t_MTree_ok n_MTree hown k_408 rfl hK hP hD hS hA rfl hlen rfl (by decide) (hts (.fieldLink "ScholarsPressModel$Tree" 26 "ScholarsPressModel$Tree" "prop" "[I") k_3093) (fun _ h9 => h9) rfl hin rfl (by decide +kernel) (fun _ => rfl) (by decide) (by decide) (by decide) (Nat.le_of_ble_eq_true rfl) (Nat.le_of_ble_eq_true rfl) d_MTree_init_36 d_MTree_init_38 (fun q_7 H locs hP hD hS => ?_)
  obtain ⟨fs_8, efs_8⟩ : ∃ z, z = fs_6.set 3 (.ref q_7) := ⟨_, rfl⟩
  have hlen : fs_8.length = 30 := by rw [efs_8, List.length_set]; exact hlen
  have hP : va_P (dC, dI) classes [(h0, .inr (12, fs_8))] H := by rw [efs_8]; exact hP
  have hD : va_D A [(h0, .inr (12, fs_8))] := by rw [efs_8]; exact hD
  refine lv_aload_n hx hb d_MTree_init_41 rfl (lv_at hl 0 rfl) ?_
  refine lv_sipush (v := 500) hx hb d_MTree_init_42 (by decide) ?_
  refine ca_np (n := 500) (Nn := 500) (a0 := (500, .inl (fun _ => 0))) (q0 := 0) (ci := 12) (k := 4) (C := "ScholarsPressModel$Tree") (T := F_MTree) (N := 30) hx hb hts in_MTree t_MTree t_MTree_ok n_MTree hown k_408 rfl hK hP hD hS hA rfl hlen rfl (by decide) (hts (.fieldLink "ScholarsPressModel$Tree" 29 "ScholarsPressModel$Tree" "label" "[I") k_3094) (fun _ h9 => h9) rfl hin rfl (by decide +kernel) (fun _ => rfl) (by decide) (by decide) (by decide) (Nat.le_of_ble_eq_true rfl) (Nat.le_of_ble_eq_true rfl) d_MTree_init_45 d_MTree_init_47 (fun q_9 H locs hP hD hS => ?_)
  obtain ⟨fs_10, efs_10⟩ : ∃ z, z = fs_8.set 4 (.ref q_9) := ⟨_, rfl⟩
  have hlen : fs_10.length = 30 := by rw [efs_10, List.length_set]; exact hlen
  have hP : va_P (dC, dI) classes [(h0, .inr (12, fs_10))] H := by rw [efs_10]; exact hP
  have hD : va_D A [(h0, .inr (12, fs_10))] := by rw [efs_10]; exact hD
  refine lv_aload_n hx hb d_MTree_init_50 rfl (lv_at hl 0 rfl) ?_
  refine lv_sipush (v := 500) hx hb d_MTree_init_51 (by decide) ?_
  refine ca_np (n := 500) (Nn := 500) (a0 := (500, .inl (fun _ => 0))) (q0 := 0) (ci := 12) (k := 5) (C := "ScholarsPressModel$Tree") (T := F_MTree) (N := 30) hx hb hts in_MTree t_MTree t_MTree_ok n_MTree hown k_408 rfl hK hP hD hS hA rfl hlen rfl (by decide) (hts (.fieldLink "ScholarsPressModel$Tree" 32 "ScholarsPressModel$Tree" "labelEnd" "[I") k_3096) (fun _ h9 => h9) rfl hin rfl (by decide +kernel) (fun _ => rfl) (by decide) (by decide) (by decide) (Nat.le_of_ble_eq_true rfl) (Nat.le_of_ble_eq_true rfl) d_MTree_init_54 d_MTree_init_56 (fun q_11 H locs hP hD hS => ?_)
  obtain ⟨fs_12, efs_12⟩ : ∃ z, z = fs_10.set 5 (.ref q_11) := ⟨_, rfl⟩
  have hlen : fs_12.length = 30 := by rw [efs_12, List.length_set]; exact hlen
  have hP : va_P (dC, dI) classes [(h0, .inr (12, fs_12))] H := by rw [efs_12]; exact hP
  have hD : va_D A [(h0, .inr (12, fs_12))] := by rw [efs_12]; exact hD
  refine lv_aload_n hx hb d_MTree_init_59 rfl (lv_at hl 0 rfl) ?_
  refine lv_sipush (v := 500) hx hb d_MTree_init_60 (by decide) ?_
  refine ca_np (n := 500) (Nn := 500) (a0 := (500, .inl (fun _ => 0))) (q0 := 0) (ci := 12) (k := 6) (C := "ScholarsPressModel$Tree") (T := F_MTree) (N := 30) hx hb hts in_MTree t_MTree t_MTree_ok n_MTree hown k_408 rfl hK hP hD hS hA rfl hlen rfl (by decide) (hts (.fieldLink "ScholarsPressModel$Tree" 35 "ScholarsPressModel$Tree" "value" "[I") k_3098) (fun _ h9 => h9) rfl hin rfl (by decide +kernel) (fun _ => rfl) (by decide) (by decide) (by decide) (Nat.le_of_ble_eq_true rfl) (Nat.le_of_ble_eq_true rfl) d_MTree_init_63 d_MTree_init_65 (fun q_13 H locs hP hD hS => ?_)
  obtain ⟨fs_14, efs_14⟩ : ∃ z, z = fs_12.set 6 (.ref q_13) := ⟨_, rfl⟩
  have hlen : fs_14.length = 30 := by rw [efs_14, List.length_set]; exact hlen
  have hP : va_P (dC, dI) classes [(h0, .inr (12, fs_14))] H := by rw [efs_14]; exact hP
  have hD : va_D A [(h0, .inr (12, fs_14))] := by rw [efs_14]; exact hD
  refine lv_aload_n hx hb d_MTree_init_68 rfl (lv_at hl 0 rfl) ?_
  refine lv_sipush (v := 500) hx hb d_MTree_init_69 (by decide) ?_
  refine ca_np (n := 500) (Nn := 500) (a0 := (500, .inl (fun _ => 0))) (q0 := 0) (ci := 12) (k := 7) (C := "ScholarsPressModel$Tree") (T := F_MTree) (N := 30) hx hb hts in_MTree t_MTree t_MTree_ok n_MTree hown k_408 rfl hK hP hD hS hA rfl hlen rfl (by decide) (hts (.fieldLink "ScholarsPressModel$Tree" 38 "ScholarsPressModel$Tree" "cellsIn" "[I") k_3101) (fun _ h9 => h9) rfl hin rfl (by decide +kernel) (fun _ => rfl) (by decide) (by decide) (by decide) (Nat.le_of_ble_eq_true rfl) (Nat.le_of_ble_eq_true rfl) d_MTree_init_72 d_MTree_init_74 (fun q_15 H locs hP hD hS => ?_)
  obtain ⟨fs_16, efs_16⟩ : ∃ z, z = fs_14.set 7 (.ref q_15) := ⟨_, rfl⟩
  have hlen : fs_16.length = 30 := by rw [efs_16, List.length_set]; exact hlen
  have hP : va_P (dC, dI) classes [(h0, .inr (12, fs_16))] H := by rw [efs_16]; exact hP
  have hD : va_D A [(h0, .inr (12, fs_16))] := by rw [efs_16]; exact hD
  refine lv_aload_n hx hb d_MTree_init_77 rfl (lv_at hl 0 rfl) ?_
  refine lv_sipush (v := 500) hx hb d_MTree_init_78 (by decide) ?_
  refine ca_np (n := 500) (Nn := 500) (a0 := (500, .inl (fun _ => 0))) (q0 := 0) (ci := 12) (k := 8) (C := "ScholarsPressModel$Tree") (T := F_MTree) (N := 30) hx hb hts in_MTree t_MTree t_MTree_ok n_MTree hown k_408 rfl hK hP hD hS hA rfl hlen rfl (by decide) (hts (.fieldLink "ScholarsPressModel$Tree" 41 "ScholarsPressModel$Tree" "cellNo" "[I") k_3104) (fun _ h9 => h9) rfl hin rfl (by decide +kernel) (fun _ => rfl) (by decide) (by decide) (by decide) (Nat.le_of_ble_eq_true rfl) (Nat.le_of_ble_eq_true rfl) d_MTree_init_81 d_MTree_init_83 (fun q_17 H locs hP hD hS => ?_)
  obtain ⟨fs_18, efs_18⟩ : ∃ z, z = fs_16.set 8 (.ref q_17) := ⟨_, rfl⟩
  have hlen : fs_18.length = 30 := by rw [efs_18, List.length_set]; exact hlen
  have hP : va_P (dC, dI) classes [(h0, .inr (12, fs_18))] H := by rw [efs_18]; exact hP
  have hD : va_D A [(h0, .inr (12, fs_18))] := by rw [efs_18]; exact hD
  refine lv_aload_n hx hb d_MTree_init_86 rfl (lv_at hl 0 rfl) ?_
  refine lv_sipush (v := 500) hx hb d_MTree_init_87 (by decide) ?_
  refine ca_np (n := 500) (Nn := 500) (a0 := (500, .inl (fun _ => 0))) (q0 := 0) (ci := 12) (k := 9) (C := "ScholarsPressModel$Tree") (T := F_MTree) (N := 30) hx hb hts in_MTree t_MTree t_MTree_ok n_MTree hown k_446 rfl hK hP hD hS hA rfl hlen rfl (by decide) (hts (.fieldLink "ScholarsPressModel$Tree" 44 "ScholarsPressModel$Tree" "shown" "[Z") k_3106) (fun _ h9 => h9) rfl hin rfl (by decide +kernel) (fun _ => rfl) (by decide) (by decide) (by decide) (Nat.le_of_ble_eq_true rfl) (Nat.le_of_ble_eq_true rfl) d_MTree_init_90 d_MTree_init_92 (fun q_19 H locs hP hD hS => ?_)
  obtain ⟨fs_20, efs_20⟩ : ∃ z, z = fs_18.set 9 (.ref q_19) := ⟨_, rfl⟩
  have hlen : fs_20.length = 30 := by rw [efs_20, List.length_set]; exact hlen
  have hP : va_P (dC, dI) classes [(h0, .inr (12, fs_20))] H := by rw [efs_20]; exact hP
  have hD : va_D A [(h0, .inr (12, fs_20))] := by rw [efs_20]; exact hD
  refine lv_aload_n hx hb d_MTree_init_95 rfl (lv_at hl 0 rfl) ?_
  refine lv_sipush (v := 500) hx hb d_MTree_init_96 (by decide) ?_
  refine ca_np (n := 500) (Nn := 500) (a0 := (500, .inl (fun _ => 0))) (q0 := 0) (ci := 12) (k := 10) (C := "ScholarsPressModel$Tree") (T := F_MTree) (N := 30) hx hb hts in_MTree t_MTree t_MTree_ok n_MTree hown k_446 rfl hK hP hD hS hA rfl hlen rfl (by decide) (hts (.fieldLink "ScholarsPressModel$Tree" 48 "ScholarsPressModel$Tree" "inFlow" "[Z") k_3109) (fun _ h9 => h9) rfl hin rfl (by decide +kernel) (fun _ => rfl) (by decide) (by decide) (by decide) (Nat.le_of_ble_eq_true rfl) (Nat.le_of_ble_eq_true rfl) d_MTree_init_99 d_MTree_init_101 (fun q_21 H locs hP hD hS => ?_)
  obtain ⟨fs_22, efs_22⟩ : ∃ z, z = fs_20.set 10 (.ref q_21) := ⟨_, rfl⟩
  have hlen : fs_22.length = 30 := by rw [efs_22, List.length_set]; exact hlen
  have hP : va_P (dC, dI) classes [(h0, .inr (12, fs_22))] H := by rw [efs_22]; exact hP
  have hD : va_D A [(h0, .inr (12, fs_22))] := by rw [efs_22]; exact hD
  refine lv_aload_n hx hb d_MTree_init_104 rfl (lv_at hl 0 rfl) ?_
  refine lv_sipush (v := 500) hx hb d_MTree_init_105 (by decide) ?_
  refine ca_np (n := 500) (Nn := 500) (a0 := (500, .inl (fun _ => 0))) (q0 := 0) (ci := 12) (k := 11) (C := "ScholarsPressModel$Tree") (T := F_MTree) (N := 30) hx hb hts in_MTree t_MTree t_MTree_ok n_MTree hown k_446 rfl hK hP hD hS hA rfl hlen rfl (by decide) (hts (.fieldLink "ScholarsPressModel$Tree" 51 "ScholarsPressModel$Tree" "note" "[Z") k_3112) (fun _ h9 => h9) rfl hin rfl (by decide +kernel) (fun _ => rfl) (by decide) (by decide) (by decide) (Nat.le_of_ble_eq_true rfl) (Nat.le_of_ble_eq_true rfl) d_MTree_init_108 d_MTree_init_110 (fun q_23 H locs hP hD hS => ?_)
  obtain ⟨fs_24, efs_24⟩ : ∃ z, z = fs_22.set 11 (.ref q_23) := ⟨_, rfl⟩
  have hlen : fs_24.length = 30 := by rw [efs_24, List.length_set]; exact hlen
  have hP : va_P (dC, dI) classes [(h0, .inr (12, fs_24))] H := by rw [efs_24]; exact hP
  have hD : va_D A [(h0, .inr (12, fs_24))] := by rw [efs_24]; exact hD
  refine lv_aload_n hx hb d_MTree_init_113 rfl (lv_at hl 0 rfl) ?_
  refine lv_sipush (v := 500) hx hb d_MTree_init_114 (by decide) ?_
  refine ca_np (n := 500) (Nn := 500) (a0 := (500, .inl (fun _ => 0))) (q0 := 0) (ci := 12) (k := 12) (C := "ScholarsPressModel$Tree") (T := F_MTree) (N := 30) hx hb hts in_MTree t_MTree t_MTree_ok n_MTree hown k_446 rfl hK hP hD hS hA rfl hlen rfl (by decide) (hts (.fieldLink "ScholarsPressModel$Tree" 54 "ScholarsPressModel$Tree" "block" "[Z") k_3114) (fun _ h9 => h9) rfl hin rfl (by decide +kernel) (fun _ => rfl) (by decide) (by decide) (by decide) (Nat.le_of_ble_eq_true rfl) (Nat.le_of_ble_eq_true rfl) d_MTree_init_117 d_MTree_init_119 (fun q_25 H locs hP hD hS => ?_)
  obtain ⟨fs_26, efs_26⟩ : ∃ z, z = fs_24.set 12 (.ref q_25) := ⟨_, rfl⟩
  have hlen : fs_26.length = 30 := by rw [efs_26, List.length_set]; exact hlen
  have hP : va_P (dC, dI) classes [(h0, .inr (12, fs_26))] H := by rw [efs_26]; exact hP
  have hD : va_D A [(h0, .inr (12, fs_26))] := by rw [efs_26]; exact hD
  refine lv_aload_n hx hb d_MTree_init_122 rfl (lv_at hl 0 rfl) ?_
  refine lv_sipush (v := 500) hx hb d_MTree_init_123 (by decide) ?_
  refine ca_np (n := 500) (Nn := 500) (a0 := (500, .inl (fun _ => 0))) (q0 := 0) (ci := 12) (k := 13) (C := "ScholarsPressModel$Tree") (T := F_MTree) (N := 30) hx hb hts in_MTree t_MTree t_MTree_ok n_MTree hown k_446 rfl hK hP hD hS hA rfl hlen rfl (by decide) (hts (.fieldLink "ScholarsPressModel$Tree" 57 "ScholarsPressModel$Tree" "table" "[Z") k_3116) (fun _ h9 => h9) rfl hin rfl (by decide +kernel) (fun _ => rfl) (by decide) (by decide) (by decide) (Nat.le_of_ble_eq_true rfl) (Nat.le_of_ble_eq_true rfl) d_MTree_init_126 d_MTree_init_128 (fun q_27 H locs hP hD hS => ?_)
  obtain ⟨fs_28, efs_28⟩ : ∃ z, z = fs_26.set 13 (.ref q_27) := ⟨_, rfl⟩
  have hlen : fs_28.length = 30 := by rw [efs_28, List.length_set]; exact hlen
  have hP : va_P (dC, dI) classes [(h0, .inr (12, fs_28))] H := by rw [efs_28]; exact hP
  have hD : va_D A [(h0, .inr (12, fs_28))] := by rw [efs_28]; exact hD
  refine lv_aload_n hx hb d_MTree_init_131 rfl (lv_at hl 0 rfl) ?_
  refine lv_sipush (v := 500) hx hb d_MTree_init_132 (by decide) ?_
  refine ca_np (n := 500) (Nn := 500) (a0 := (500, .inl (fun _ => 0))) (q0 := 0) (ci := 12) (k := 14) (C := "ScholarsPressModel$Tree") (T := F_MTree) (N := 30) hx hb hts in_MTree t_MTree t_MTree_ok n_MTree hown k_446 rfl hK hP hD hS hA rfl hlen rfl (by decide) (hts (.fieldLink "ScholarsPressModel$Tree" 60 "ScholarsPressModel$Tree" "row" "[Z") k_3118) (fun _ h9 => h9) rfl hin rfl (by decide +kernel) (fun _ => rfl) (by decide) (by decide) (by decide) (Nat.le_of_ble_eq_true rfl) (Nat.le_of_ble_eq_true rfl) d_MTree_init_135 d_MTree_init_137 (fun q_29 H locs hP hD hS => ?_)
  obtain ⟨fs_30, efs_30⟩ : ∃ z, z = fs_28.set 14 (.ref q_29) := ⟨_, rfl⟩
  have hlen : fs_30.length = 30 := by rw [efs_30, List.length_set]; exact hlen
  have hP : va_P (dC, dI) classes [(h0, .inr (12, fs_30))] H := by rw [efs_30]; exact hP
  have hD : va_D A [(h0, .inr (12, fs_30))] := by rw [efs_30]; exact hD
  refine lv_aload_n hx hb d_MTree_init_140 rfl (lv_at hl 0 rfl) ?_
  refine lv_sipush (v := 500) hx hb d_MTree_init_141 (by decide) ?_
  refine ca_np (n := 500) (Nn := 500) (a0 := (500, .inl (fun _ => 0))) (q0 := 0) (ci := 12) (k := 15) (C := "ScholarsPressModel$Tree") (T := F_MTree) (N := 30) hx hb hts in_MTree t_MTree t_MTree_ok n_MTree hown k_446 rfl hK hP hD hS hA rfl hlen rfl (by decide) (hts (.fieldLink "ScholarsPressModel$Tree" 63 "ScholarsPressModel$Tree" "cell" "[Z") k_3120) (fun _ h9 => h9) rfl hin rfl (by decide +kernel) (fun _ => rfl) (by decide) (by decide) (by decide) (Nat.le_of_ble_eq_true rfl) (Nat.le_of_ble_eq_true rfl) d_MTree_init_144 d_MTree_init_146 (fun q_31 H locs hP hD hS => ?_)
  obtain ⟨fs_32, efs_32⟩ : ∃ z, z = fs_30.set 15 (.ref q_31) := ⟨_, rfl⟩
  have hlen : fs_32.length = 30 := by rw [efs_32, List.length_set]; exact hlen
  have hP : va_P (dC, dI) classes [(h0, .inr (12, fs_32))] H := by rw [efs_32]; exact hP
  have hD : va_D A [(h0, .inr (12, fs_32))] := by rw [efs_32]; exact hD
  refine lv_aload_n hx hb d_MTree_init_149 rfl (lv_at hl 0 rfl) ?_
  refine lv_sipush (v := 11000) hx hb d_MTree_init_150 (by decide) ?_
  refine ca_np (n := 11000) (Nn := 11000) (a0 := (11000, .inl (fun _ => 0))) (q0 := 0) (ci := 12) (k := 16) (C := "ScholarsPressModel$Tree") (T := F_MTree) (N := 30) hx hb hts in_MTree t_MTree t_MTree_ok n_MTree hown k_408 rfl hK hP hD hS hA rfl hlen rfl (by decide) (hts (.fieldLink "ScholarsPressModel$Tree" 66 "ScholarsPressModel$Tree" "weight" "[I") k_3122) (fun _ h9 => h9) rfl hin rfl (by decide +kernel) (fun _ => rfl) (by decide) (by decide) (by decide) (Nat.le_of_ble_eq_true rfl) (Nat.le_of_ble_eq_true rfl) d_MTree_init_153 d_MTree_init_155 (fun q_33 H locs hP hD hS => ?_)
  obtain ⟨fs_34, efs_34⟩ : ∃ z, z = fs_32.set 16 (.ref q_33) := ⟨_, rfl⟩
  have hlen : fs_34.length = 30 := by rw [efs_34, List.length_set]; exact hlen
  have hP : va_P (dC, dI) classes [(h0, .inr (12, fs_34))] H := by rw [efs_34]; exact hP
  have hD : va_D A [(h0, .inr (12, fs_34))] := by rw [efs_34]; exact hD
  refine lv_aload_n hx hb d_MTree_init_158 rfl (lv_at hl 0 rfl) ?_
  refine lv_sipush (v := 500) hx hb d_MTree_init_159 (by decide) ?_
  refine ca_np (n := 500) (Nn := 500) (a0 := (500, .inl (fun _ => 0))) (q0 := 0) (ci := 12) (k := 17) (C := "ScholarsPressModel$Tree") (T := F_MTree) (N := 30) hx hb hts in_MTree t_MTree t_MTree_ok n_MTree hown k_446 rfl hK hP hD hS hA rfl hlen rfl (by decide) (hts (.fieldLink "ScholarsPressModel$Tree" 69 "ScholarsPressModel$Tree" "fits" "[Z") k_3123) (fun _ h9 => h9) rfl hin rfl (by decide +kernel) (fun _ => rfl) (by decide) (by decide) (by decide) (Nat.le_of_ble_eq_true rfl) (Nat.le_of_ble_eq_true rfl) d_MTree_init_162 d_MTree_init_164 (fun q_35 H locs hP hD hS => ?_)
  obtain ⟨fs_36, efs_36⟩ : ∃ z, z = fs_34.set 17 (.ref q_35) := ⟨_, rfl⟩
  have hlen : fs_36.length = 30 := by rw [efs_36, List.length_set]; exact hlen
  have hP : va_P (dC, dI) classes [(h0, .inr (12, fs_36))] H := by rw [efs_36]; exact hP
  have hD : va_D A [(h0, .inr (12, fs_36))] := by rw [efs_36]; exact hD
  refine lv_aload_n hx hb d_MTree_init_167 rfl (lv_at hl 0 rfl) ?_
  refine lv_sipush (v := 500) hx hb d_MTree_init_168 (by decide) ?_
  refine ca_np (n := 500) (Nn := 500) (a0 := (500, .inl (fun _ => 0))) (q0 := 0) (ci := 12) (k := 18) (C := "ScholarsPressModel$Tree") (T := F_MTree) (N := 30) hx hb hts in_MTree t_MTree t_MTree_ok n_MTree hown k_446 rfl hK hP hD hS hA rfl hlen rfl (by decide) (hts (.fieldLink "ScholarsPressModel$Tree" 72 "ScholarsPressModel$Tree" "before" "[Z") k_3124) (fun _ h9 => h9) rfl hin rfl (by decide +kernel) (fun _ => rfl) (by decide) (by decide) (by decide) (Nat.le_of_ble_eq_true rfl) (Nat.le_of_ble_eq_true rfl) d_MTree_init_171 d_MTree_init_173 (fun q_37 H locs hP hD hS => ?_)
  obtain ⟨fs_38, efs_38⟩ : ∃ z, z = fs_36.set 18 (.ref q_37) := ⟨_, rfl⟩
  have hlen : fs_38.length = 30 := by rw [efs_38, List.length_set]; exact hlen
  have hP : va_P (dC, dI) classes [(h0, .inr (12, fs_38))] H := by rw [efs_38]; exact hP
  have hD : va_D A [(h0, .inr (12, fs_38))] := by rw [efs_38]; exact hD
  refine lv_aload_n hx hb d_MTree_init_176 rfl (lv_at hl 0 rfl) ?_
  refine lv_sipush (v := 500) hx hb d_MTree_init_177 (by decide) ?_
  refine ca_np (n := 500) (Nn := 500) (a0 := (500, .inl (fun _ => 0))) (q0 := 0) (ci := 12) (k := 19) (C := "ScholarsPressModel$Tree") (T := F_MTree) (N := 30) hx hb hts in_MTree t_MTree t_MTree_ok n_MTree hown k_408 rfl hK hP hD hS hA rfl hlen rfl (by decide) (hts (.fieldLink "ScholarsPressModel$Tree" 75 "ScholarsPressModel$Tree" "older" "[I") k_3125) (fun _ h9 => h9) rfl hin rfl (by decide +kernel) (fun _ => rfl) (by decide) (by decide) (by decide) (Nat.le_of_ble_eq_true rfl) (Nat.le_of_ble_eq_true rfl) d_MTree_init_180 d_MTree_init_182 (fun q_39 H locs hP hD hS => ?_)
  obtain ⟨fs_40, efs_40⟩ : ∃ z, z = fs_38.set 19 (.ref q_39) := ⟨_, rfl⟩
  have hlen : fs_40.length = 30 := by rw [efs_40, List.length_set]; exact hlen
  have hP : va_P (dC, dI) classes [(h0, .inr (12, fs_40))] H := by rw [efs_40]; exact hP
  have hD : va_D A [(h0, .inr (12, fs_40))] := by rw [efs_40]; exact hD
  refine lv_aload_n hx hb d_MTree_init_185 rfl (lv_at hl 0 rfl) ?_
  refine lv_sipush (v := 500) hx hb d_MTree_init_186 (by decide) ?_
  refine ca_np (n := 500) (Nn := 500) (a0 := (500, .inl (fun _ => 0))) (q0 := 0) (ci := 12) (k := 20) (C := "ScholarsPressModel$Tree") (T := F_MTree) (N := 30) hx hb hts in_MTree t_MTree t_MTree_ok n_MTree hown k_408 rfl hK hP hD hS hA rfl hlen rfl (by decide) (hts (.fieldLink "ScholarsPressModel$Tree" 78 "ScholarsPressModel$Tree" "place" "[I") k_3126) (fun _ h9 => h9) rfl hin rfl (by decide +kernel) (fun _ => rfl) (by decide) (by decide) (by decide) (Nat.le_of_ble_eq_true rfl) (Nat.le_of_ble_eq_true rfl) d_MTree_init_189 d_MTree_init_191 (fun q_41 H locs hP hD hS => ?_)
  obtain ⟨fs_42, efs_42⟩ : ∃ z, z = fs_40.set 20 (.ref q_41) := ⟨_, rfl⟩
  have hlen : fs_42.length = 30 := by rw [efs_42, List.length_set]; exact hlen
  have hP : va_P (dC, dI) classes [(h0, .inr (12, fs_42))] H := by rw [efs_42]; exact hP
  have hD : va_D A [(h0, .inr (12, fs_42))] := by rw [efs_42]; exact hD
  refine lv_aload_n hx hb d_MTree_init_194 rfl (lv_at hl 0 rfl) ?_
  refine lv_sipush (v := 501) hx hb d_MTree_init_195 (by decide) ?_
  refine ca_np (n := 501) (Nn := 501) (a0 := (501, .inl (fun _ => 0))) (q0 := 0) (ci := 12) (k := 21) (C := "ScholarsPressModel$Tree") (T := F_MTree) (N := 30) hx hb hts in_MTree t_MTree t_MTree_ok n_MTree hown k_408 rfl hK hP hD hS hA rfl hlen rfl (by decide) (hts (.fieldLink "ScholarsPressModel$Tree" 81 "ScholarsPressModel$Tree" "many" "[I") k_3127) (fun _ h9 => h9) rfl hin rfl (by decide +kernel) (fun _ => rfl) (by decide) (by decide) (by decide) (Nat.le_of_ble_eq_true rfl) (Nat.le_of_ble_eq_true rfl) d_MTree_init_198 d_MTree_init_200 (fun q_43 H locs hP hD hS => ?_)
  obtain ⟨fs_44, efs_44⟩ : ∃ z, z = fs_42.set 21 (.ref q_43) := ⟨_, rfl⟩
  have hlen : fs_44.length = 30 := by rw [efs_44, List.length_set]; exact hlen
  have hP : va_P (dC, dI) classes [(h0, .inr (12, fs_44))] H := by rw [efs_44]; exact hP
  have hD : va_D A [(h0, .inr (12, fs_44))] := by rw [efs_44]; exact hD
  refine lv_aload_n hx hb d_MTree_init_203 rfl (lv_at hl 0 rfl) ?_
  refine lv_sipush (v := 501) hx hb d_MTree_init_204 (by decide) ?_
  refine ca_np (n := 501) (Nn := 501) (a0 := (501, .inl (fun _ => 0))) (q0 := 0) (ci := 12) (k := 22) (C := "ScholarsPressModel$Tree") (T := F_MTree) (N := 30) hx hb hts in_MTree t_MTree t_MTree_ok n_MTree hown k_408 rfl hK hP hD hS hA rfl hlen rfl (by decide) (hts (.fieldLink "ScholarsPressModel$Tree" 84 "ScholarsPressModel$Tree" "latest" "[I") k_3128) (fun _ h9 => h9) rfl hin rfl (by decide +kernel) (fun _ => rfl) (by decide) (by decide) (by decide) (Nat.le_of_ble_eq_true rfl) (Nat.le_of_ble_eq_true rfl) d_MTree_init_207 d_MTree_init_209 (fun q_45 H locs hP hD hS => ?_)
  obtain ⟨fs_46, efs_46⟩ : ∃ z, z = fs_44.set 22 (.ref q_45) := ⟨_, rfl⟩
  have hlen : fs_46.length = 30 := by rw [efs_46, List.length_set]; exact hlen
  have hP : va_P (dC, dI) classes [(h0, .inr (12, fs_46))] H := by rw [efs_46]; exact hP
  have hD : va_D A [(h0, .inr (12, fs_46))] := by rw [efs_46]; exact hD
  refine lv_aload_n hx hb d_MTree_init_212 rfl (lv_at hl 0 rfl) ?_
  refine lv_sipush (v := 500) hx hb d_MTree_init_213 (by decide) ?_
  refine ca_np (n := 500) (Nn := 500) (a0 := (500, .inl (fun _ => 0))) (q0 := 0) (ci := 12) (k := 23) (C := "ScholarsPressModel$Tree") (T := F_MTree) (N := 30) hx hb hts in_MTree t_MTree t_MTree_ok n_MTree hown k_446 rfl hK hP hD hS hA rfl hlen rfl (by decide) (hts (.fieldLink "ScholarsPressModel$Tree" 87 "ScholarsPressModel$Tree" "filled" "[Z") k_3129) (fun _ h9 => h9) rfl hin rfl (by decide +kernel) (fun _ => rfl) (by decide) (by decide) (by decide) (Nat.le_of_ble_eq_true rfl) (Nat.le_of_ble_eq_true rfl) d_MTree_init_216 d_MTree_init_218 (fun q_47 H locs hP hD hS => ?_)
  obtain ⟨fs_48, efs_48⟩ : ∃ z, z = fs_46.set 23 (.ref q_47) := ⟨_, rfl⟩
  have hlen : fs_48.length = 30 := by rw [efs_48, List.length_set]; exact hlen
  have hP : va_P (dC, dI) classes [(h0, .inr (12, fs_48))] H := by rw [efs_48]; exact hP
  have hD : va_D A [(h0, .inr (12, fs_48))] := by rw [efs_48]; exact hD
  refine lv_aload_n hx hb d_MTree_init_221 rfl (lv_at hl 0 rfl) ?_
  refine lv_bipush (v := 12) hx hb d_MTree_init_222 (by decide) ?_
  refine ca_np (n := 12) (Nn := 12) (a0 := (12, .inl (fun _ => 0))) (q0 := 0) (ci := 12) (k := 24) (C := "ScholarsPressModel$Tree") (T := F_MTree) (N := 30) hx hb hts in_MTree t_MTree t_MTree_ok n_MTree hown k_408 rfl hK hP hD hS hA rfl hlen rfl (by decide) (hts (.fieldLink "ScholarsPressModel$Tree" 90 "ScholarsPressModel$Tree" "counts" "[I") k_3130) (fun _ h9 => h9) rfl hin rfl (by decide +kernel) (fun _ => rfl) (by decide) (by decide) (by decide) (Nat.le_of_ble_eq_true rfl) (Nat.le_of_ble_eq_true rfl) d_MTree_init_224 d_MTree_init_226 (fun q_49 H locs hP hD hS => ?_)
  obtain ⟨fs_50, efs_50⟩ : ∃ z, z = fs_48.set 24 (.ref q_49) := ⟨_, rfl⟩
  have hlen : fs_50.length = 30 := by rw [efs_50, List.length_set]; exact hlen
  have hP : va_P (dC, dI) classes [(h0, .inr (12, fs_50))] H := by rw [efs_50]; exact hP
  have hD : va_D A [(h0, .inr (12, fs_50))] := by rw [efs_50]; exact hD
  refine lv_aload_n hx hb d_MTree_init_229 rfl (lv_at hl 0 rfl) ?_
  refine lv_bipush (v := 40) hx hb d_MTree_init_230 (by decide) ?_
  refine ca_np (n := 40) (Nn := 40) (a0 := (40, .inl (fun _ => 0))) (q0 := 0) (ci := 12) (k := 25) (C := "ScholarsPressModel$Tree") (T := F_MTree) (N := 30) hx hb hts in_MTree t_MTree t_MTree_ok n_MTree hown k_338 rfl hK hP hD hS hA rfl hlen rfl (by decide) (hts (.fieldLink "ScholarsPressModel$Tree" 93 "ScholarsPressModel$Tree" "digits" "[B") k_3131) (fun _ h9 => h9) rfl hin rfl (by decide +kernel) (fun _ => rfl) (by decide) (by decide) (by decide) (Nat.le_of_ble_eq_true rfl) (Nat.le_of_ble_eq_true rfl) d_MTree_init_232 d_MTree_init_234 (fun q_51 H locs hP hD hS => ?_)
  obtain ⟨fs_52, efs_52⟩ : ∃ z, z = fs_50.set 25 (.ref q_51) := ⟨_, rfl⟩
  have hlen : fs_52.length = 30 := by rw [efs_52, List.length_set]; exact hlen
  have hP : va_P (dC, dI) classes [(h0, .inr (12, fs_52))] H := by rw [efs_52]; exact hP
  have hD : va_D A [(h0, .inr (12, fs_52))] := by rw [efs_52]; exact hD
  refine lv_aload_n hx hb d_MTree_init_237 rfl (lv_at hl 0 rfl) ?_
  refine lv_bipush (v := 7) hx hb d_MTree_init_238 (by decide) ?_
  refine va_newa (D := (dC, dI)) hx hb (atype := .int) (hts _ k_408) rfl hK hP hD hS hA (a0 := (7, .inl (fun _ => 0))) (n := 7) (fun _ => rfl) (by decide) (by decide) (by decide) (Nat.le_of_ble_eq_true rfl) (Nat.le_of_ble_eq_true rfl) d_MTree_init_240 (fun q_53 cA_54 H hK hP hD hS => ?_)
  have hP : va_P (dC, dI) classes [(h0, .inr (12, fs_52)), (q_53, .inl (cA_54, 7, .inl ((fun _ => 0))))] H := hP
  have hD : va_D A [(h0, .inr (12, fs_52)), (q_53, .inl (cA_54, 7, .inl ((fun _ => 0))))] := hD
  have hK : va_K (dC, dI) classes [(cA_54, .int)] s := hK
  refine lv_dup hx hb d_MTree_init_242 rfl ?_
  refine lv_iconst (v := 0) hx hb d_MTree_init_243 (by decide) ?_
  refine lv_sipush (v := 1000) hx hb d_MTree_init_244 (by decide) ?_
  refine va_iast hx hb hK hP hD hS 1 0 rfl rfl (i := 0) (x := 1000) (by unfold vp_in; decide) d_MTree_init_247 (fun H locs hP hD hS => ?_)
  obtain ⟨g_55, eg_55⟩ : ∃ g, g = upd ((fun _ => 0)) (0 : Int32).toNatClampNeg 1000 := ⟨_, rfl⟩
  have hP : va_P (dC, dI) classes [(h0, .inr (12, fs_52)), (q_53, .inl (cA_54, 7, .inl g_55))] H := by rw [eg_55]; exact hP
  have hD : va_D A [(h0, .inr (12, fs_52)), (q_53, .inl (cA_54, 7, .inl g_55))] := by rw [eg_55]; exact hD
  refine lv_dup hx hb d_MTree_init_248 rfl ?_
  refine lv_iconst (v := 1) hx hb d_MTree_init_249 (by decide) ?_
  refine lv_sipush (v := 500) hx hb d_MTree_init_250 (by decide) ?_
  refine va_iast hx hb hK hP hD hS 1 0 rfl rfl (i := 1) (x := 500) (by unfold vp_in; decide) d_MTree_init_253 (fun H locs hP hD hS => ?_)
  obtain ⟨g_56, eg_56⟩ : ∃ g, g = upd g_55 (1 : Int32).toNatClampNeg 500 := ⟨_, rfl⟩
  have hP : va_P (dC, dI) classes [(h0, .inr (12, fs_52)), (q_53, .inl (cA_54, 7, .inl g_56))] H := by rw [eg_56]; exact hP
  have hD : va_D A [(h0, .inr (12, fs_52)), (q_53, .inl (cA_54, 7, .inl g_56))] := by rw [eg_56]; exact hD
  refine lv_dup hx hb d_MTree_init_254 rfl ?_
  refine lv_iconst (v := 2) hx hb d_MTree_init_255 (by decide) ?_
  refine lv_bipush (v := 100) hx hb d_MTree_init_256 (by decide) ?_
  refine va_iast hx hb hK hP hD hS 1 0 rfl rfl (i := 2) (x := 100) (by unfold vp_in; decide) d_MTree_init_258 (fun H locs hP hD hS => ?_)
  obtain ⟨g_57, eg_57⟩ : ∃ g, g = upd g_56 (2 : Int32).toNatClampNeg 100 := ⟨_, rfl⟩
  have hP : va_P (dC, dI) classes [(h0, .inr (12, fs_52)), (q_53, .inl (cA_54, 7, .inl g_57))] H := by rw [eg_57]; exact hP
  have hD : va_D A [(h0, .inr (12, fs_52)), (q_53, .inl (cA_54, 7, .inl g_57))] := by rw [eg_57]; exact hD
  refine lv_dup hx hb d_MTree_init_259 rfl ?_
  refine lv_iconst (v := 3) hx hb d_MTree_init_260 (by decide) ?_
  refine lv_bipush (v := 50) hx hb d_MTree_init_261 (by decide) ?_
  refine va_iast hx hb hK hP hD hS 1 0 rfl rfl (i := 3) (x := 50) (by unfold vp_in; decide) d_MTree_init_263 (fun H locs hP hD hS => ?_)
  obtain ⟨g_58, eg_58⟩ : ∃ g, g = upd g_57 (3 : Int32).toNatClampNeg 50 := ⟨_, rfl⟩
  have hP : va_P (dC, dI) classes [(h0, .inr (12, fs_52)), (q_53, .inl (cA_54, 7, .inl g_58))] H := by rw [eg_58]; exact hP
  have hD : va_D A [(h0, .inr (12, fs_52)), (q_53, .inl (cA_54, 7, .inl g_58))] := by rw [eg_58]; exact hD
  refine lv_dup hx hb d_MTree_init_264 rfl ?_
  refine lv_iconst (v := 4) hx hb d_MTree_init_265 (by decide) ?_
  refine lv_bipush (v := 10) hx hb d_MTree_init_266 (by decide) ?_
  refine va_iast hx hb hK hP hD hS 1 0 rfl rfl (i := 4) (x := 10) (by unfold vp_in; decide) d_MTree_init_268 (fun H locs hP hD hS => ?_)
  obtain ⟨g_59, eg_59⟩ : ∃ g, g = upd g_58 (4 : Int32).toNatClampNeg 10 := ⟨_, rfl⟩
  have hP : va_P (dC, dI) classes [(h0, .inr (12, fs_52)), (q_53, .inl (cA_54, 7, .inl g_59))] H := by rw [eg_59]; exact hP
  have hD : va_D A [(h0, .inr (12, fs_52)), (q_53, .inl (cA_54, 7, .inl g_59))] := by rw [eg_59]; exact hD
  refine lv_dup hx hb d_MTree_init_269 rfl ?_
  refine lv_iconst (v := 5) hx hb d_MTree_init_270 (by decide) ?_
  refine lv_iconst (v := 5) hx hb d_MTree_init_271 (by decide) ?_
  refine va_iast hx hb hK hP hD hS 1 0 rfl rfl (i := 5) (x := 5) (by unfold vp_in; decide) d_MTree_init_272 (fun H locs hP hD hS => ?_)
  obtain ⟨g_60, eg_60⟩ : ∃ g, g = upd g_59 (5 : Int32).toNatClampNeg 5 := ⟨_, rfl⟩
  have hP : va_P (dC, dI) classes [(h0, .inr (12, fs_52)), (q_53, .inl (cA_54, 7, .inl g_60))] H := by rw [eg_60]; exact hP
  have hD : va_D A [(h0, .inr (12, fs_52)), (q_53, .inl (cA_54, 7, .inl g_60))] := by rw [eg_60]; exact hD
  refine lv_dup hx hb d_MTree_init_273 rfl ?_
  refine lv_bipush (v := 6) hx hb d_MTree_init_274 (by decide) ?_
  refine lv_iconst (v := 1) hx hb d_MTree_init_276 (by decide) ?_
  refine va_iast hx hb hK hP hD hS 1 0 rfl rfl (i := 6) (x := 1) (by unfold vp_in; decide) d_MTree_init_277 (fun H locs hP hD hS => ?_)
  obtain ⟨g_61, eg_61⟩ : ∃ g, g = upd g_60 (6 : Int32).toNatClampNeg 1 := ⟨_, rfl⟩
  have hP : va_P (dC, dI) classes [(h0, .inr (12, fs_52)), (q_53, .inl (cA_54, 7, .inl g_61))] H := by rw [eg_61]; exact hP
  have hD : va_D A [(h0, .inr (12, fs_52)), (q_53, .inl (cA_54, 7, .inl g_61))] := by rw [eg_61]; exact hD
  refine va_putF (D := (dC, dI)) (ci := 12) (v := .ref q_53) (ty := .array .int) (C := "ScholarsPressModel$Tree") (T := F_MTree) (N := 30) hx hb hts in_MTree t_MTree t_MTree_ok n_MTree hown hK hP hD hS 0 rfl rfl 26 (by decide) (hts (.fieldLink "ScholarsPressModel$Tree" 96 "ScholarsPressModel$Tree" "worth" "[I") k_3132) (fun _ h9 => h9) rfl hin rfl (by decide +kernel) rfl rfl (by rw [hlen]; decide) d_MTree_init_278 (fun H locs hP hD hS => ?_)
  have hP := hP.sub (ws' := [(h0, .inr (12, fs_52.set 26 (.ref q_53)))]) [0] rfl
  have hD := hD.sub (ws' := [(h0, .inr (12, fs_52.set 26 (.ref q_53)))]) [0] (by decide) rfl
  obtain ⟨fs_62, efs_62⟩ : ∃ z, z = fs_52.set 26 (.ref q_53) := ⟨_, rfl⟩
  have hlen : fs_62.length = 30 := by rw [efs_62, List.length_set]; exact hlen
  have hP : va_P (dC, dI) classes [(h0, .inr (12, fs_62))] H := by rw [efs_62]; exact hP
  have hD : va_D A [(h0, .inr (12, fs_62))] := by rw [efs_62]; exact hD
  have hK : va_K (dC, dI) classes [] s := hK.sub [] rfl
  refine lv_aload_n hx hb d_MTree_init_281 rfl (lv_at hl 0 rfl) ?_
  refine lv_bipush (v := 64) hx hb d_MTree_init_282 (by decide) ?_
  refine ca_npN (n := 64) (Nn := 64) (a0 := (64, .inl (fun _ => 0))) (q0 := 0) (ci := 12) (k := 27) (C := "ScholarsPressModel$Tree") (T := F_MTree) (N := 30) hx hb hts in_MTree t_MTree t_MTree_ok n_MTree hown k_338 rfl hK hP hD hS hA rfl hlen rfl (by decide) (hts (.fieldLink "ScholarsPressModel$Tree" 99 "ScholarsPressModel$Tree" "title" "[B") k_3133) (fun _ h9 => h9) rfl (by decide +kernel) (fun _ => rfl) (by decide) (by decide) (by decide) (Nat.le_of_ble_eq_true rfl) (Nat.le_of_ble_eq_true rfl) d_MTree_init_284 d_MTree_init_286 (fun q_63 H locs hP hD hS => ?_)
  obtain ⟨fs_64, efs_64⟩ : ∃ z, z = fs_62.set 27 (.ref q_63) := ⟨_, rfl⟩
  have hlen : fs_64.length = 30 := by rw [efs_64, List.length_set]; exact hlen
  have hP : va_P (dC, dI) classes [(h0, .inr (12, fs_64))] H := by rw [efs_64]; exact hP
  have hD : va_D A [(h0, .inr (12, fs_64))] := by rw [efs_64]; exact hD
  have hP9 := hP.sub (ws' := [(h0, .inr (12, fs_64))]) [0] rfl
  have hD9 := hD.sub (ws' := [(h0, .inr (12, fs_64))]) [0] (by decide) rfl
  have hK9 := hK.sub (tys' := []) [] rfl
  exact W.vret hx hb hr (fun t ht hW => ⟨⟨fs_64, rfl, hlen, by rw [ht]; exact hP9, va_K.moved hW.alike hK9, hD9⟩, hS.F ht⟩) hS.2.2 d_MTree_init_289
set_option maxHeartbeats 4000000 in
set_option maxRecDepth 100000 in
/-- Setting: rows made -/
theorem c_MSetting_init (l : Launch) (dC : Nat → ClassId) (dI : Nat → Nat → Nat) (h0 : Nat) (fs : List Value) (sz : Nat) (hlen : fs.length = 141) : Met l y_MSetting_init [w_MSetting_init] ({ frames := 3, cells := 153, slots := 525904, locals := 60 }) (va_Pc [.ref h0] (pr sz (dC, dI) [(h0, .inr (13, fs))] [])) (va_Qv (fun (u : List Value) => u.length = 141) (bw (dC, dI) (va_A [(h0, .inr (13, fs))] sz) (fun u : List Value => [(h0, .inr (13, u))]) (fun u : List Value => [])) (va_A [(h0, .inr (13, fs))] sz)) 153 525904 (va_A [(h0, .inr (13, fs))] sz) := by
  refine Met.ofW (cc := b_MSetting_init) (maxL := 1) (ret := none) (by decide) rfl ?_
  intro p e s m args below meth c s₁ B hml hv
  obtain ⟨rfl, hsz, hb0, hP, hK, hD0⟩ := hv
  have hx := B.exec
  have hb := B.bytes
  have hr := B.returns
  have hts : ∀ wq ∈ tt, wq.before ([.ref h0] : List Value).toArray s = true := hb0.hts
  have hown : s.vm.findClass "ScholarsPressModel$Setting" = some m.cls := findClass_of_methodNamed B.named
  have hlocks := B.notSynchronized
  have hin : meth.name = "<init>" := (name_of_methodNamed B.named B.method).1
  subst hsz
  have hD := hD0.self (sz := s.heap.size)
  generalize hAe : va_A [(h0, .inr (13, fs))] s.heap.size = A at hD ⊢
  have hA : ∀ q : Nat, s.heap.size ≤ q → A q := fun q h => by rw [← hAe]; exact Or.inr h
  have hS : va_S A s.heap s.heap [] := va_S.rf
  have hP : va_P (dC, dI) classes [(h0, .inr (13, fs))] s.heap := hP
  have hl := lv_entry ([.ref h0]) (n := 1) (Nat.le_of_ble_eq_true rfl)
  rw [lg_entry_eq]
  generalize (lg_sl ([.ref h0]) ++ List.replicate (1 - (lg_sl ([.ref h0])).length) Slot.unset).toArray = ls at hl ⊢
  have hl : lv_has ls 1 [(0, .ref h0)] := hl
  refine lv_aload_n hx hb d_MSetting_init_0 rfl (lv_at hl 0 rfl) ?_
  refine W.objInit hx hb hown (hts (.methodLink "ScholarsPressModel$Setting" 5 objectInit) k_3202) (hts (.instanceMethod objectInit) k_289) (hts _ k_oi) rfl (by rw [hml]; exact hl.1) rfl d_MSetting_init_1 (Nat.le_of_ble_eq_true rfl) (Nat.le_of_ble_eq_true rfl) ?_
  refine W.eq (g2 := F0 m 4 ls []) rfl ?_
  refine lv_aload_n hx hb d_MSetting_init_4 rfl (lv_at hl 0 rfl) ?_
  refine va_new (D := (dC, dI)) (ci := 12) (fs := DEF_MTree) (C := "ScholarsPressModel$Tree") (T := F_MTree) (N := 30) hx hb hts in_MTree t_MTree t_MTree_ok hown (hts (.classLink "ScholarsPressModel$Setting" 11 "ScholarsPressModel$Tree") k_3203) (hts (.instantiable "ScholarsPressModel$Tree" 30) k_3079) (hts (.initialized "ScholarsPressModel$Tree") k_253) hK hP hD hS hA rfl df_MTree (Nat.le_of_ble_eq_true rfl) (Nat.le_of_ble_eq_true rfl) d_MSetting_init_5 (fun q_1 H hP hD hS => ?_)
  have hP : va_P (dC, dI) classes [(h0, .inr (13, fs)), (q_1, .inr (12, DEF_MTree))] H := hP
  have hD : va_D A [(h0, .inr (13, fs)), (q_1, .inr (12, DEF_MTree))] := hD
  refine lv_dup hx hb d_MSetting_init_8 rfl ?_
  refine vi_v (wc := [(q_1, .inr (12, DEF_MTree))]) (wr := [(h0, .inr (13, fs))]) (va_runIN (As := []) (rest := [.ref q_1, .ref h0]) ⟨hx, hb, hml, hown, hts⟩ (c_MTree_init l dC dI q_1 DEF_MTree H.size rfl) (⟨va_cnB (host := "ScholarsPressModel") 0 hts (tt_1 kw_MTree_init rfl) rfl rfl rfl (va_Nw.of rfl (hts _ k_3204)) (hts _ k_253) (by decide +kernel) ⟨Nat.le_of_ble_eq_true rfl, Nat.le_of_ble_eq_true rfl⟩, rfl, hts _ k_3081⟩) ⟨pr_blind, pr_pre hb0 (hP.sub [1] rfl) (hK.sub [] rfl) (hD.sub [1] (by decide) rfl)⟩ rfl rfl hl.1 rfl (lv_room (Nat.le_of_ble_eq_true rfl)) d_MSetting_init_9 ⟨Nat.le_of_ble_eq_true rfl, Nat.le_of_ble_eq_true rfl⟩) hP hD hK hS hA [1] [0] rfl rfl (by decide) (by decide) (fun u H locs hw hP hK hD hS => ?_)
  have hP : va_P (dC, dI) classes [(h0, .inr (13, fs)), (q_1, .inr (12, u))] H := hP
  have hD : va_D A [(h0, .inr (13, fs)), (q_1, .inr (12, u))] := hD
  have hK : va_K (dC, dI) classes [] s := hK
  refine va_putF (D := (dC, dI)) (ci := 13) (v := .ref q_1) (ty := .object "ScholarsPressModel$Tree") (C := "ScholarsPressModel$Setting") (T := F_MSetting) (N := 141) hx hb hts in_MSetting t_MSetting t_MSetting_ok n_MSetting hown hK hP hD hS 0 rfl rfl 0 (by decide) (hts (.fieldLink "ScholarsPressModel$Setting" 14 "ScholarsPressModel$Setting" "tree" "LScholarsPressModel$Tree;") k_3205) (fun _ h9 => h9) rfl hin rfl (by decide +kernel) rfl rfl (by rw [hlen]; decide) d_MSetting_init_12 (fun H locs hP hD hS => ?_)
  have hP := hP.sub (ws' := [(h0, .inr (13, fs.set 0 (.ref q_1)))]) [0] rfl
  have hD := hD.sub (ws' := [(h0, .inr (13, fs.set 0 (.ref q_1)))]) [0] (by decide) rfl
  obtain ⟨fs_2, efs_2⟩ : ∃ z, z = fs.set 0 (.ref q_1) := ⟨_, rfl⟩
  have hlen : fs_2.length = 141 := by rw [efs_2, List.length_set]; exact hlen
  have hP : va_P (dC, dI) classes [(h0, .inr (13, fs_2))] H := by rw [efs_2]; exact hP
  have hD : va_D A [(h0, .inr (13, fs_2))] := by rw [efs_2]; exact hD
  refine lv_aload_n hx hb d_MSetting_init_15 rfl (lv_at hl 0 rfl) ?_
  refine lv_sipush (v := 24008) hx hb d_MSetting_init_16 (by decide) ?_
  refine ca_np (n := 24008) (Nn := 24008) (a0 := (24008, .inl (fun _ => 0))) (q0 := 0) (ci := 13) (k := 5) (C := "ScholarsPressModel$Setting") (T := F_MSetting) (N := 141) hx hb hts in_MSetting t_MSetting t_MSetting_ok n_MSetting hown k_338 rfl hK hP hD hS hA rfl hlen rfl (by decide) (hts (.fieldLink "ScholarsPressModel$Setting" 18 "ScholarsPressModel$Setting" "b" "[B") k_3212) (fun _ h9 => h9) rfl hin rfl (by decide +kernel) (fun _ => rfl) (by decide) (by decide) (by decide) (Nat.le_of_ble_eq_true rfl) (Nat.le_of_ble_eq_true rfl) d_MSetting_init_19 d_MSetting_init_21 (fun q_3 H locs hP hD hS => ?_)
  obtain ⟨fs_4, efs_4⟩ : ∃ z, z = fs_2.set 5 (.ref q_3) := ⟨_, rfl⟩
  have hlen : fs_4.length = 141 := by rw [efs_4, List.length_set]; exact hlen
  have hP : va_P (dC, dI) classes [(h0, .inr (13, fs_4))] H := by rw [efs_4]; exact hP
  have hD : va_D A [(h0, .inr (13, fs_4))] := by rw [efs_4]; exact hD
  refine lv_aload_n hx hb d_MSetting_init_24 rfl (lv_at hl 0 rfl) ?_
  refine lv_sipush (v := 24008) hx hb d_MSetting_init_25 (by decide) ?_
  refine ca_np (n := 24008) (Nn := 24008) (a0 := (24008, .inl (fun _ => 0))) (q0 := 0) (ci := 13) (k := 6) (C := "ScholarsPressModel$Setting") (T := F_MSetting) (N := 141) hx hb hts in_MSetting t_MSetting t_MSetting_ok n_MSetting hown k_408 rfl hK hP hD hS hA rfl hlen rfl (by decide) (hts (.fieldLink "ScholarsPressModel$Setting" 22 "ScholarsPressModel$Setting" "size" "[I") k_3214) (fun _ h9 => h9) rfl hin rfl (by decide +kernel) (fun _ => rfl) (by decide) (by decide) (by decide) (Nat.le_of_ble_eq_true rfl) (Nat.le_of_ble_eq_true rfl) d_MSetting_init_28 d_MSetting_init_30 (fun q_5 H locs hP hD hS => ?_)
  obtain ⟨fs_6, efs_6⟩ : ∃ z, z = fs_4.set 6 (.ref q_5) := ⟨_, rfl⟩
  have hlen : fs_6.length = 141 := by rw [efs_6, List.length_set]; exact hlen
  have hP : va_P (dC, dI) classes [(h0, .inr (13, fs_6))] H := by rw [efs_6]; exact hP
  have hD : va_D A [(h0, .inr (13, fs_6))] := by rw [efs_6]; exact hD
  refine lv_aload_n hx hb d_MSetting_init_33 rfl (lv_at hl 0 rfl) ?_
  refine lv_sipush (v := 24008) hx hb d_MSetting_init_34 (by decide) ?_
  refine ca_np (n := 24008) (Nn := 24008) (a0 := (24008, .inl (fun _ => 0))) (q0 := 0) (ci := 13) (k := 7) (C := "ScholarsPressModel$Setting") (T := F_MSetting) (N := 141) hx hb hts in_MSetting t_MSetting t_MSetting_ok n_MSetting hown k_408 rfl hK hP hD hS hA rfl hlen rfl (by decide) (hts (.fieldLink "ScholarsPressModel$Setting" 26 "ScholarsPressModel$Setting" "seq" "[I") k_3215) (fun _ h9 => h9) rfl hin rfl (by decide +kernel) (fun _ => rfl) (by decide) (by decide) (by decide) (Nat.le_of_ble_eq_true rfl) (Nat.le_of_ble_eq_true rfl) d_MSetting_init_37 d_MSetting_init_39 (fun q_7 H locs hP hD hS => ?_)
  obtain ⟨fs_8, efs_8⟩ : ∃ z, z = fs_6.set 7 (.ref q_7) := ⟨_, rfl⟩
  have hlen : fs_8.length = 141 := by rw [efs_8, List.length_set]; exact hlen
  have hP : va_P (dC, dI) classes [(h0, .inr (13, fs_8))] H := by rw [efs_8]; exact hP
  have hD : va_D A [(h0, .inr (13, fs_8))] := by rw [efs_8]; exact hD
  refine lv_aload_n hx hb d_MSetting_init_42 rfl (lv_at hl 0 rfl) ?_
  refine lv_sipush (v := 1200) hx hb d_MSetting_init_43 (by decide) ?_
  refine ca_np (n := 1200) (Nn := 1200) (a0 := (1200, .inl (fun _ => 0))) (q0 := 0) (ci := 13) (k := 10) (C := "ScholarsPressModel$Setting") (T := F_MSetting) (N := 141) hx hb hts in_MSetting t_MSetting t_MSetting_ok n_MSetting hown k_408 rfl hK hP hD hS hA rfl hlen rfl (by decide) (hts (.fieldLink "ScholarsPressModel$Setting" 29 "ScholarsPressModel$Setting" "from" "[I") k_3219) (fun _ h9 => h9) rfl hin rfl (by decide +kernel) (fun _ => rfl) (by decide) (by decide) (by decide) (Nat.le_of_ble_eq_true rfl) (Nat.le_of_ble_eq_true rfl) d_MSetting_init_46 d_MSetting_init_48 (fun q_9 H locs hP hD hS => ?_)
  obtain ⟨fs_10, efs_10⟩ : ∃ z, z = fs_8.set 10 (.ref q_9) := ⟨_, rfl⟩
  have hlen : fs_10.length = 141 := by rw [efs_10, List.length_set]; exact hlen
  have hP : va_P (dC, dI) classes [(h0, .inr (13, fs_10))] H := by rw [efs_10]; exact hP
  have hD : va_D A [(h0, .inr (13, fs_10))] := by rw [efs_10]; exact hD
  refine lv_aload_n hx hb d_MSetting_init_51 rfl (lv_at hl 0 rfl) ?_
  refine lv_sipush (v := 1200) hx hb d_MSetting_init_52 (by decide) ?_
  refine ca_np (n := 1200) (Nn := 1200) (a0 := (1200, .inl (fun _ => 0))) (q0 := 0) (ci := 13) (k := 11) (C := "ScholarsPressModel$Setting") (T := F_MSetting) (N := 141) hx hb hts in_MSetting t_MSetting t_MSetting_ok n_MSetting hown k_408 rfl hK hP hD hS hA rfl hlen rfl (by decide) (hts (.fieldLink "ScholarsPressModel$Setting" 32 "ScholarsPressModel$Setting" "to" "[I") k_3221) (fun _ h9 => h9) rfl hin rfl (by decide +kernel) (fun _ => rfl) (by decide) (by decide) (by decide) (Nat.le_of_ble_eq_true rfl) (Nat.le_of_ble_eq_true rfl) d_MSetting_init_55 d_MSetting_init_57 (fun q_11 H locs hP hD hS => ?_)
  obtain ⟨fs_12, efs_12⟩ : ∃ z, z = fs_10.set 11 (.ref q_11) := ⟨_, rfl⟩
  have hlen : fs_12.length = 141 := by rw [efs_12, List.length_set]; exact hlen
  have hP : va_P (dC, dI) classes [(h0, .inr (13, fs_12))] H := by rw [efs_12]; exact hP
  have hD : va_D A [(h0, .inr (13, fs_12))] := by rw [efs_12]; exact hD
  refine lv_aload_n hx hb d_MSetting_init_60 rfl (lv_at hl 0 rfl) ?_
  refine lv_sipush (v := 1200) hx hb d_MSetting_init_61 (by decide) ?_
  refine ca_np (n := 1200) (Nn := 1200) (a0 := (1200, .inl (fun _ => 0))) (q0 := 0) (ci := 13) (k := 12) (C := "ScholarsPressModel$Setting") (T := F_MSetting) (N := 141) hx hb hts in_MSetting t_MSetting t_MSetting_ok n_MSetting hown k_408 rfl hK hP hD hS hA rfl hlen rfl (by decide) (hts (.fieldLink "ScholarsPressModel$Setting" 35 "ScholarsPressModel$Setting" "owner" "[I") k_3223) (fun _ h9 => h9) rfl hin rfl (by decide +kernel) (fun _ => rfl) (by decide) (by decide) (by decide) (Nat.le_of_ble_eq_true rfl) (Nat.le_of_ble_eq_true rfl) d_MSetting_init_64 d_MSetting_init_66 (fun q_13 H locs hP hD hS => ?_)
  obtain ⟨fs_14, efs_14⟩ : ∃ z, z = fs_12.set 12 (.ref q_13) := ⟨_, rfl⟩
  have hlen : fs_14.length = 141 := by rw [efs_14, List.length_set]; exact hlen
  have hP : va_P (dC, dI) classes [(h0, .inr (13, fs_14))] H := by rw [efs_14]; exact hP
  have hD : va_D A [(h0, .inr (13, fs_14))] := by rw [efs_14]; exact hD
  refine lv_aload_n hx hb d_MSetting_init_69 rfl (lv_at hl 0 rfl) ?_
  refine lv_sipush (v := 1200) hx hb d_MSetting_init_70 (by decide) ?_
  refine ca_np (n := 1200) (Nn := 1200) (a0 := (1200, .inl (fun _ => 0))) (q0 := 0) (ci := 13) (k := 13) (C := "ScholarsPressModel$Setting") (T := F_MSetting) (N := 141) hx hb hts in_MSetting t_MSetting t_MSetting_ok n_MSetting hown k_408 rfl hK hP hD hS hA rfl hlen rfl (by decide) (hts (.fieldLink "ScholarsPressModel$Setting" 38 "ScholarsPressModel$Setting" "kind" "[I") k_3225) (fun _ h9 => h9) rfl hin rfl (by decide +kernel) (fun _ => rfl) (by decide) (by decide) (by decide) (Nat.le_of_ble_eq_true rfl) (Nat.le_of_ble_eq_true rfl) d_MSetting_init_73 d_MSetting_init_75 (fun q_15 H locs hP hD hS => ?_)
  obtain ⟨fs_16, efs_16⟩ : ∃ z, z = fs_14.set 13 (.ref q_15) := ⟨_, rfl⟩
  have hlen : fs_16.length = 141 := by rw [efs_16, List.length_set]; exact hlen
  have hP : va_P (dC, dI) classes [(h0, .inr (13, fs_16))] H := by rw [efs_16]; exact hP
  have hD : va_D A [(h0, .inr (13, fs_16))] := by rw [efs_16]; exact hD
  refine lv_aload_n hx hb d_MSetting_init_78 rfl (lv_at hl 0 rfl) ?_
  refine lv_sipush (v := 1200) hx hb d_MSetting_init_79 (by decide) ?_
  refine ca_np (n := 1200) (Nn := 1200) (a0 := (1200, .inl (fun _ => 0))) (q0 := 0) (ci := 13) (k := 14) (C := "ScholarsPressModel$Setting") (T := F_MSetting) (N := 141) hx hb hts in_MSetting t_MSetting t_MSetting_ok n_MSetting hown k_408 rfl hK hP hD hS hA rfl hlen rfl (by decide) (hts (.fieldLink "ScholarsPressModel$Setting" 41 "ScholarsPressModel$Setting" "left" "[I") k_3226) (fun _ h9 => h9) rfl hin rfl (by decide +kernel) (fun _ => rfl) (by decide) (by decide) (by decide) (Nat.le_of_ble_eq_true rfl) (Nat.le_of_ble_eq_true rfl) d_MSetting_init_82 d_MSetting_init_84 (fun q_17 H locs hP hD hS => ?_)
  obtain ⟨fs_18, efs_18⟩ : ∃ z, z = fs_16.set 14 (.ref q_17) := ⟨_, rfl⟩
  have hlen : fs_18.length = 141 := by rw [efs_18, List.length_set]; exact hlen
  have hP : va_P (dC, dI) classes [(h0, .inr (13, fs_18))] H := by rw [efs_18]; exact hP
  have hD : va_D A [(h0, .inr (13, fs_18))] := by rw [efs_18]; exact hD
  refine lv_aload_n hx hb d_MSetting_init_87 rfl (lv_at hl 0 rfl) ?_
  refine lv_sipush (v := 1200) hx hb d_MSetting_init_88 (by decide) ?_
  refine ca_np (n := 1200) (Nn := 1200) (a0 := (1200, .inl (fun _ => 0))) (q0 := 0) (ci := 13) (k := 15) (C := "ScholarsPressModel$Setting") (T := F_MSetting) (N := 141) hx hb hts in_MSetting t_MSetting t_MSetting_ok n_MSetting hown k_408 rfl hK hP hD hS hA rfl hlen rfl (by decide) (hts (.fieldLink "ScholarsPressModel$Setting" 44 "ScholarsPressModel$Setting" "breaks" "[I") k_3227) (fun _ h9 => h9) rfl hin rfl (by decide +kernel) (fun _ => rfl) (by decide) (by decide) (by decide) (Nat.le_of_ble_eq_true rfl) (Nat.le_of_ble_eq_true rfl) d_MSetting_init_91 d_MSetting_init_93 (fun q_19 H locs hP hD hS => ?_)
  obtain ⟨fs_20, efs_20⟩ : ∃ z, z = fs_18.set 15 (.ref q_19) := ⟨_, rfl⟩
  have hlen : fs_20.length = 141 := by rw [efs_20, List.length_set]; exact hlen
  have hP : va_P (dC, dI) classes [(h0, .inr (13, fs_20))] H := by rw [efs_20]; exact hP
  have hD : va_D A [(h0, .inr (13, fs_20))] := by rw [efs_20]; exact hD
  refine lv_aload_n hx hb d_MSetting_init_96 rfl (lv_at hl 0 rfl) ?_
  refine lv_sipush (v := 1201) hx hb d_MSetting_init_97 (by decide) ?_
  refine ca_np (n := 1201) (Nn := 1201) (a0 := (1201, .inl (fun _ => 0))) (q0 := 0) (ci := 13) (k := 16) (C := "ScholarsPressModel$Setting") (T := F_MSetting) (N := 141) hx hb hts in_MSetting t_MSetting t_MSetting_ok n_MSetting hown k_408 rfl hK hP hD hS hA rfl hlen rfl (by decide) (hts (.fieldLink "ScholarsPressModel$Setting" 47 "ScholarsPressModel$Setting" "breakAt" "[I") k_3229) (fun _ h9 => h9) rfl hin rfl (by decide +kernel) (fun _ => rfl) (by decide) (by decide) (by decide) (Nat.le_of_ble_eq_true rfl) (Nat.le_of_ble_eq_true rfl) d_MSetting_init_100 d_MSetting_init_102 (fun q_21 H locs hP hD hS => ?_)
  obtain ⟨fs_22, efs_22⟩ : ∃ z, z = fs_20.set 16 (.ref q_21) := ⟨_, rfl⟩
  have hlen : fs_22.length = 141 := by rw [efs_22, List.length_set]; exact hlen
  have hP : va_P (dC, dI) classes [(h0, .inr (13, fs_22))] H := by rw [efs_22]; exact hP
  have hD : va_D A [(h0, .inr (13, fs_22))] := by rw [efs_22]; exact hD
  refine lv_aload_n hx hb d_MSetting_init_105 rfl (lv_at hl 0 rfl) ?_
  refine lv_sipush (v := 1200) hx hb d_MSetting_init_106 (by decide) ?_
  refine ca_np (n := 1200) (Nn := 1200) (a0 := (1200, .inl (fun _ => 0))) (q0 := 0) (ci := 13) (k := 17) (C := "ScholarsPressModel$Setting") (T := F_MSetting) (N := 141) hx hb hts in_MSetting t_MSetting t_MSetting_ok n_MSetting hown k_408 rfl hK hP hD hS hA rfl hlen rfl (by decide) (hts (.fieldLink "ScholarsPressModel$Setting" 50 "ScholarsPressModel$Setting" "lines" "[I") k_3230) (fun _ h9 => h9) rfl hin rfl (by decide +kernel) (fun _ => rfl) (by decide) (by decide) (by decide) (Nat.le_of_ble_eq_true rfl) (Nat.le_of_ble_eq_true rfl) d_MSetting_init_109 d_MSetting_init_111 (fun q_23 H locs hP hD hS => ?_)
  obtain ⟨fs_24, efs_24⟩ : ∃ z, z = fs_22.set 17 (.ref q_23) := ⟨_, rfl⟩
  have hlen : fs_24.length = 141 := by rw [efs_24, List.length_set]; exact hlen
  have hP : va_P (dC, dI) classes [(h0, .inr (13, fs_24))] H := by rw [efs_24]; exact hP
  have hD : va_D A [(h0, .inr (13, fs_24))] := by rw [efs_24]; exact hD
  refine lv_aload_n hx hb d_MSetting_init_114 rfl (lv_at hl 0 rfl) ?_
  refine lv_sipush (v := 1201) hx hb d_MSetting_init_115 (by decide) ?_
  refine ca_np (n := 1201) (Nn := 1201) (a0 := (1201, .inl (fun _ => 0))) (q0 := 0) (ci := 13) (k := 18) (C := "ScholarsPressModel$Setting") (T := F_MSetting) (N := 141) hx hb hts in_MSetting t_MSetting t_MSetting_ok n_MSetting hown k_408 rfl hK hP hD hS hA rfl hlen rfl (by decide) (hts (.fieldLink "ScholarsPressModel$Setting" 53 "ScholarsPressModel$Setting" "lineAt" "[I") k_3232) (fun _ h9 => h9) rfl hin rfl (by decide +kernel) (fun _ => rfl) (by decide) (by decide) (by decide) (Nat.le_of_ble_eq_true rfl) (Nat.le_of_ble_eq_true rfl) d_MSetting_init_118 d_MSetting_init_120 (fun q_25 H locs hP hD hS => ?_)
  obtain ⟨fs_26, efs_26⟩ : ∃ z, z = fs_24.set 18 (.ref q_25) := ⟨_, rfl⟩
  have hlen : fs_26.length = 141 := by rw [efs_26, List.length_set]; exact hlen
  have hP : va_P (dC, dI) classes [(h0, .inr (13, fs_26))] H := by rw [efs_26]; exact hP
  have hD : va_D A [(h0, .inr (13, fs_26))] := by rw [efs_26]; exact hD
  refine lv_aload_n hx hb d_MSetting_init_123 rfl (lv_at hl 0 rfl) ?_
  refine lv_sipush (v := 1200) hx hb d_MSetting_init_124 (by decide) ?_
  refine ca_np (n := 1200) (Nn := 1200) (a0 := (1200, .inl (fun _ => 0))) (q0 := 0) (ci := 13) (k := 19) (C := "ScholarsPressModel$Setting") (T := F_MSetting) (N := 141) hx hb hts in_MSetting t_MSetting t_MSetting_ok n_MSetting hown k_408 rfl hK hP hD hS hA rfl hlen rfl (by decide) (hts (.fieldLink "ScholarsPressModel$Setting" 56 "ScholarsPressModel$Setting" "told" "[I") k_3234) (fun _ h9 => h9) rfl hin rfl (by decide +kernel) (fun _ => rfl) (by decide) (by decide) (by decide) (Nat.le_of_ble_eq_true rfl) (Nat.le_of_ble_eq_true rfl) d_MSetting_init_127 d_MSetting_init_129 (fun q_27 H locs hP hD hS => ?_)
  obtain ⟨fs_28, efs_28⟩ : ∃ z, z = fs_26.set 19 (.ref q_27) := ⟨_, rfl⟩
  have hlen : fs_28.length = 141 := by rw [efs_28, List.length_set]; exact hlen
  have hP : va_P (dC, dI) classes [(h0, .inr (13, fs_28))] H := by rw [efs_28]; exact hP
  have hD : va_D A [(h0, .inr (13, fs_28))] := by rw [efs_28]; exact hD
  refine lv_aload_n hx hb d_MSetting_init_132 rfl (lv_at hl 0 rfl) ?_
  refine lv_sipush (v := 1200) hx hb d_MSetting_init_133 (by decide) ?_
  refine ca_np (n := 1200) (Nn := 1200) (a0 := (1200, .inl (fun _ => 0))) (q0 := 0) (ci := 13) (k := 20) (C := "ScholarsPressModel$Setting") (T := F_MSetting) (N := 141) hx hb hts in_MSetting t_MSetting t_MSetting_ok n_MSetting hown k_408 rfl hK hP hD hS hA rfl hlen rfl (by decide) (hts (.fieldLink "ScholarsPressModel$Setting" 59 "ScholarsPressModel$Setting" "indent" "[I") k_3236) (fun _ h9 => h9) rfl hin rfl (by decide +kernel) (fun _ => rfl) (by decide) (by decide) (by decide) (Nat.le_of_ble_eq_true rfl) (Nat.le_of_ble_eq_true rfl) d_MSetting_init_136 d_MSetting_init_138 (fun q_29 H locs hP hD hS => ?_)
  obtain ⟨fs_30, efs_30⟩ : ∃ z, z = fs_28.set 20 (.ref q_29) := ⟨_, rfl⟩
  have hlen : fs_30.length = 141 := by rw [efs_30, List.length_set]; exact hlen
  have hP : va_P (dC, dI) classes [(h0, .inr (13, fs_30))] H := by rw [efs_30]; exact hP
  have hD : va_D A [(h0, .inr (13, fs_30))] := by rw [efs_30]; exact hD
  refine lv_aload_n hx hb d_MSetting_init_141 rfl (lv_at hl 0 rfl) ?_
  refine lv_sipush (v := 1200) hx hb d_MSetting_init_142 (by decide) ?_
  refine ca_np (n := 1200) (Nn := 1200) (a0 := (1200, .inr (.inl (fun _ => 0)))) (q0 := 0) (ci := 13) (k := 21) (C := "ScholarsPressModel$Setting") (T := F_MSetting) (N := 141) hx hb hts in_MSetting t_MSetting t_MSetting_ok n_MSetting hown k_409 rfl hK hP hD hS hA rfl hlen rfl (by decide) (hts (.fieldLink "ScholarsPressModel$Setting" 62 "ScholarsPressModel$Setting" "width" "[J") k_3237) (fun _ h9 => h9) rfl hin rfl (by decide +kernel) (fun _ => rfl) (by decide) (by decide) (by decide) (Nat.le_of_ble_eq_true rfl) (Nat.le_of_ble_eq_true rfl) d_MSetting_init_145 d_MSetting_init_147 (fun q_31 H locs hP hD hS => ?_)
  obtain ⟨fs_32, efs_32⟩ : ∃ z, z = fs_30.set 21 (.ref q_31) := ⟨_, rfl⟩
  have hlen : fs_32.length = 141 := by rw [efs_32, List.length_set]; exact hlen
  have hP : va_P (dC, dI) classes [(h0, .inr (13, fs_32))] H := by rw [efs_32]; exact hP
  have hD : va_D A [(h0, .inr (13, fs_32))] := by rw [efs_32]; exact hD
  refine lv_aload_n hx hb d_MSetting_init_150 rfl (lv_at hl 0 rfl) ?_
  refine lv_sipush (v := 1200) hx hb d_MSetting_init_151 (by decide) ?_
  refine ca_np (n := 1200) (Nn := 1200) (a0 := (1200, .inr (.inl (fun _ => 0)))) (q0 := 0) (ci := 13) (k := 22) (C := "ScholarsPressModel$Setting") (T := F_MSetting) (N := 141) hx hb hts in_MSetting t_MSetting t_MSetting_ok n_MSetting hown k_409 rfl hK hP hD hS hA rfl hlen rfl (by decide) (hts (.fieldLink "ScholarsPressModel$Setting" 66 "ScholarsPressModel$Setting" "cost" "[J") k_3239) (fun _ h9 => h9) rfl hin rfl (by decide +kernel) (fun _ => rfl) (by decide) (by decide) (by decide) (Nat.le_of_ble_eq_true rfl) (Nat.le_of_ble_eq_true rfl) d_MSetting_init_154 d_MSetting_init_156 (fun q_33 H locs hP hD hS => ?_)
  obtain ⟨fs_34, efs_34⟩ : ∃ z, z = fs_32.set 22 (.ref q_33) := ⟨_, rfl⟩
  have hlen : fs_34.length = 141 := by rw [efs_34, List.length_set]; exact hlen
  have hP : va_P (dC, dI) classes [(h0, .inr (13, fs_34))] H := by rw [efs_34]; exact hP
  have hD : va_D A [(h0, .inr (13, fs_34))] := by rw [efs_34]; exact hD
  refine lv_aload_n hx hb d_MSetting_init_159 rfl (lv_at hl 0 rfl) ?_
  refine lv_sipush (v := 25208) hx hb d_MSetting_init_160 (by decide) ?_
  refine ca_np (n := 25208) (Nn := 25208) (a0 := (25208, .inl (fun _ => 0))) (q0 := 0) (ci := 13) (k := 23) (C := "ScholarsPressModel$Setting") (T := F_MSetting) (N := 141) hx hb hts in_MSetting t_MSetting t_MSetting_ok n_MSetting hown k_408 rfl hK hP hD hS hA rfl hlen rfl (by decide) (hts (.fieldLink "ScholarsPressModel$Setting" 69 "ScholarsPressModel$Setting" "type" "[I") k_3241) (fun _ h9 => h9) rfl hin rfl (by decide +kernel) (fun _ => rfl) (by decide) (by decide) (by decide) (Nat.le_of_ble_eq_true rfl) (Nat.le_of_ble_eq_true rfl) d_MSetting_init_163 d_MSetting_init_165 (fun q_35 H locs hP hD hS => ?_)
  obtain ⟨fs_36, efs_36⟩ : ∃ z, z = fs_34.set 23 (.ref q_35) := ⟨_, rfl⟩
  have hlen : fs_36.length = 141 := by rw [efs_36, List.length_set]; exact hlen
  have hP : va_P (dC, dI) classes [(h0, .inr (13, fs_36))] H := by rw [efs_36]; exact hP
  have hD : va_D A [(h0, .inr (13, fs_36))] := by rw [efs_36]; exact hD
  refine lv_aload_n hx hb d_MSetting_init_168 rfl (lv_at hl 0 rfl) ?_
  refine lv_sipush (v := 25208) hx hb d_MSetting_init_169 (by decide) ?_
  refine ca_np (n := 25208) (Nn := 25208) (a0 := (25208, .inl (fun _ => 0))) (q0 := 0) (ci := 13) (k := 24) (C := "ScholarsPressModel$Setting") (T := F_MSetting) (N := 141) hx hb hts in_MSetting t_MSetting t_MSetting_ok n_MSetting hown k_408 rfl hK hP hD hS hA rfl hlen rfl (by decide) (hts (.fieldLink "ScholarsPressModel$Setting" 72 "ScholarsPressModel$Setting" "pos" "[I") k_3242) (fun _ h9 => h9) rfl hin rfl (by decide +kernel) (fun _ => rfl) (by decide) (by decide) (by decide) (Nat.le_of_ble_eq_true rfl) (Nat.le_of_ble_eq_true rfl) d_MSetting_init_172 d_MSetting_init_174 (fun q_37 H locs hP hD hS => ?_)
  obtain ⟨fs_38, efs_38⟩ : ∃ z, z = fs_36.set 24 (.ref q_37) := ⟨_, rfl⟩
  have hlen : fs_38.length = 141 := by rw [efs_38, List.length_set]; exact hlen
  have hP : va_P (dC, dI) classes [(h0, .inr (13, fs_38))] H := by rw [efs_38]; exact hP
  have hD : va_D A [(h0, .inr (13, fs_38))] := by rw [efs_38]; exact hD
  refine lv_aload_n hx hb d_MSetting_init_177 rfl (lv_at hl 0 rfl) ?_
  refine lv_sipush (v := 25208) hx hb d_MSetting_init_178 (by decide) ?_
  refine ca_np (n := 25208) (Nn := 25208) (a0 := (25208, .inr (.inl (fun _ => 0)))) (q0 := 0) (ci := 13) (k := 25) (C := "ScholarsPressModel$Setting") (T := F_MSetting) (N := 141) hx hb hts in_MSetting t_MSetting t_MSetting_ok n_MSetting hown k_409 rfl hK hP hD hS hA rfl hlen rfl (by decide) (hts (.fieldLink "ScholarsPressModel$Setting" 75 "ScholarsPressModel$Setting" "part" "[J") k_3243) (fun _ h9 => h9) rfl hin rfl (by decide +kernel) (fun _ => rfl) (by decide) (by decide) (by decide) (Nat.le_of_ble_eq_true rfl) (Nat.le_of_ble_eq_true rfl) d_MSetting_init_181 d_MSetting_init_183 (fun q_39 H locs hP hD hS => ?_)
  obtain ⟨fs_40, efs_40⟩ : ∃ z, z = fs_38.set 25 (.ref q_39) := ⟨_, rfl⟩
  have hlen : fs_40.length = 141 := by rw [efs_40, List.length_set]; exact hlen
  have hP : va_P (dC, dI) classes [(h0, .inr (13, fs_40))] H := by rw [efs_40]; exact hP
  have hD : va_D A [(h0, .inr (13, fs_40))] := by rw [efs_40]; exact hD
  refine lv_aload_n hx hb d_MSetting_init_186 rfl (lv_at hl 0 rfl) ?_
  refine lv_sipush (v := 25208) hx hb d_MSetting_init_187 (by decide) ?_
  refine ca_np (n := 25208) (Nn := 25208) (a0 := (25208, .inr (.inl (fun _ => 0)))) (q0 := 0) (ci := 13) (k := 26) (C := "ScholarsPressModel$Setting") (T := F_MSetting) (N := 141) hx hb hts in_MSetting t_MSetting t_MSetting_ok n_MSetting hown k_409 rfl hK hP hD hS hA rfl hlen rfl (by decide) (hts (.fieldLink "ScholarsPressModel$Setting" 78 "ScholarsPressModel$Setting" "glue" "[J") k_3244) (fun _ h9 => h9) rfl hin rfl (by decide +kernel) (fun _ => rfl) (by decide) (by decide) (by decide) (Nat.le_of_ble_eq_true rfl) (Nat.le_of_ble_eq_true rfl) d_MSetting_init_190 d_MSetting_init_192 (fun q_41 H locs hP hD hS => ?_)
  obtain ⟨fs_42, efs_42⟩ : ∃ z, z = fs_40.set 26 (.ref q_41) := ⟨_, rfl⟩
  have hlen : fs_42.length = 141 := by rw [efs_42, List.length_set]; exact hlen
  have hP : va_P (dC, dI) classes [(h0, .inr (13, fs_42))] H := by rw [efs_42]; exact hP
  have hD : va_D A [(h0, .inr (13, fs_42))] := by rw [efs_42]; exact hD
  refine lv_aload_n hx hb d_MSetting_init_195 rfl (lv_at hl 0 rfl) ?_
  refine lv_sipush (v := 25208) hx hb d_MSetting_init_196 (by decide) ?_
  refine ca_np (n := 25208) (Nn := 25208) (a0 := (25208, .inr (.inl (fun _ => 0)))) (q0 := 0) (ci := 13) (k := 27) (C := "ScholarsPressModel$Setting") (T := F_MSetting) (N := 141) hx hb hts in_MSetting t_MSetting t_MSetting_ok n_MSetting hown k_409 rfl hK hP hD hS hA rfl hlen rfl (by decide) (hts (.fieldLink "ScholarsPressModel$Setting" 81 "ScholarsPressModel$Setting" "hyph" "[J") k_3245) (fun _ h9 => h9) rfl hin rfl (by decide +kernel) (fun _ => rfl) (by decide) (by decide) (by decide) (Nat.le_of_ble_eq_true rfl) (Nat.le_of_ble_eq_true rfl) d_MSetting_init_199 d_MSetting_init_201 (fun q_43 H locs hP hD hS => ?_)
  obtain ⟨fs_44, efs_44⟩ : ∃ z, z = fs_42.set 27 (.ref q_43) := ⟨_, rfl⟩
  have hlen : fs_44.length = 141 := by rw [efs_44, List.length_set]; exact hlen
  have hP : va_P (dC, dI) classes [(h0, .inr (13, fs_44))] H := by rw [efs_44]; exact hP
  have hD : va_D A [(h0, .inr (13, fs_44))] := by rw [efs_44]; exact hD
  refine lv_aload_n hx hb d_MSetting_init_204 rfl (lv_at hl 0 rfl) ?_
  refine lv_sipush (v := 25208) hx hb d_MSetting_init_205 (by decide) ?_
  refine ca_np (n := 25208) (Nn := 25208) (a0 := (25208, .inl (fun _ => 0))) (q0 := 0) (ci := 13) (k := 28) (C := "ScholarsPressModel$Setting") (T := F_MSetting) (N := 141) hx hb hts in_MSetting t_MSetting t_MSetting_ok n_MSetting hown k_408 rfl hK hP hD hS hA rfl hlen rfl (by decide) (hts (.fieldLink "ScholarsPressModel$Setting" 84 "ScholarsPressModel$Setting" "lineEnd" "[I") k_3246) (fun _ h9 => h9) rfl hin rfl (by decide +kernel) (fun _ => rfl) (by decide) (by decide) (by decide) (Nat.le_of_ble_eq_true rfl) (Nat.le_of_ble_eq_true rfl) d_MSetting_init_208 d_MSetting_init_210 (fun q_45 H locs hP hD hS => ?_)
  obtain ⟨fs_46, efs_46⟩ : ∃ z, z = fs_44.set 28 (.ref q_45) := ⟨_, rfl⟩
  have hlen : fs_46.length = 141 := by rw [efs_46, List.length_set]; exact hlen
  have hP : va_P (dC, dI) classes [(h0, .inr (13, fs_46))] H := by rw [efs_46]; exact hP
  have hD : va_D A [(h0, .inr (13, fs_46))] := by rw [efs_46]; exact hD
  refine lv_aload_n hx hb d_MSetting_init_213 rfl (lv_at hl 0 rfl) ?_
  refine lv_sipush (v := 25208) hx hb d_MSetting_init_214 (by decide) ?_
  refine ca_np (n := 25208) (Nn := 25208) (a0 := (25208, .inl (fun _ => 0))) (q0 := 0) (ci := 13) (k := 29) (C := "ScholarsPressModel$Setting") (T := F_MSetting) (N := 141) hx hb hts in_MSetting t_MSetting t_MSetting_ok n_MSetting hown k_408 rfl hK hP hD hS hA rfl hlen rfl (by decide) (hts (.fieldLink "ScholarsPressModel$Setting" 87 "ScholarsPressModel$Setting" "ratio" "[I") k_3248) (fun _ h9 => h9) rfl hin rfl (by decide +kernel) (fun _ => rfl) (by decide) (by decide) (by decide) (Nat.le_of_ble_eq_true rfl) (Nat.le_of_ble_eq_true rfl) d_MSetting_init_217 d_MSetting_init_219 (fun q_47 H locs hP hD hS => ?_)
  obtain ⟨fs_48, efs_48⟩ : ∃ z, z = fs_46.set 29 (.ref q_47) := ⟨_, rfl⟩
  have hlen : fs_48.length = 141 := by rw [efs_48, List.length_set]; exact hlen
  have hP : va_P (dC, dI) classes [(h0, .inr (13, fs_48))] H := by rw [efs_48]; exact hP
  have hD : va_D A [(h0, .inr (13, fs_48))] := by rw [efs_48]; exact hD
  refine lv_aload_n hx hb d_MSetting_init_222 rfl (lv_at hl 0 rfl) ?_
  refine lv_sipush (v := 1700) hx hb d_MSetting_init_223 (by decide) ?_
  refine ca_np (n := 1700) (Nn := 1700) (a0 := (1700, .inl (fun _ => 0))) (q0 := 0) (ci := 13) (k := 31) (C := "ScholarsPressModel$Setting") (T := F_MSetting) (N := 141) hx hb hts in_MSetting t_MSetting t_MSetting_ok n_MSetting hown k_408 rfl hK hP hD hS hA rfl hlen rfl (by decide) (hts (.fieldLink "ScholarsPressModel$Setting" 90 "ScholarsPressModel$Setting" "flowKind" "[I") k_3251) (fun _ h9 => h9) rfl hin rfl (by decide +kernel) (fun _ => rfl) (by decide) (by decide) (by decide) (Nat.le_of_ble_eq_true rfl) (Nat.le_of_ble_eq_true rfl) d_MSetting_init_226 d_MSetting_init_228 (fun q_49 H locs hP hD hS => ?_)
  obtain ⟨fs_50, efs_50⟩ : ∃ z, z = fs_48.set 31 (.ref q_49) := ⟨_, rfl⟩
  have hlen : fs_50.length = 141 := by rw [efs_50, List.length_set]; exact hlen
  have hP : va_P (dC, dI) classes [(h0, .inr (13, fs_50))] H := by rw [efs_50]; exact hP
  have hD : va_D A [(h0, .inr (13, fs_50))] := by rw [efs_50]; exact hD
  refine lv_aload_n hx hb d_MSetting_init_231 rfl (lv_at hl 0 rfl) ?_
  refine lv_sipush (v := 1700) hx hb d_MSetting_init_232 (by decide) ?_
  refine ca_np (n := 1700) (Nn := 1700) (a0 := (1700, .inl (fun _ => 0))) (q0 := 0) (ci := 13) (k := 32) (C := "ScholarsPressModel$Setting") (T := F_MSetting) (N := 141) hx hb hts in_MSetting t_MSetting t_MSetting_ok n_MSetting hown k_408 rfl hK hP hD hS hA rfl hlen rfl (by decide) (hts (.fieldLink "ScholarsPressModel$Setting" 93 "ScholarsPressModel$Setting" "flowOf" "[I") k_3252) (fun _ h9 => h9) rfl hin rfl (by decide +kernel) (fun _ => rfl) (by decide) (by decide) (by decide) (Nat.le_of_ble_eq_true rfl) (Nat.le_of_ble_eq_true rfl) d_MSetting_init_235 d_MSetting_init_237 (fun q_51 H locs hP hD hS => ?_)
  obtain ⟨fs_52, efs_52⟩ : ∃ z, z = fs_50.set 32 (.ref q_51) := ⟨_, rfl⟩
  have hlen : fs_52.length = 141 := by rw [efs_52, List.length_set]; exact hlen
  have hP : va_P (dC, dI) classes [(h0, .inr (13, fs_52))] H := by rw [efs_52]; exact hP
  have hD : va_D A [(h0, .inr (13, fs_52))] := by rw [efs_52]; exact hD
  refine lv_aload_n hx hb d_MSetting_init_240 rfl (lv_at hl 0 rfl) ?_
  refine lv_sipush (v := 1700) hx hb d_MSetting_init_241 (by decide) ?_
  refine ca_np (n := 1700) (Nn := 1700) (a0 := (1700, .inl (fun _ => 0))) (q0 := 0) (ci := 13) (k := 33) (C := "ScholarsPressModel$Setting") (T := F_MSetting) (N := 141) hx hb hts in_MSetting t_MSetting t_MSetting_ok n_MSetting hown k_408 rfl hK hP hD hS hA rfl hlen rfl (by decide) (hts (.fieldLink "ScholarsPressModel$Setting" 96 "ScholarsPressModel$Setting" "flowGap" "[I") k_3253) (fun _ h9 => h9) rfl hin rfl (by decide +kernel) (fun _ => rfl) (by decide) (by decide) (by decide) (Nat.le_of_ble_eq_true rfl) (Nat.le_of_ble_eq_true rfl) d_MSetting_init_244 d_MSetting_init_246 (fun q_53 H locs hP hD hS => ?_)
  obtain ⟨fs_54, efs_54⟩ : ∃ z, z = fs_52.set 33 (.ref q_53) := ⟨_, rfl⟩
  have hlen : fs_54.length = 141 := by rw [efs_54, List.length_set]; exact hlen
  have hP : va_P (dC, dI) classes [(h0, .inr (13, fs_54))] H := by rw [efs_54]; exact hP
  have hD : va_D A [(h0, .inr (13, fs_54))] := by rw [efs_54]; exact hD
  refine lv_aload_n hx hb d_MSetting_init_249 rfl (lv_at hl 0 rfl) ?_
  refine lv_sipush (v := 4000) hx hb d_MSetting_init_250 (by decide) ?_
  refine ca_np (n := 4000) (Nn := 4000) (a0 := (4000, .inl (fun _ => 0))) (q0 := 0) (ci := 13) (k := 34) (C := "ScholarsPressModel$Setting") (T := F_MSetting) (N := 141) hx hb hts in_MSetting t_MSetting t_MSetting_ok n_MSetting hown k_408 rfl hK hP hD hS hA rfl hlen rfl (by decide) (hts (.fieldLink "ScholarsPressModel$Setting" 99 "ScholarsPressModel$Setting" "cellOf" "[I") k_3254) (fun _ h9 => h9) rfl hin rfl (by decide +kernel) (fun _ => rfl) (by decide) (by decide) (by decide) (Nat.le_of_ble_eq_true rfl) (Nat.le_of_ble_eq_true rfl) d_MSetting_init_253 d_MSetting_init_255 (fun q_55 H locs hP hD hS => ?_)
  obtain ⟨fs_56, efs_56⟩ : ∃ z, z = fs_54.set 34 (.ref q_55) := ⟨_, rfl⟩
  have hlen : fs_56.length = 141 := by rw [efs_56, List.length_set]; exact hlen
  have hP : va_P (dC, dI) classes [(h0, .inr (13, fs_56))] H := by rw [efs_56]; exact hP
  have hD : va_D A [(h0, .inr (13, fs_56))] := by rw [efs_56]; exact hD
  refine lv_aload_n hx hb d_MSetting_init_258 rfl (lv_at hl 0 rfl) ?_
  refine lv_sipush (v := 500) hx hb d_MSetting_init_259 (by decide) ?_
  refine ca_np (n := 500) (Nn := 500) (a0 := (500, .inl (fun _ => 0))) (q0 := 0) (ci := 13) (k := 35) (C := "ScholarsPressModel$Setting") (T := F_MSetting) (N := 141) hx hb hts in_MSetting t_MSetting t_MSetting_ok n_MSetting hown k_408 rfl hK hP hD hS hA rfl hlen rfl (by decide) (hts (.fieldLink "ScholarsPressModel$Setting" 102 "ScholarsPressModel$Setting" "rowHeight" "[I") k_3256) (fun _ h9 => h9) rfl hin rfl (by decide +kernel) (fun _ => rfl) (by decide) (by decide) (by decide) (Nat.le_of_ble_eq_true rfl) (Nat.le_of_ble_eq_true rfl) d_MSetting_init_262 d_MSetting_init_264 (fun q_57 H locs hP hD hS => ?_)
  obtain ⟨fs_58, efs_58⟩ : ∃ z, z = fs_56.set 35 (.ref q_57) := ⟨_, rfl⟩
  have hlen : fs_58.length = 141 := by rw [efs_58, List.length_set]; exact hlen
  have hP : va_P (dC, dI) classes [(h0, .inr (13, fs_58))] H := by rw [efs_58]; exact hP
  have hD : va_D A [(h0, .inr (13, fs_58))] := by rw [efs_58]; exact hD
  refine lv_aload_n hx hb d_MSetting_init_267 rfl (lv_at hl 0 rfl) ?_
  refine lv_sipush (v := 500) hx hb d_MSetting_init_268 (by decide) ?_
  refine ca_np (n := 500) (Nn := 500) (a0 := (500, .inl (fun _ => 0))) (q0 := 0) (ci := 13) (k := 36) (C := "ScholarsPressModel$Setting") (T := F_MSetting) (N := 141) hx hb hts in_MSetting t_MSetting t_MSetting_ok n_MSetting hown k_408 rfl hK hP hD hS hA rfl hlen rfl (by decide) (hts (.fieldLink "ScholarsPressModel$Setting" 105 "ScholarsPressModel$Setting" "tableLeft" "[I") k_3257) (fun _ h9 => h9) rfl hin rfl (by decide +kernel) (fun _ => rfl) (by decide) (by decide) (by decide) (Nat.le_of_ble_eq_true rfl) (Nat.le_of_ble_eq_true rfl) d_MSetting_init_271 d_MSetting_init_273 (fun q_59 H locs hP hD hS => ?_)
  obtain ⟨fs_60, efs_60⟩ : ∃ z, z = fs_58.set 36 (.ref q_59) := ⟨_, rfl⟩
  have hlen : fs_60.length = 141 := by rw [efs_60, List.length_set]; exact hlen
  have hP : va_P (dC, dI) classes [(h0, .inr (13, fs_60))] H := by rw [efs_60]; exact hP
  have hD : va_D A [(h0, .inr (13, fs_60))] := by rw [efs_60]; exact hD
  refine lv_aload_n hx hb d_MSetting_init_276 rfl (lv_at hl 0 rfl) ?_
  refine lv_sipush (v := 500) hx hb d_MSetting_init_277 (by decide) ?_
  refine ca_np (n := 500) (Nn := 500) (a0 := (500, .inl (fun _ => 0))) (q0 := 0) (ci := 13) (k := 37) (C := "ScholarsPressModel$Setting") (T := F_MSetting) (N := 141) hx hb hts in_MSetting t_MSetting t_MSetting_ok n_MSetting hown k_408 rfl hK hP hD hS hA rfl hlen rfl (by decide) (hts (.fieldLink "ScholarsPressModel$Setting" 108 "ScholarsPressModel$Setting" "tableColumns" "[I") k_3259) (fun _ h9 => h9) rfl hin rfl (by decide +kernel) (fun _ => rfl) (by decide) (by decide) (by decide) (Nat.le_of_ble_eq_true rfl) (Nat.le_of_ble_eq_true rfl) d_MSetting_init_280 d_MSetting_init_282 (fun q_61 H locs hP hD hS => ?_)
  obtain ⟨fs_62, efs_62⟩ : ∃ z, z = fs_60.set 37 (.ref q_61) := ⟨_, rfl⟩
  have hlen : fs_62.length = 141 := by rw [efs_62, List.length_set]; exact hlen
  have hP : va_P (dC, dI) classes [(h0, .inr (13, fs_62))] H := by rw [efs_62]; exact hP
  have hD : va_D A [(h0, .inr (13, fs_62))] := by rw [efs_62]; exact hD
  refine lv_aload_n hx hb d_MSetting_init_285 rfl (lv_at hl 0 rfl) ?_
  refine lv_sipush (v := 500) hx hb d_MSetting_init_286 (by decide) ?_
  refine ca_np (n := 500) (Nn := 500) (a0 := (500, .inl (fun _ => 0))) (q0 := 0) (ci := 13) (k := 38) (C := "ScholarsPressModel$Setting") (T := F_MSetting) (N := 141) hx hb hts in_MSetting t_MSetting t_MSetting_ok n_MSetting hown k_446 rfl hK hP hD hS hA rfl hlen rfl (by decide) (hts (.fieldLink "ScholarsPressModel$Setting" 111 "ScholarsPressModel$Setting" "rowHas" "[Z") k_3260) (fun _ h9 => h9) rfl hin rfl (by decide +kernel) (fun _ => rfl) (by decide) (by decide) (by decide) (Nat.le_of_ble_eq_true rfl) (Nat.le_of_ble_eq_true rfl) d_MSetting_init_289 d_MSetting_init_291 (fun q_63 H locs hP hD hS => ?_)
  obtain ⟨fs_64, efs_64⟩ : ∃ z, z = fs_62.set 38 (.ref q_63) := ⟨_, rfl⟩
  have hlen : fs_64.length = 141 := by rw [efs_64, List.length_set]; exact hlen
  have hP : va_P (dC, dI) classes [(h0, .inr (13, fs_64))] H := by rw [efs_64]; exact hP
  have hD : va_D A [(h0, .inr (13, fs_64))] := by rw [efs_64]; exact hD
  refine lv_aload_n hx hb d_MSetting_init_294 rfl (lv_at hl 0 rfl) ?_
  refine lv_sipush (v := 4000) hx hb d_MSetting_init_295 (by decide) ?_
  refine ca_np (n := 4000) (Nn := 4000) (a0 := (4000, .inr (.inl (fun _ => 0)))) (q0 := 0) (ci := 13) (k := 39) (C := "ScholarsPressModel$Setting") (T := F_MSetting) (N := 141) hx hb hts in_MSetting t_MSetting t_MSetting_ok n_MSetting hown k_409 rfl hK hP hD hS hA rfl hlen rfl (by decide) (hts (.fieldLink "ScholarsPressModel$Setting" 115 "ScholarsPressModel$Setting" "columnWidth" "[J") k_3261) (fun _ h9 => h9) rfl hin rfl (by decide +kernel) (fun _ => rfl) (by decide) (by decide) (by decide) (Nat.le_of_ble_eq_true rfl) (Nat.le_of_ble_eq_true rfl) d_MSetting_init_298 d_MSetting_init_300 (fun q_65 H locs hP hD hS => ?_)
  obtain ⟨fs_66, efs_66⟩ : ∃ z, z = fs_64.set 39 (.ref q_65) := ⟨_, rfl⟩
  have hlen : fs_66.length = 141 := by rw [efs_66, List.length_set]; exact hlen
  have hP : va_P (dC, dI) classes [(h0, .inr (13, fs_66))] H := by rw [efs_66]; exact hP
  have hD : va_D A [(h0, .inr (13, fs_66))] := by rw [efs_66]; exact hD
  refine lv_aload_n hx hb d_MSetting_init_303 rfl (lv_at hl 0 rfl) ?_
  refine lv_bipush (v := 8) hx hb d_MSetting_init_304 (by decide) ?_
  refine ca_np (n := 8) (Nn := 8) (a0 := (8, .inr (.inl (fun _ => 0)))) (q0 := 0) (ci := 13) (k := 40) (C := "ScholarsPressModel$Setting") (T := F_MSetting) (N := 141) hx hb hts in_MSetting t_MSetting t_MSetting_ok n_MSetting hown k_409 rfl hK hP hD hS hA rfl hlen rfl (by decide) (hts (.fieldLink "ScholarsPressModel$Setting" 118 "ScholarsPressModel$Setting" "least" "[J") k_3262) (fun _ h9 => h9) rfl hin rfl (by decide +kernel) (fun _ => rfl) (by decide) (by decide) (by decide) (Nat.le_of_ble_eq_true rfl) (Nat.le_of_ble_eq_true rfl) d_MSetting_init_306 d_MSetting_init_308 (fun q_67 H locs hP hD hS => ?_)
  obtain ⟨fs_68, efs_68⟩ : ∃ z, z = fs_66.set 40 (.ref q_67) := ⟨_, rfl⟩
  have hlen : fs_68.length = 141 := by rw [efs_68, List.length_set]; exact hlen
  have hP : va_P (dC, dI) classes [(h0, .inr (13, fs_68))] H := by rw [efs_68]; exact hP
  have hD : va_D A [(h0, .inr (13, fs_68))] := by rw [efs_68]; exact hD
  refine lv_aload_n hx hb d_MSetting_init_311 rfl (lv_at hl 0 rfl) ?_
  refine lv_bipush (v := 8) hx hb d_MSetting_init_312 (by decide) ?_
  refine ca_np (n := 8) (Nn := 8) (a0 := (8, .inr (.inl (fun _ => 0)))) (q0 := 0) (ci := 13) (k := 41) (C := "ScholarsPressModel$Setting") (T := F_MSetting) (N := 141) hx hb hts in_MSetting t_MSetting t_MSetting_ok n_MSetting hown k_409 rfl hK hP hD hS hA rfl hlen rfl (by decide) (hts (.fieldLink "ScholarsPressModel$Setting" 121 "ScholarsPressModel$Setting" "wish" "[J") k_3263) (fun _ h9 => h9) rfl hin rfl (by decide +kernel) (fun _ => rfl) (by decide) (by decide) (by decide) (Nat.le_of_ble_eq_true rfl) (Nat.le_of_ble_eq_true rfl) d_MSetting_init_314 d_MSetting_init_316 (fun q_69 H locs hP hD hS => ?_)
  obtain ⟨fs_70, efs_70⟩ : ∃ z, z = fs_68.set 41 (.ref q_69) := ⟨_, rfl⟩
  have hlen : fs_70.length = 141 := by rw [efs_70, List.length_set]; exact hlen
  have hP : va_P (dC, dI) classes [(h0, .inr (13, fs_70))] H := by rw [efs_70]; exact hP
  have hD : va_D A [(h0, .inr (13, fs_70))] := by rw [efs_70]; exact hD
  refine lv_aload_n hx hb d_MSetting_init_319 rfl (lv_at hl 0 rfl) ?_
  refine lv_sipush (v := 1500) hx hb d_MSetting_init_320 (by decide) ?_
  refine ca_np (n := 1500) (Nn := 1500) (a0 := (1500, .inl (fun _ => 0))) (q0 := 0) (ci := 13) (k := 43) (C := "ScholarsPressModel$Setting") (T := F_MSetting) (N := 141) hx hb hts in_MSetting t_MSetting t_MSetting_ok n_MSetting hown k_408 rfl hK hP hD hS hA rfl hlen rfl (by decide) (hts (.fieldLink "ScholarsPressModel$Setting" 124 "ScholarsPressModel$Setting" "linePar" "[I") k_3266) (fun _ h9 => h9) rfl hin rfl (by decide +kernel) (fun _ => rfl) (by decide) (by decide) (by decide) (Nat.le_of_ble_eq_true rfl) (Nat.le_of_ble_eq_true rfl) d_MSetting_init_323 d_MSetting_init_325 (fun q_71 H locs hP hD hS => ?_)
  obtain ⟨fs_72, efs_72⟩ : ∃ z, z = fs_70.set 43 (.ref q_71) := ⟨_, rfl⟩
  have hlen : fs_72.length = 141 := by rw [efs_72, List.length_set]; exact hlen
  have hP : va_P (dC, dI) classes [(h0, .inr (13, fs_72))] H := by rw [efs_72]; exact hP
  have hD : va_D A [(h0, .inr (13, fs_72))] := by rw [efs_72]; exact hD
  refine lv_aload_n hx hb d_MSetting_init_328 rfl (lv_at hl 0 rfl) ?_
  refine lv_sipush (v := 1500) hx hb d_MSetting_init_329 (by decide) ?_
  refine ca_np (n := 1500) (Nn := 1500) (a0 := (1500, .inl (fun _ => 0))) (q0 := 0) (ci := 13) (k := 44) (C := "ScholarsPressModel$Setting") (T := F_MSetting) (N := 141) hx hb hts in_MSetting t_MSetting t_MSetting_ok n_MSetting hown k_408 rfl hK hP hD hS hA rfl hlen rfl (by decide) (hts (.fieldLink "ScholarsPressModel$Setting" 127 "ScholarsPressModel$Setting" "lineNo" "[I") k_3268) (fun _ h9 => h9) rfl hin rfl (by decide +kernel) (fun _ => rfl) (by decide) (by decide) (by decide) (Nat.le_of_ble_eq_true rfl) (Nat.le_of_ble_eq_true rfl) d_MSetting_init_332 d_MSetting_init_334 (fun q_73 H locs hP hD hS => ?_)
  obtain ⟨fs_74, efs_74⟩ : ∃ z, z = fs_72.set 44 (.ref q_73) := ⟨_, rfl⟩
  have hlen : fs_74.length = 141 := by rw [efs_74, List.length_set]; exact hlen
  have hP : va_P (dC, dI) classes [(h0, .inr (13, fs_74))] H := by rw [efs_74]; exact hP
  have hD : va_D A [(h0, .inr (13, fs_74))] := by rw [efs_74]; exact hD
  refine lv_aload_n hx hb d_MSetting_init_337 rfl (lv_at hl 0 rfl) ?_
  refine lv_sipush (v := 1500) hx hb d_MSetting_init_338 (by decide) ?_
  refine ca_np (n := 1500) (Nn := 1500) (a0 := (1500, .inl (fun _ => 0))) (q0 := 0) (ci := 13) (k := 45) (C := "ScholarsPressModel$Setting") (T := F_MSetting) (N := 141) hx hb hts in_MSetting t_MSetting t_MSetting_ok n_MSetting hown k_408 rfl hK hP hD hS hA rfl hlen rfl (by decide) (hts (.fieldLink "ScholarsPressModel$Setting" 130 "ScholarsPressModel$Setting" "lineRow" "[I") k_3270) (fun _ h9 => h9) rfl hin rfl (by decide +kernel) (fun _ => rfl) (by decide) (by decide) (by decide) (Nat.le_of_ble_eq_true rfl) (Nat.le_of_ble_eq_true rfl) d_MSetting_init_341 d_MSetting_init_343 (fun q_75 H locs hP hD hS => ?_)
  obtain ⟨fs_76, efs_76⟩ : ∃ z, z = fs_74.set 45 (.ref q_75) := ⟨_, rfl⟩
  have hlen : fs_76.length = 141 := by rw [efs_76, List.length_set]; exact hlen
  have hP : va_P (dC, dI) classes [(h0, .inr (13, fs_76))] H := by rw [efs_76]; exact hP
  have hD : va_D A [(h0, .inr (13, fs_76))] := by rw [efs_76]; exact hD
  refine lv_aload_n hx hb d_MSetting_init_346 rfl (lv_at hl 0 rfl) ?_
  refine lv_sipush (v := 1500) hx hb d_MSetting_init_347 (by decide) ?_
  refine ca_np (n := 1500) (Nn := 1500) (a0 := (1500, .inl (fun _ => 0))) (q0 := 0) (ci := 13) (k := 46) (C := "ScholarsPressModel$Setting") (T := F_MSetting) (N := 141) hx hb hts in_MSetting t_MSetting t_MSetting_ok n_MSetting hown k_408 rfl hK hP hD hS hA rfl hlen rfl (by decide) (hts (.fieldLink "ScholarsPressModel$Setting" 133 "ScholarsPressModel$Setting" "lineHeight" "[I") k_3272) (fun _ h9 => h9) rfl hin rfl (by decide +kernel) (fun _ => rfl) (by decide) (by decide) (by decide) (Nat.le_of_ble_eq_true rfl) (Nat.le_of_ble_eq_true rfl) d_MSetting_init_350 d_MSetting_init_352 (fun q_77 H locs hP hD hS => ?_)
  obtain ⟨fs_78, efs_78⟩ : ∃ z, z = fs_76.set 46 (.ref q_77) := ⟨_, rfl⟩
  have hlen : fs_78.length = 141 := by rw [efs_78, List.length_set]; exact hlen
  have hP : va_P (dC, dI) classes [(h0, .inr (13, fs_78))] H := by rw [efs_78]; exact hP
  have hD : va_D A [(h0, .inr (13, fs_78))] := by rw [efs_78]; exact hD
  refine lv_aload_n hx hb d_MSetting_init_355 rfl (lv_at hl 0 rfl) ?_
  refine lv_sipush (v := 1500) hx hb d_MSetting_init_356 (by decide) ?_
  refine ca_np (n := 1500) (Nn := 1500) (a0 := (1500, .inl (fun _ => 0))) (q0 := 0) (ci := 13) (k := 47) (C := "ScholarsPressModel$Setting") (T := F_MSetting) (N := 141) hx hb hts in_MSetting t_MSetting t_MSetting_ok n_MSetting hown k_408 rfl hK hP hD hS hA rfl hlen rfl (by decide) (hts (.fieldLink "ScholarsPressModel$Setting" 136 "ScholarsPressModel$Setting" "lineGap" "[I") k_3273) (fun _ h9 => h9) rfl hin rfl (by decide +kernel) (fun _ => rfl) (by decide) (by decide) (by decide) (Nat.le_of_ble_eq_true rfl) (Nat.le_of_ble_eq_true rfl) d_MSetting_init_359 d_MSetting_init_361 (fun q_79 H locs hP hD hS => ?_)
  obtain ⟨fs_80, efs_80⟩ : ∃ z, z = fs_78.set 47 (.ref q_79) := ⟨_, rfl⟩
  have hlen : fs_80.length = 141 := by rw [efs_80, List.length_set]; exact hlen
  have hP : va_P (dC, dI) classes [(h0, .inr (13, fs_80))] H := by rw [efs_80]; exact hP
  have hD : va_D A [(h0, .inr (13, fs_80))] := by rw [efs_80]; exact hD
  refine lv_aload_n hx hb d_MSetting_init_364 rfl (lv_at hl 0 rfl) ?_
  refine lv_sipush (v := 1500) hx hb d_MSetting_init_365 (by decide) ?_
  refine ca_np (n := 1500) (Nn := 1500) (a0 := (1500, .inl (fun _ => 0))) (q0 := 0) (ci := 13) (k := 48) (C := "ScholarsPressModel$Setting") (T := F_MSetting) (N := 141) hx hb hts in_MSetting t_MSetting t_MSetting_ok n_MSetting hown k_408 rfl hK hP hD hS hA rfl hlen rfl (by decide) (hts (.fieldLink "ScholarsPressModel$Setting" 139 "ScholarsPressModel$Setting" "lineNumber" "[I") k_3274) (fun _ h9 => h9) rfl hin rfl (by decide +kernel) (fun _ => rfl) (by decide) (by decide) (by decide) (Nat.le_of_ble_eq_true rfl) (Nat.le_of_ble_eq_true rfl) d_MSetting_init_368 d_MSetting_init_370 (fun q_81 H locs hP hD hS => ?_)
  obtain ⟨fs_82, efs_82⟩ : ∃ z, z = fs_80.set 48 (.ref q_81) := ⟨_, rfl⟩
  have hlen : fs_82.length = 141 := by rw [efs_82, List.length_set]; exact hlen
  have hP : va_P (dC, dI) classes [(h0, .inr (13, fs_82))] H := by rw [efs_82]; exact hP
  have hD : va_D A [(h0, .inr (13, fs_82))] := by rw [efs_82]; exact hD
  refine lv_aload_n hx hb d_MSetting_init_373 rfl (lv_at hl 0 rfl) ?_
  refine lv_sipush (v := 1500) hx hb d_MSetting_init_374 (by decide) ?_
  refine ca_np (n := 1500) (Nn := 1500) (a0 := (1500, .inl (fun _ => 0))) (q0 := 0) (ci := 13) (k := 49) (C := "ScholarsPressModel$Setting") (T := F_MSetting) (N := 141) hx hb hts in_MSetting t_MSetting t_MSetting_ok n_MSetting hown k_408 rfl hK hP hD hS hA rfl hlen rfl (by decide) (hts (.fieldLink "ScholarsPressModel$Setting" 142 "ScholarsPressModel$Setting" "lineColumn" "[I") k_3276) (fun _ h9 => h9) rfl hin rfl (by decide +kernel) (fun _ => rfl) (by decide) (by decide) (by decide) (Nat.le_of_ble_eq_true rfl) (Nat.le_of_ble_eq_true rfl) d_MSetting_init_377 d_MSetting_init_379 (fun q_83 H locs hP hD hS => ?_)
  obtain ⟨fs_84, efs_84⟩ : ∃ z, z = fs_82.set 49 (.ref q_83) := ⟨_, rfl⟩
  have hlen : fs_84.length = 141 := by rw [efs_84, List.length_set]; exact hlen
  have hP : va_P (dC, dI) classes [(h0, .inr (13, fs_84))] H := by rw [efs_84]; exact hP
  have hD : va_D A [(h0, .inr (13, fs_84))] := by rw [efs_84]; exact hD
  refine lv_aload_n hx hb d_MSetting_init_382 rfl (lv_at hl 0 rfl) ?_
  refine lv_sipush (v := 1500) hx hb d_MSetting_init_383 (by decide) ?_
  refine ca_np (n := 1500) (Nn := 1500) (a0 := (1500, .inl (fun _ => 0))) (q0 := 0) (ci := 13) (k := 50) (C := "ScholarsPressModel$Setting") (T := F_MSetting) (N := 141) hx hb hts in_MSetting t_MSetting t_MSetting_ok n_MSetting hown k_408 rfl hK hP hD hS hA rfl hlen rfl (by decide) (hts (.fieldLink "ScholarsPressModel$Setting" 145 "ScholarsPressModel$Setting" "lineFlow" "[I") k_3278) (fun _ h9 => h9) rfl hin rfl (by decide +kernel) (fun _ => rfl) (by decide) (by decide) (by decide) (Nat.le_of_ble_eq_true rfl) (Nat.le_of_ble_eq_true rfl) d_MSetting_init_386 d_MSetting_init_388 (fun q_85 H locs hP hD hS => ?_)
  obtain ⟨fs_86, efs_86⟩ : ∃ z, z = fs_84.set 50 (.ref q_85) := ⟨_, rfl⟩
  have hlen : fs_86.length = 141 := by rw [efs_86, List.length_set]; exact hlen
  have hP : va_P (dC, dI) classes [(h0, .inr (13, fs_86))] H := by rw [efs_86]; exact hP
  have hD : va_D A [(h0, .inr (13, fs_86))] := by rw [efs_86]; exact hD
  refine lv_aload_n hx hb d_MSetting_init_391 rfl (lv_at hl 0 rfl) ?_
  refine lv_sipush (v := 1500) hx hb d_MSetting_init_392 (by decide) ?_
  refine ca_np (n := 1500) (Nn := 1500) (a0 := (1500, .inl (fun _ => 0))) (q0 := 0) (ci := 13) (k := 51) (C := "ScholarsPressModel$Setting") (T := F_MSetting) (N := 141) hx hb hts in_MSetting t_MSetting t_MSetting_ok n_MSetting hown k_446 rfl hK hP hD hS hA rfl hlen rfl (by decide) (hts (.fieldLink "ScholarsPressModel$Setting" 148 "ScholarsPressModel$Setting" "mayEnd" "[Z") k_3279) (fun _ h9 => h9) rfl hin rfl (by decide +kernel) (fun _ => rfl) (by decide) (by decide) (by decide) (Nat.le_of_ble_eq_true rfl) (Nat.le_of_ble_eq_true rfl) d_MSetting_init_395 d_MSetting_init_397 (fun q_87 H locs hP hD hS => ?_)
  obtain ⟨fs_88, efs_88⟩ : ∃ z, z = fs_86.set 51 (.ref q_87) := ⟨_, rfl⟩
  have hlen : fs_88.length = 141 := by rw [efs_88, List.length_set]; exact hlen
  have hP : va_P (dC, dI) classes [(h0, .inr (13, fs_88))] H := by rw [efs_88]; exact hP
  have hD : va_D A [(h0, .inr (13, fs_88))] := by rw [efs_88]; exact hD
  refine lv_aload_n hx hb d_MSetting_init_400 rfl (lv_at hl 0 rfl) ?_
  refine lv_sipush (v := 1500) hx hb d_MSetting_init_401 (by decide) ?_
  refine ca_np (n := 1500) (Nn := 1500) (a0 := (1500, .inr (.inl (fun _ => 0)))) (q0 := 0) (ci := 13) (k := 52) (C := "ScholarsPressModel$Setting") (T := F_MSetting) (N := 141) hx hb hts in_MSetting t_MSetting t_MSetting_ok n_MSetting hown k_409 rfl hK hP hD hS hA rfl hlen rfl (by decide) (hts (.fieldLink "ScholarsPressModel$Setting" 151 "ScholarsPressModel$Setting" "lineTop" "[J") k_3280) (fun _ h9 => h9) rfl hin rfl (by decide +kernel) (fun _ => rfl) (by decide) (by decide) (by decide) (Nat.le_of_ble_eq_true rfl) (Nat.le_of_ble_eq_true rfl) d_MSetting_init_404 d_MSetting_init_406 (fun q_89 H locs hP hD hS => ?_)
  obtain ⟨fs_90, efs_90⟩ : ∃ z, z = fs_88.set 52 (.ref q_89) := ⟨_, rfl⟩
  have hlen : fs_90.length = 141 := by rw [efs_90, List.length_set]; exact hlen
  have hP : va_P (dC, dI) classes [(h0, .inr (13, fs_90))] H := by rw [efs_90]; exact hP
  have hD : va_D A [(h0, .inr (13, fs_90))] := by rw [efs_90]; exact hD
  refine lv_aload_n hx hb d_MSetting_init_409 rfl (lv_at hl 0 rfl) ?_
  refine lv_bipush (v := 120) hx hb d_MSetting_init_410 (by decide) ?_
  refine ca_np (n := 120) (Nn := 120) (a0 := (120, .inl (fun _ => 0))) (q0 := 0) (ci := 13) (k := 55) (C := "ScholarsPressModel$Setting") (T := F_MSetting) (N := 141) hx hb hts in_MSetting t_MSetting t_MSetting_ok n_MSetting hown k_408 rfl hK hP hD hS hA rfl hlen rfl (by decide) (hts (.fieldLink "ScholarsPressModel$Setting" 154 "ScholarsPressModel$Setting" "noteOf" "[I") k_3286) (fun _ h9 => h9) rfl hin rfl (by decide +kernel) (fun _ => rfl) (by decide) (by decide) (by decide) (Nat.le_of_ble_eq_true rfl) (Nat.le_of_ble_eq_true rfl) d_MSetting_init_412 d_MSetting_init_414 (fun q_91 H locs hP hD hS => ?_)
  obtain ⟨fs_92, efs_92⟩ : ∃ z, z = fs_90.set 55 (.ref q_91) := ⟨_, rfl⟩
  have hlen : fs_92.length = 141 := by rw [efs_92, List.length_set]; exact hlen
  have hP : va_P (dC, dI) classes [(h0, .inr (13, fs_92))] H := by rw [efs_92]; exact hP
  have hD : va_D A [(h0, .inr (13, fs_92))] := by rw [efs_92]; exact hD
  refine lv_aload_n hx hb d_MSetting_init_417 rfl (lv_at hl 0 rfl) ?_
  refine lv_bipush (v := 120) hx hb d_MSetting_init_418 (by decide) ?_
  refine ca_np (n := 120) (Nn := 120) (a0 := (120, .inl (fun _ => 0))) (q0 := 0) (ci := 13) (k := 56) (C := "ScholarsPressModel$Setting") (T := F_MSetting) (N := 141) hx hb hts in_MSetting t_MSetting t_MSetting_ok n_MSetting hown k_408 rfl hK hP hD hS hA rfl hlen rfl (by decide) (hts (.fieldLink "ScholarsPressModel$Setting" 157 "ScholarsPressModel$Setting" "noteLine" "[I") k_3288) (fun _ h9 => h9) rfl hin rfl (by decide +kernel) (fun _ => rfl) (by decide) (by decide) (by decide) (Nat.le_of_ble_eq_true rfl) (Nat.le_of_ble_eq_true rfl) d_MSetting_init_420 d_MSetting_init_422 (fun q_93 H locs hP hD hS => ?_)
  obtain ⟨fs_94, efs_94⟩ : ∃ z, z = fs_92.set 56 (.ref q_93) := ⟨_, rfl⟩
  have hlen : fs_94.length = 141 := by rw [efs_94, List.length_set]; exact hlen
  have hP : va_P (dC, dI) classes [(h0, .inr (13, fs_94))] H := by rw [efs_94]; exact hP
  have hD : va_D A [(h0, .inr (13, fs_94))] := by rw [efs_94]; exact hD
  refine lv_aload_n hx hb d_MSetting_init_425 rfl (lv_at hl 0 rfl) ?_
  refine lv_bipush (v := 120) hx hb d_MSetting_init_426 (by decide) ?_
  refine ca_np (n := 120) (Nn := 120) (a0 := (120, .inl (fun _ => 0))) (q0 := 0) (ci := 13) (k := 57) (C := "ScholarsPressModel$Setting") (T := F_MSetting) (N := 141) hx hb hts in_MSetting t_MSetting t_MSetting_ok n_MSetting hown k_408 rfl hK hP hD hS hA rfl hlen rfl (by decide) (hts (.fieldLink "ScholarsPressModel$Setting" 160 "ScholarsPressModel$Setting" "notePar" "[I") k_3290) (fun _ h9 => h9) rfl hin rfl (by decide +kernel) (fun _ => rfl) (by decide) (by decide) (by decide) (Nat.le_of_ble_eq_true rfl) (Nat.le_of_ble_eq_true rfl) d_MSetting_init_428 d_MSetting_init_430 (fun q_95 H locs hP hD hS => ?_)
  obtain ⟨fs_96, efs_96⟩ : ∃ z, z = fs_94.set 57 (.ref q_95) := ⟨_, rfl⟩
  have hlen : fs_96.length = 141 := by rw [efs_96, List.length_set]; exact hlen
  have hP : va_P (dC, dI) classes [(h0, .inr (13, fs_96))] H := by rw [efs_96]; exact hP
  have hD : va_D A [(h0, .inr (13, fs_96))] := by rw [efs_96]; exact hD
  refine lv_aload_n hx hb d_MSetting_init_433 rfl (lv_at hl 0 rfl) ?_
  refine lv_bipush (v := 120) hx hb d_MSetting_init_434 (by decide) ?_
  refine ca_np (n := 120) (Nn := 120) (a0 := (120, .inl (fun _ => 0))) (q0 := 0) (ci := 13) (k := 58) (C := "ScholarsPressModel$Setting") (T := F_MSetting) (N := 141) hx hb hts in_MSetting t_MSetting t_MSetting_ok n_MSetting hown k_408 rfl hK hP hD hS hA rfl hlen rfl (by decide) (hts (.fieldLink "ScholarsPressModel$Setting" 163 "ScholarsPressModel$Setting" "noteColumn" "[I") k_3292) (fun _ h9 => h9) rfl hin rfl (by decide +kernel) (fun _ => rfl) (by decide) (by decide) (by decide) (Nat.le_of_ble_eq_true rfl) (Nat.le_of_ble_eq_true rfl) d_MSetting_init_436 d_MSetting_init_438 (fun q_97 H locs hP hD hS => ?_)
  obtain ⟨fs_98, efs_98⟩ : ∃ z, z = fs_96.set 58 (.ref q_97) := ⟨_, rfl⟩
  have hlen : fs_98.length = 141 := by rw [efs_98, List.length_set]; exact hlen
  have hP : va_P (dC, dI) classes [(h0, .inr (13, fs_98))] H := by rw [efs_98]; exact hP
  have hD : va_D A [(h0, .inr (13, fs_98))] := by rw [efs_98]; exact hD
  refine lv_aload_n hx hb d_MSetting_init_441 rfl (lv_at hl 0 rfl) ?_
  refine lv_bipush (v := 120) hx hb d_MSetting_init_442 (by decide) ?_
  refine ca_np (n := 120) (Nn := 120) (a0 := (120, .inl (fun _ => 0))) (q0 := 0) (ci := 13) (k := 59) (C := "ScholarsPressModel$Setting") (T := F_MSetting) (N := 141) hx hb hts in_MSetting t_MSetting t_MSetting_ok n_MSetting hown k_408 rfl hK hP hD hS hA rfl hlen rfl (by decide) (hts (.fieldLink "ScholarsPressModel$Setting" 166 "ScholarsPressModel$Setting" "noteFirst" "[I") k_3294) (fun _ h9 => h9) rfl hin rfl (by decide +kernel) (fun _ => rfl) (by decide) (by decide) (by decide) (Nat.le_of_ble_eq_true rfl) (Nat.le_of_ble_eq_true rfl) d_MSetting_init_444 d_MSetting_init_446 (fun q_99 H locs hP hD hS => ?_)
  obtain ⟨fs_100, efs_100⟩ : ∃ z, z = fs_98.set 59 (.ref q_99) := ⟨_, rfl⟩
  have hlen : fs_100.length = 141 := by rw [efs_100, List.length_set]; exact hlen
  have hP : va_P (dC, dI) classes [(h0, .inr (13, fs_100))] H := by rw [efs_100]; exact hP
  have hD : va_D A [(h0, .inr (13, fs_100))] := by rw [efs_100]; exact hD
  refine lv_aload_n hx hb d_MSetting_init_449 rfl (lv_at hl 0 rfl) ?_
  refine lv_bipush (v := 40) hx hb d_MSetting_init_450 (by decide) ?_
  refine ca_np (n := 40) (Nn := 40) (a0 := (40, .inl (fun _ => 0))) (q0 := 0) (ci := 13) (k := 60) (C := "ScholarsPressModel$Setting") (T := F_MSetting) (N := 141) hx hb hts in_MSetting t_MSetting t_MSetting_ok n_MSetting hown k_408 rfl hK hP hD hS hA rfl hlen rfl (by decide) (hts (.fieldLink "ScholarsPressModel$Setting" 169 "ScholarsPressModel$Setting" "floatOf" "[I") k_3296) (fun _ h9 => h9) rfl hin rfl (by decide +kernel) (fun _ => rfl) (by decide) (by decide) (by decide) (Nat.le_of_ble_eq_true rfl) (Nat.le_of_ble_eq_true rfl) d_MSetting_init_452 d_MSetting_init_454 (fun q_101 H locs hP hD hS => ?_)
  obtain ⟨fs_102, efs_102⟩ : ∃ z, z = fs_100.set 60 (.ref q_101) := ⟨_, rfl⟩
  have hlen : fs_102.length = 141 := by rw [efs_102, List.length_set]; exact hlen
  have hP : va_P (dC, dI) classes [(h0, .inr (13, fs_102))] H := by rw [efs_102]; exact hP
  have hD : va_D A [(h0, .inr (13, fs_102))] := by rw [efs_102]; exact hD
  refine lv_aload_n hx hb d_MSetting_init_457 rfl (lv_at hl 0 rfl) ?_
  refine lv_bipush (v := 40) hx hb d_MSetting_init_458 (by decide) ?_
  refine ca_np (n := 40) (Nn := 40) (a0 := (40, .inl (fun _ => 0))) (q0 := 0) (ci := 13) (k := 61) (C := "ScholarsPressModel$Setting") (T := F_MSetting) (N := 141) hx hb hts in_MSetting t_MSetting t_MSetting_ok n_MSetting hown k_408 rfl hK hP hD hS hA rfl hlen rfl (by decide) (hts (.fieldLink "ScholarsPressModel$Setting" 172 "ScholarsPressModel$Setting" "floatLine" "[I") k_3298) (fun _ h9 => h9) rfl hin rfl (by decide +kernel) (fun _ => rfl) (by decide) (by decide) (by decide) (Nat.le_of_ble_eq_true rfl) (Nat.le_of_ble_eq_true rfl) d_MSetting_init_460 d_MSetting_init_462 (fun q_103 H locs hP hD hS => ?_)
  obtain ⟨fs_104, efs_104⟩ : ∃ z, z = fs_102.set 61 (.ref q_103) := ⟨_, rfl⟩
  have hlen : fs_104.length = 141 := by rw [efs_104, List.length_set]; exact hlen
  have hP : va_P (dC, dI) classes [(h0, .inr (13, fs_104))] H := by rw [efs_104]; exact hP
  have hD : va_D A [(h0, .inr (13, fs_104))] := by rw [efs_104]; exact hD
  refine lv_aload_n hx hb d_MSetting_init_465 rfl (lv_at hl 0 rfl) ?_
  refine lv_bipush (v := 40) hx hb d_MSetting_init_466 (by decide) ?_
  refine ca_np (n := 40) (Nn := 40) (a0 := (40, .inl (fun _ => 0))) (q0 := 0) (ci := 13) (k := 62) (C := "ScholarsPressModel$Setting") (T := F_MSetting) (N := 141) hx hb hts in_MSetting t_MSetting t_MSetting_ok n_MSetting hown k_408 rfl hK hP hD hS hA rfl hlen rfl (by decide) (hts (.fieldLink "ScholarsPressModel$Setting" 175 "ScholarsPressModel$Setting" "floatColumn" "[I") k_3300) (fun _ h9 => h9) rfl hin rfl (by decide +kernel) (fun _ => rfl) (by decide) (by decide) (by decide) (Nat.le_of_ble_eq_true rfl) (Nat.le_of_ble_eq_true rfl) d_MSetting_init_468 d_MSetting_init_470 (fun q_105 H locs hP hD hS => ?_)
  obtain ⟨fs_106, efs_106⟩ : ∃ z, z = fs_104.set 62 (.ref q_105) := ⟨_, rfl⟩
  have hlen : fs_106.length = 141 := by rw [efs_106, List.length_set]; exact hlen
  have hP : va_P (dC, dI) classes [(h0, .inr (13, fs_106))] H := by rw [efs_106]; exact hP
  have hD : va_D A [(h0, .inr (13, fs_106))] := by rw [efs_106]; exact hD
  refine lv_aload_n hx hb d_MSetting_init_473 rfl (lv_at hl 0 rfl) ?_
  refine lv_bipush (v := 120) hx hb d_MSetting_init_474 (by decide) ?_
  refine ca_np (n := 120) (Nn := 120) (a0 := (120, .inr (.inl (fun _ => 0)))) (q0 := 0) (ci := 13) (k := 63) (C := "ScholarsPressModel$Setting") (T := F_MSetting) (N := 141) hx hb hts in_MSetting t_MSetting t_MSetting_ok n_MSetting hown k_409 rfl hK hP hD hS hA rfl hlen rfl (by decide) (hts (.fieldLink "ScholarsPressModel$Setting" 178 "ScholarsPressModel$Setting" "noteTop" "[J") k_3302) (fun _ h9 => h9) rfl hin rfl (by decide +kernel) (fun _ => rfl) (by decide) (by decide) (by decide) (Nat.le_of_ble_eq_true rfl) (Nat.le_of_ble_eq_true rfl) d_MSetting_init_476 d_MSetting_init_478 (fun q_107 H locs hP hD hS => ?_)
  obtain ⟨fs_108, efs_108⟩ : ∃ z, z = fs_106.set 63 (.ref q_107) := ⟨_, rfl⟩
  have hlen : fs_108.length = 141 := by rw [efs_108, List.length_set]; exact hlen
  have hP : va_P (dC, dI) classes [(h0, .inr (13, fs_108))] H := by rw [efs_108]; exact hP
  have hD : va_D A [(h0, .inr (13, fs_108))] := by rw [efs_108]; exact hD
  refine lv_aload_n hx hb d_MSetting_init_481 rfl (lv_at hl 0 rfl) ?_
  refine lv_bipush (v := 40) hx hb d_MSetting_init_482 (by decide) ?_
  refine ca_np (n := 40) (Nn := 40) (a0 := (40, .inr (.inl (fun _ => 0)))) (q0 := 0) (ci := 13) (k := 64) (C := "ScholarsPressModel$Setting") (T := F_MSetting) (N := 141) hx hb hts in_MSetting t_MSetting t_MSetting_ok n_MSetting hown k_409 rfl hK hP hD hS hA rfl hlen rfl (by decide) (hts (.fieldLink "ScholarsPressModel$Setting" 181 "ScholarsPressModel$Setting" "floatTop" "[J") k_3304) (fun _ h9 => h9) rfl hin rfl (by decide +kernel) (fun _ => rfl) (by decide) (by decide) (by decide) (Nat.le_of_ble_eq_true rfl) (Nat.le_of_ble_eq_true rfl) d_MSetting_init_484 d_MSetting_init_486 (fun q_109 H locs hP hD hS => ?_)
  obtain ⟨fs_110, efs_110⟩ : ∃ z, z = fs_108.set 64 (.ref q_109) := ⟨_, rfl⟩
  have hlen : fs_110.length = 141 := by rw [efs_110, List.length_set]; exact hlen
  have hP : va_P (dC, dI) classes [(h0, .inr (13, fs_110))] H := by rw [efs_110]; exact hP
  have hD : va_D A [(h0, .inr (13, fs_110))] := by rw [efs_110]; exact hD
  refine lv_aload_n hx hb d_MSetting_init_489 rfl (lv_at hl 0 rfl) ?_
  refine lv_sipush (v := 500) hx hb d_MSetting_init_490 (by decide) ?_
  refine ca_np (n := 500) (Nn := 500) (a0 := (500, .inl (fun _ => 0))) (q0 := 0) (ci := 13) (k := 65) (C := "ScholarsPressModel$Setting") (T := F_MSetting) (N := 141) hx hb hts in_MSetting t_MSetting t_MSetting_ok n_MSetting hown k_408 rfl hK hP hD hS hA rfl hlen rfl (by decide) (hts (.fieldLink "ScholarsPressModel$Setting" 184 "ScholarsPressModel$Setting" "noteNumber" "[I") k_3306) (fun _ h9 => h9) rfl hin rfl (by decide +kernel) (fun _ => rfl) (by decide) (by decide) (by decide) (Nat.le_of_ble_eq_true rfl) (Nat.le_of_ble_eq_true rfl) d_MSetting_init_493 d_MSetting_init_495 (fun q_111 H locs hP hD hS => ?_)
  obtain ⟨fs_112, efs_112⟩ : ∃ z, z = fs_110.set 65 (.ref q_111) := ⟨_, rfl⟩
  have hlen : fs_112.length = 141 := by rw [efs_112, List.length_set]; exact hlen
  have hP : va_P (dC, dI) classes [(h0, .inr (13, fs_112))] H := by rw [efs_112]; exact hP
  have hD : va_D A [(h0, .inr (13, fs_112))] := by rw [efs_112]; exact hD
  refine lv_aload_n hx hb d_MSetting_init_498 rfl (lv_at hl 0 rfl) ?_
  refine lv_sipush (v := 301) hx hb d_MSetting_init_499 (by decide) ?_
  refine ca_np (n := 301) (Nn := 301) (a0 := (301, .inl (fun _ => 0))) (q0 := 0) (ci := 13) (k := 67) (C := "ScholarsPressModel$Setting") (T := F_MSetting) (N := 141) hx hb hts in_MSetting t_MSetting t_MSetting_ok n_MSetting hown k_408 rfl hK hP hD hS hA rfl hlen rfl (by decide) (hts (.fieldLink "ScholarsPressModel$Setting" 187 "ScholarsPressModel$Setting" "entryFrom" "[I") k_3309) (fun _ h9 => h9) rfl hin rfl (by decide +kernel) (fun _ => rfl) (by decide) (by decide) (by decide) (Nat.le_of_ble_eq_true rfl) (Nat.le_of_ble_eq_true rfl) d_MSetting_init_502 d_MSetting_init_504 (fun q_113 H locs hP hD hS => ?_)
  obtain ⟨fs_114, efs_114⟩ : ∃ z, z = fs_112.set 67 (.ref q_113) := ⟨_, rfl⟩
  have hlen : fs_114.length = 141 := by rw [efs_114, List.length_set]; exact hlen
  have hP : va_P (dC, dI) classes [(h0, .inr (13, fs_114))] H := by rw [efs_114]; exact hP
  have hD : va_D A [(h0, .inr (13, fs_114))] := by rw [efs_114]; exact hD
  refine lv_aload_n hx hb d_MSetting_init_507 rfl (lv_at hl 0 rfl) ?_
  refine lv_sipush (v := 301) hx hb d_MSetting_init_508 (by decide) ?_
  refine ca_np (n := 301) (Nn := 301) (a0 := (301, .inl (fun _ => 0))) (q0 := 0) (ci := 13) (k := 68) (C := "ScholarsPressModel$Setting") (T := F_MSetting) (N := 141) hx hb hts in_MSetting t_MSetting t_MSetting_ok n_MSetting hown k_408 rfl hK hP hD hS hA rfl hlen rfl (by decide) (hts (.fieldLink "ScholarsPressModel$Setting" 190 "ScholarsPressModel$Setting" "entryTo" "[I") k_3310) (fun _ h9 => h9) rfl hin rfl (by decide +kernel) (fun _ => rfl) (by decide) (by decide) (by decide) (Nat.le_of_ble_eq_true rfl) (Nat.le_of_ble_eq_true rfl) d_MSetting_init_511 d_MSetting_init_513 (fun q_115 H locs hP hD hS => ?_)
  obtain ⟨fs_116, efs_116⟩ : ∃ z, z = fs_114.set 68 (.ref q_115) := ⟨_, rfl⟩
  have hlen : fs_116.length = 141 := by rw [efs_116, List.length_set]; exact hlen
  have hP : va_P (dC, dI) classes [(h0, .inr (13, fs_116))] H := by rw [efs_116]; exact hP
  have hD : va_D A [(h0, .inr (13, fs_116))] := by rw [efs_116]; exact hD
  refine lv_aload_n hx hb d_MSetting_init_516 rfl (lv_at hl 0 rfl) ?_
  refine lv_sipush (v := 500) hx hb d_MSetting_init_517 (by decide) ?_
  refine ca_np (n := 500) (Nn := 500) (a0 := (500, .inl (fun _ => 0))) (q0 := 0) (ci := 13) (k := 69) (C := "ScholarsPressModel$Setting") (T := F_MSetting) (N := 141) hx hb hts in_MSetting t_MSetting t_MSetting_ok n_MSetting hown k_408 rfl hK hP hD hS hA rfl hlen rfl (by decide) (hts (.fieldLink "ScholarsPressModel$Setting" 193 "ScholarsPressModel$Setting" "termEntry" "[I") k_3311) (fun _ h9 => h9) rfl hin rfl (by decide +kernel) (fun _ => rfl) (by decide) (by decide) (by decide) (Nat.le_of_ble_eq_true rfl) (Nat.le_of_ble_eq_true rfl) d_MSetting_init_520 d_MSetting_init_522 (fun q_117 H locs hP hD hS => ?_)
  obtain ⟨fs_118, efs_118⟩ : ∃ z, z = fs_116.set 69 (.ref q_117) := ⟨_, rfl⟩
  have hlen : fs_118.length = 141 := by rw [efs_118, List.length_set]; exact hlen
  have hP : va_P (dC, dI) classes [(h0, .inr (13, fs_118))] H := by rw [efs_118]; exact hP
  have hD : va_D A [(h0, .inr (13, fs_118))] := by rw [efs_118]; exact hD
  refine lv_aload_n hx hb d_MSetting_init_525 rfl (lv_at hl 0 rfl) ?_
  refine lv_sipush (v := 301) hx hb d_MSetting_init_526 (by decide) ?_
  refine ca_np (n := 301) (Nn := 301) (a0 := (301, .inl (fun _ => 0))) (q0 := 0) (ci := 13) (k := 70) (C := "ScholarsPressModel$Setting") (T := F_MSetting) (N := 141) hx hb hts in_MSetting t_MSetting t_MSetting_ok n_MSetting hown k_408 rfl hK hP hD hS hA rfl hlen rfl (by decide) (hts (.fieldLink "ScholarsPressModel$Setting" 196 "ScholarsPressModel$Setting" "entryOrder" "[I") k_3312) (fun _ h9 => h9) rfl hin rfl (by decide +kernel) (fun _ => rfl) (by decide) (by decide) (by decide) (Nat.le_of_ble_eq_true rfl) (Nat.le_of_ble_eq_true rfl) d_MSetting_init_529 d_MSetting_init_531 (fun q_119 H locs hP hD hS => ?_)
  obtain ⟨fs_120, efs_120⟩ : ∃ z, z = fs_118.set 70 (.ref q_119) := ⟨_, rfl⟩
  have hlen : fs_120.length = 141 := by rw [efs_120, List.length_set]; exact hlen
  have hP : va_P (dC, dI) classes [(h0, .inr (13, fs_120))] H := by rw [efs_120]; exact hP
  have hD : va_D A [(h0, .inr (13, fs_120))] := by rw [efs_120]; exact hD
  refine lv_aload_n hx hb d_MSetting_init_534 rfl (lv_at hl 0 rfl) ?_
  refine lv_sipush (v := 301) hx hb d_MSetting_init_535 (by decide) ?_
  refine ca_np (n := 301) (Nn := 301) (a0 := (301, .inl (fun _ => 0))) (q0 := 0) (ci := 13) (k := 71) (C := "ScholarsPressModel$Setting") (T := F_MSetting) (N := 141) hx hb hts in_MSetting t_MSetting t_MSetting_ok n_MSetting hown k_446 rfl hK hP hD hS hA rfl hlen rfl (by decide) (hts (.fieldLink "ScholarsPressModel$Setting" 199 "ScholarsPressModel$Setting" "entryTitle" "[Z") k_3313) (fun _ h9 => h9) rfl hin rfl (by decide +kernel) (fun _ => rfl) (by decide) (by decide) (by decide) (Nat.le_of_ble_eq_true rfl) (Nat.le_of_ble_eq_true rfl) d_MSetting_init_538 d_MSetting_init_540 (fun q_121 H locs hP hD hS => ?_)
  obtain ⟨fs_122, efs_122⟩ : ∃ z, z = fs_120.set 71 (.ref q_121) := ⟨_, rfl⟩
  have hlen : fs_122.length = 141 := by rw [efs_122, List.length_set]; exact hlen
  have hP : va_P (dC, dI) classes [(h0, .inr (13, fs_122))] H := by rw [efs_122]; exact hP
  have hD : va_D A [(h0, .inr (13, fs_122))] := by rw [efs_122]; exact hD
  refine lv_aload_n hx hb d_MSetting_init_543 rfl (lv_at hl 0 rfl) ?_
  refine lv_sipush (v := 12382) hx hb d_MSetting_init_544 (by decide) ?_
  refine ca_np (n := 12382) (Nn := 12382) (a0 := (12382, .inl (fun _ => 0))) (q0 := 0) (ci := 13) (k := 72) (C := "ScholarsPressModel$Setting") (T := F_MSetting) (N := 141) hx hb hts in_MSetting t_MSetting t_MSetting_ok n_MSetting hown k_338 rfl hK hP hD hS hA rfl hlen rfl (by decide) (hts (.fieldLink "ScholarsPressModel$Setting" 202 "ScholarsPressModel$Setting" "titles" "[B") k_3314) (fun _ h9 => h9) rfl hin rfl (by decide +kernel) (fun _ => rfl) (by decide) (by decide) (by decide) (Nat.le_of_ble_eq_true rfl) (Nat.le_of_ble_eq_true rfl) d_MSetting_init_547 d_MSetting_init_549 (fun q_123 H locs hP hD hS => ?_)
  obtain ⟨fs_124, efs_124⟩ : ∃ z, z = fs_122.set 72 (.ref q_123) := ⟨_, rfl⟩
  have hlen : fs_124.length = 141 := by rw [efs_124, List.length_set]; exact hlen
  have hP : va_P (dC, dI) classes [(h0, .inr (13, fs_124))] H := by rw [efs_124]; exact hP
  have hD : va_D A [(h0, .inr (13, fs_124))] := by rw [efs_124]; exact hD
  refine lv_aload_n hx hb d_MSetting_init_552 rfl (lv_at hl 0 rfl) ?_
  refine lv_sipush (v := 500) hx hb d_MSetting_init_553 (by decide) ?_
  refine ca_np (n := 500) (Nn := 500) (a0 := (500, .inl (fun _ => 0))) (q0 := 0) (ci := 13) (k := 74) (C := "ScholarsPressModel$Setting") (T := F_MSetting) (N := 141) hx hb hts in_MSetting t_MSetting t_MSetting_ok n_MSetting hown k_408 rfl hK hP hD hS hA rfl hlen rfl (by decide) (hts (.fieldLink "ScholarsPressModel$Setting" 205 "ScholarsPressModel$Setting" "pages" "[I") k_3316) (fun _ h9 => h9) rfl hin rfl (by decide +kernel) (fun _ => rfl) (by decide) (by decide) (by decide) (Nat.le_of_ble_eq_true rfl) (Nat.le_of_ble_eq_true rfl) d_MSetting_init_556 d_MSetting_init_558 (fun q_125 H locs hP hD hS => ?_)
  obtain ⟨fs_126, efs_126⟩ : ∃ z, z = fs_124.set 74 (.ref q_125) := ⟨_, rfl⟩
  have hlen : fs_126.length = 141 := by rw [efs_126, List.length_set]; exact hlen
  have hP : va_P (dC, dI) classes [(h0, .inr (13, fs_126))] H := by rw [efs_126]; exact hP
  have hD : va_D A [(h0, .inr (13, fs_126))] := by rw [efs_126]; exact hD
  refine lv_aload_n hx hb d_MSetting_init_561 rfl (lv_at hl 0 rfl) ?_
  refine lv_sipush (v := 500) hx hb d_MSetting_init_562 (by decide) ?_
  refine ca_np (n := 500) (Nn := 500) (a0 := (500, .inl (fun _ => 0))) (q0 := 0) (ci := 13) (k := 75) (C := "ScholarsPressModel$Setting") (T := F_MSetting) (N := 141) hx hb hts in_MSetting t_MSetting t_MSetting_ok n_MSetting hown k_408 rfl hK hP hD hS hA rfl hlen rfl (by decide) (hts (.fieldLink "ScholarsPressModel$Setting" 208 "ScholarsPressModel$Setting" "seqBegin" "[I") k_3317) (fun _ h9 => h9) rfl hin rfl (by decide +kernel) (fun _ => rfl) (by decide) (by decide) (by decide) (Nat.le_of_ble_eq_true rfl) (Nat.le_of_ble_eq_true rfl) d_MSetting_init_565 d_MSetting_init_567 (fun q_127 H locs hP hD hS => ?_)
  obtain ⟨fs_128, efs_128⟩ : ∃ z, z = fs_126.set 75 (.ref q_127) := ⟨_, rfl⟩
  have hlen : fs_128.length = 141 := by rw [efs_128, List.length_set]; exact hlen
  have hP : va_P (dC, dI) classes [(h0, .inr (13, fs_128))] H := by rw [efs_128]; exact hP
  have hD : va_D A [(h0, .inr (13, fs_128))] := by rw [efs_128]; exact hD
  refine lv_aload_n hx hb d_MSetting_init_570 rfl (lv_at hl 0 rfl) ?_
  refine lv_sipush (v := 500) hx hb d_MSetting_init_571 (by decide) ?_
  refine ca_np (n := 500) (Nn := 500) (a0 := (500, .inl (fun _ => 0))) (q0 := 0) (ci := 13) (k := 76) (C := "ScholarsPressModel$Setting") (T := F_MSetting) (N := 141) hx hb hts in_MSetting t_MSetting t_MSetting_ok n_MSetting hown k_408 rfl hK hP hD hS hA rfl hlen rfl (by decide) (hts (.fieldLink "ScholarsPressModel$Setting" 211 "ScholarsPressModel$Setting" "seqEnd" "[I") k_3318) (fun _ h9 => h9) rfl hin rfl (by decide +kernel) (fun _ => rfl) (by decide) (by decide) (by decide) (Nat.le_of_ble_eq_true rfl) (Nat.le_of_ble_eq_true rfl) d_MSetting_init_574 d_MSetting_init_576 (fun q_129 H locs hP hD hS => ?_)
  obtain ⟨fs_130, efs_130⟩ : ∃ z, z = fs_128.set 76 (.ref q_129) := ⟨_, rfl⟩
  have hlen : fs_130.length = 141 := by rw [efs_130, List.length_set]; exact hlen
  have hP : va_P (dC, dI) classes [(h0, .inr (13, fs_130))] H := by rw [efs_130]; exact hP
  have hD : va_D A [(h0, .inr (13, fs_130))] := by rw [efs_130]; exact hD
  refine lv_aload_n hx hb d_MSetting_init_579 rfl (lv_at hl 0 rfl) ?_
  refine lv_sipush (v := 500) hx hb d_MSetting_init_580 (by decide) ?_
  refine ca_np (n := 500) (Nn := 500) (a0 := (500, .inl (fun _ => 0))) (q0 := 0) (ci := 13) (k := 77) (C := "ScholarsPressModel$Setting") (T := F_MSetting) (N := 141) hx hb hts in_MSetting t_MSetting t_MSetting_ok n_MSetting hown k_408 rfl hK hP hD hS hA rfl hlen rfl (by decide) (hts (.fieldLink "ScholarsPressModel$Setting" 214 "ScholarsPressModel$Setting" "beginLine" "[I") k_3319) (fun _ h9 => h9) rfl hin rfl (by decide +kernel) (fun _ => rfl) (by decide) (by decide) (by decide) (Nat.le_of_ble_eq_true rfl) (Nat.le_of_ble_eq_true rfl) d_MSetting_init_583 d_MSetting_init_585 (fun q_131 H locs hP hD hS => ?_)
  obtain ⟨fs_132, efs_132⟩ : ∃ z, z = fs_130.set 77 (.ref q_131) := ⟨_, rfl⟩
  have hlen : fs_132.length = 141 := by rw [efs_132, List.length_set]; exact hlen
  have hP : va_P (dC, dI) classes [(h0, .inr (13, fs_132))] H := by rw [efs_132]; exact hP
  have hD : va_D A [(h0, .inr (13, fs_132))] := by rw [efs_132]; exact hD
  refine lv_aload_n hx hb d_MSetting_init_588 rfl (lv_at hl 0 rfl) ?_
  refine lv_sipush (v := 500) hx hb d_MSetting_init_589 (by decide) ?_
  refine ca_np (n := 500) (Nn := 500) (a0 := (500, .inl (fun _ => 0))) (q0 := 0) (ci := 13) (k := 78) (C := "ScholarsPressModel$Setting") (T := F_MSetting) (N := 141) hx hb hts in_MSetting t_MSetting t_MSetting_ok n_MSetting hown k_408 rfl hK hP hD hS hA rfl hlen rfl (by decide) (hts (.fieldLink "ScholarsPressModel$Setting" 217 "ScholarsPressModel$Setting" "endLine" "[I") k_3321) (fun _ h9 => h9) rfl hin rfl (by decide +kernel) (fun _ => rfl) (by decide) (by decide) (by decide) (Nat.le_of_ble_eq_true rfl) (Nat.le_of_ble_eq_true rfl) d_MSetting_init_592 d_MSetting_init_594 (fun q_133 H locs hP hD hS => ?_)
  obtain ⟨fs_134, efs_134⟩ : ∃ z, z = fs_132.set 78 (.ref q_133) := ⟨_, rfl⟩
  have hlen : fs_134.length = 141 := by rw [efs_134, List.length_set]; exact hlen
  have hP : va_P (dC, dI) classes [(h0, .inr (13, fs_134))] H := by rw [efs_134]; exact hP
  have hD : va_D A [(h0, .inr (13, fs_134))] := by rw [efs_134]; exact hD
  refine lv_aload_n hx hb d_MSetting_init_597 rfl (lv_at hl 0 rfl) ?_
  refine lv_sipush (v := 24008) hx hb d_MSetting_init_598 (by decide) ?_
  refine ca_np (n := 24008) (Nn := 24008) (a0 := (24008, .inl (fun _ => 0))) (q0 := 0) (ci := 13) (k := 79) (C := "ScholarsPressModel$Setting") (T := F_MSetting) (N := 141) hx hb hts in_MSetting t_MSetting t_MSetting_ok n_MSetting hown k_408 rfl hK hP hD hS hA rfl hlen rfl (by decide) (hts (.fieldLink "ScholarsPressModel$Setting" 220 "ScholarsPressModel$Setting" "lineOfSeq" "[I") k_3323) (fun _ h9 => h9) rfl hin rfl (by decide +kernel) (fun _ => rfl) (by decide) (by decide) (by decide) (Nat.le_of_ble_eq_true rfl) (Nat.le_of_ble_eq_true rfl) d_MSetting_init_601 d_MSetting_init_603 (fun q_135 H locs hP hD hS => ?_)
  obtain ⟨fs_136, efs_136⟩ : ∃ z, z = fs_134.set 79 (.ref q_135) := ⟨_, rfl⟩
  have hlen : fs_136.length = 141 := by rw [efs_136, List.length_set]; exact hlen
  have hP : va_P (dC, dI) classes [(h0, .inr (13, fs_136))] H := by rw [efs_136]; exact hP
  have hD : va_D A [(h0, .inr (13, fs_136))] := by rw [efs_136]; exact hD
  refine lv_aload_n hx hb d_MSetting_init_606 rfl (lv_at hl 0 rfl) ?_
  refine lv_sipush (v := 500) hx hb d_MSetting_init_607 (by decide) ?_
  refine ca_np (n := 500) (Nn := 500) (a0 := (500, .inl (fun _ => 0))) (q0 := 0) (ci := 13) (k := 80) (C := "ScholarsPressModel$Setting") (T := F_MSetting) (N := 141) hx hb hts in_MSetting t_MSetting t_MSetting_ok n_MSetting hown k_408 rfl hK hP hD hS hA rfl hlen rfl (by decide) (hts (.fieldLink "ScholarsPressModel$Setting" 223 "ScholarsPressModel$Setting" "page" "[I") k_3324) (fun _ h9 => h9) rfl hin rfl (by decide +kernel) (fun _ => rfl) (by decide) (by decide) (by decide) (Nat.le_of_ble_eq_true rfl) (Nat.le_of_ble_eq_true rfl) d_MSetting_init_610 d_MSetting_init_612 (fun q_137 H locs hP hD hS => ?_)
  obtain ⟨fs_138, efs_138⟩ : ∃ z, z = fs_136.set 80 (.ref q_137) := ⟨_, rfl⟩
  have hlen : fs_138.length = 141 := by rw [efs_138, List.length_set]; exact hlen
  have hP : va_P (dC, dI) classes [(h0, .inr (13, fs_138))] H := by rw [efs_138]; exact hP
  have hD : va_D A [(h0, .inr (13, fs_138))] := by rw [efs_138]; exact hD
  refine lv_aload_n hx hb d_MSetting_init_615 rfl (lv_at hl 0 rfl) ?_
  refine lv_sipush (v := 500) hx hb d_MSetting_init_616 (by decide) ?_
  refine ca_np (n := 500) (Nn := 500) (a0 := (500, .inl (fun _ => 0))) (q0 := 0) (ci := 13) (k := 81) (C := "ScholarsPressModel$Setting") (T := F_MSetting) (N := 141) hx hb hts in_MSetting t_MSetting t_MSetting_ok n_MSetting hown k_408 rfl hK hP hD hS hA rfl hlen rfl (by decide) (hts (.fieldLink "ScholarsPressModel$Setting" 226 "ScholarsPressModel$Setting" "first" "[I") k_3325) (fun _ h9 => h9) rfl hin rfl (by decide +kernel) (fun _ => rfl) (by decide) (by decide) (by decide) (Nat.le_of_ble_eq_true rfl) (Nat.le_of_ble_eq_true rfl) d_MSetting_init_619 d_MSetting_init_621 (fun q_139 H locs hP hD hS => ?_)
  obtain ⟨fs_140, efs_140⟩ : ∃ z, z = fs_138.set 81 (.ref q_139) := ⟨_, rfl⟩
  have hlen : fs_140.length = 141 := by rw [efs_140, List.length_set]; exact hlen
  have hP : va_P (dC, dI) classes [(h0, .inr (13, fs_140))] H := by rw [efs_140]; exact hP
  have hD : va_D A [(h0, .inr (13, fs_140))] := by rw [efs_140]; exact hD
  refine lv_aload_n hx hb d_MSetting_init_624 rfl (lv_at hl 0 rfl) ?_
  refine lv_sipush (v := 500) hx hb d_MSetting_init_625 (by decide) ?_
  refine ca_np (n := 500) (Nn := 500) (a0 := (500, .inl (fun _ => 0))) (q0 := 0) (ci := 13) (k := 82) (C := "ScholarsPressModel$Setting") (T := F_MSetting) (N := 141) hx hb hts in_MSetting t_MSetting t_MSetting_ok n_MSetting hown k_408 rfl hK hP hD hS hA rfl hlen rfl (by decide) (hts (.fieldLink "ScholarsPressModel$Setting" 229 "ScholarsPressModel$Setting" "last" "[I") k_3326) (fun _ h9 => h9) rfl hin rfl (by decide +kernel) (fun _ => rfl) (by decide) (by decide) (by decide) (Nat.le_of_ble_eq_true rfl) (Nat.le_of_ble_eq_true rfl) d_MSetting_init_628 d_MSetting_init_630 (fun q_141 H locs hP hD hS => ?_)
  obtain ⟨fs_142, efs_142⟩ : ∃ z, z = fs_140.set 82 (.ref q_141) := ⟨_, rfl⟩
  have hlen : fs_142.length = 141 := by rw [efs_142, List.length_set]; exact hlen
  have hP : va_P (dC, dI) classes [(h0, .inr (13, fs_142))] H := by rw [efs_142]; exact hP
  have hD : va_D A [(h0, .inr (13, fs_142))] := by rw [efs_142]; exact hD
  refine lv_aload_n hx hb d_MSetting_init_633 rfl (lv_at hl 0 rfl) ?_
  refine lv_sipush (v := 500) hx hb d_MSetting_init_634 (by decide) ?_
  refine ca_np (n := 500) (Nn := 500) (a0 := (500, .inl (fun _ => 0))) (q0 := 0) (ci := 13) (k := 83) (C := "ScholarsPressModel$Setting") (T := F_MSetting) (N := 141) hx hb hts in_MSetting t_MSetting t_MSetting_ok n_MSetting hown k_408 rfl hK hP hD hS hA rfl hlen rfl (by decide) (hts (.fieldLink "ScholarsPressModel$Setting" 232 "ScholarsPressModel$Setting" "newPage" "[I") k_3327) (fun _ h9 => h9) rfl hin rfl (by decide +kernel) (fun _ => rfl) (by decide) (by decide) (by decide) (Nat.le_of_ble_eq_true rfl) (Nat.le_of_ble_eq_true rfl) d_MSetting_init_637 d_MSetting_init_639 (fun q_143 H locs hP hD hS => ?_)
  obtain ⟨fs_144, efs_144⟩ : ∃ z, z = fs_142.set 83 (.ref q_143) := ⟨_, rfl⟩
  have hlen : fs_144.length = 141 := by rw [efs_144, List.length_set]; exact hlen
  have hP : va_P (dC, dI) classes [(h0, .inr (13, fs_144))] H := by rw [efs_144]; exact hP
  have hD : va_D A [(h0, .inr (13, fs_144))] := by rw [efs_144]; exact hD
  refine lv_aload_n hx hb d_MSetting_init_642 rfl (lv_at hl 0 rfl) ?_
  refine lv_sipush (v := 500) hx hb d_MSetting_init_643 (by decide) ?_
  refine ca_np (n := 500) (Nn := 500) (a0 := (500, .inl (fun _ => 0))) (q0 := 0) (ci := 13) (k := 84) (C := "ScholarsPressModel$Setting") (T := F_MSetting) (N := 141) hx hb hts in_MSetting t_MSetting t_MSetting_ok n_MSetting hown k_408 rfl hK hP hD hS hA rfl hlen rfl (by decide) (hts (.fieldLink "ScholarsPressModel$Setting" 235 "ScholarsPressModel$Setting" "newFirst" "[I") k_3329) (fun _ h9 => h9) rfl hin rfl (by decide +kernel) (fun _ => rfl) (by decide) (by decide) (by decide) (Nat.le_of_ble_eq_true rfl) (Nat.le_of_ble_eq_true rfl) d_MSetting_init_646 d_MSetting_init_648 (fun q_145 H locs hP hD hS => ?_)
  obtain ⟨fs_146, efs_146⟩ : ∃ z, z = fs_144.set 84 (.ref q_145) := ⟨_, rfl⟩
  have hlen : fs_146.length = 141 := by rw [efs_146, List.length_set]; exact hlen
  have hP : va_P (dC, dI) classes [(h0, .inr (13, fs_146))] H := by rw [efs_146]; exact hP
  have hD : va_D A [(h0, .inr (13, fs_146))] := by rw [efs_146]; exact hD
  refine lv_aload_n hx hb d_MSetting_init_651 rfl (lv_at hl 0 rfl) ?_
  refine lv_sipush (v := 500) hx hb d_MSetting_init_652 (by decide) ?_
  refine ca_np (n := 500) (Nn := 500) (a0 := (500, .inl (fun _ => 0))) (q0 := 0) (ci := 13) (k := 85) (C := "ScholarsPressModel$Setting") (T := F_MSetting) (N := 141) hx hb hts in_MSetting t_MSetting t_MSetting_ok n_MSetting hown k_408 rfl hK hP hD hS hA rfl hlen rfl (by decide) (hts (.fieldLink "ScholarsPressModel$Setting" 238 "ScholarsPressModel$Setting" "newLast" "[I") k_3331) (fun _ h9 => h9) rfl hin rfl (by decide +kernel) (fun _ => rfl) (by decide) (by decide) (by decide) (Nat.le_of_ble_eq_true rfl) (Nat.le_of_ble_eq_true rfl) d_MSetting_init_655 d_MSetting_init_657 (fun q_147 H locs hP hD hS => ?_)
  obtain ⟨fs_148, efs_148⟩ : ∃ z, z = fs_146.set 85 (.ref q_147) := ⟨_, rfl⟩
  have hlen : fs_148.length = 141 := by rw [efs_148, List.length_set]; exact hlen
  have hP : va_P (dC, dI) classes [(h0, .inr (13, fs_148))] H := by rw [efs_148]; exact hP
  have hD : va_D A [(h0, .inr (13, fs_148))] := by rw [efs_148]; exact hD
  refine lv_aload_n hx hb d_MSetting_init_660 rfl (lv_at hl 0 rfl) ?_
  refine lv_sipush (v := 500) hx hb d_MSetting_init_661 (by decide) ?_
  refine ca_np (n := 500) (Nn := 500) (a0 := (500, .inl (fun _ => 0))) (q0 := 0) (ci := 13) (k := 86) (C := "ScholarsPressModel$Setting") (T := F_MSetting) (N := 141) hx hb hts in_MSetting t_MSetting t_MSetting_ok n_MSetting hown k_408 rfl hK hP hD hS hA rfl hlen rfl (by decide) (hts (.fieldLink "ScholarsPressModel$Setting" 241 "ScholarsPressModel$Setting" "use" "[I") k_3332) (fun _ h9 => h9) rfl hin rfl (by decide +kernel) (fun _ => rfl) (by decide) (by decide) (by decide) (Nat.le_of_ble_eq_true rfl) (Nat.le_of_ble_eq_true rfl) d_MSetting_init_664 d_MSetting_init_666 (fun q_149 H locs hP hD hS => ?_)
  obtain ⟨fs_150, efs_150⟩ : ∃ z, z = fs_148.set 86 (.ref q_149) := ⟨_, rfl⟩
  have hlen : fs_150.length = 141 := by rw [efs_150, List.length_set]; exact hlen
  have hP : va_P (dC, dI) classes [(h0, .inr (13, fs_150))] H := by rw [efs_150]; exact hP
  have hD : va_D A [(h0, .inr (13, fs_150))] := by rw [efs_150]; exact hD
  refine lv_aload_n hx hb d_MSetting_init_669 rfl (lv_at hl 0 rfl) ?_
  refine lv_sipush (v := 500) hx hb d_MSetting_init_670 (by decide) ?_
  refine ca_np (n := 500) (Nn := 500) (a0 := (500, .inl (fun _ => 0))) (q0 := 0) (ci := 13) (k := 87) (C := "ScholarsPressModel$Setting") (T := F_MSetting) (N := 141) hx hb hts in_MSetting t_MSetting t_MSetting_ok n_MSetting hown k_408 rfl hK hP hD hS hA rfl hlen rfl (by decide) (hts (.fieldLink "ScholarsPressModel$Setting" 244 "ScholarsPressModel$Setting" "useOf" "[I") k_3333) (fun _ h9 => h9) rfl hin rfl (by decide +kernel) (fun _ => rfl) (by decide) (by decide) (by decide) (Nat.le_of_ble_eq_true rfl) (Nat.le_of_ble_eq_true rfl) d_MSetting_init_673 d_MSetting_init_675 (fun q_151 H locs hP hD hS => ?_)
  obtain ⟨fs_152, efs_152⟩ : ∃ z, z = fs_150.set 87 (.ref q_151) := ⟨_, rfl⟩
  have hlen : fs_152.length = 141 := by rw [efs_152, List.length_set]; exact hlen
  have hP : va_P (dC, dI) classes [(h0, .inr (13, fs_152))] H := by rw [efs_152]; exact hP
  have hD : va_D A [(h0, .inr (13, fs_152))] := by rw [efs_152]; exact hD
  refine lv_aload_n hx hb d_MSetting_init_678 rfl (lv_at hl 0 rfl) ?_
  refine lv_sipush (v := 1628) hx hb d_MSetting_init_679 (by decide) ?_
  refine ca_np (n := 1628) (Nn := 1628) (a0 := (1628, .inl (fun _ => 0))) (q0 := 0) (ci := 13) (k := 89) (C := "ScholarsPressModel$Setting") (T := F_MSetting) (N := 141) hx hb hts in_MSetting t_MSetting t_MSetting_ok n_MSetting hown k_408 rfl hK hP hD hS hA rfl hlen rfl (by decide) (hts (.fieldLink "ScholarsPressModel$Setting" 247 "ScholarsPressModel$Setting" "pieceNote" "[I") k_3336) (fun _ h9 => h9) rfl hin rfl (by decide +kernel) (fun _ => rfl) (by decide) (by decide) (by decide) (Nat.le_of_ble_eq_true rfl) (Nat.le_of_ble_eq_true rfl) d_MSetting_init_682 d_MSetting_init_684 (fun q_153 H locs hP hD hS => ?_)
  obtain ⟨fs_154, efs_154⟩ : ∃ z, z = fs_152.set 89 (.ref q_153) := ⟨_, rfl⟩
  have hlen : fs_154.length = 141 := by rw [efs_154, List.length_set]; exact hlen
  have hP : va_P (dC, dI) classes [(h0, .inr (13, fs_154))] H := by rw [efs_154]; exact hP
  have hD : va_D A [(h0, .inr (13, fs_154))] := by rw [efs_154]; exact hD
  refine lv_aload_n hx hb d_MSetting_init_687 rfl (lv_at hl 0 rfl) ?_
  refine lv_sipush (v := 1628) hx hb d_MSetting_init_688 (by decide) ?_
  refine ca_np (n := 1628) (Nn := 1628) (a0 := (1628, .inl (fun _ => 0))) (q0 := 0) (ci := 13) (k := 90) (C := "ScholarsPressModel$Setting") (T := F_MSetting) (N := 141) hx hb hts in_MSetting t_MSetting t_MSetting_ok n_MSetting hown k_408 rfl hK hP hD hS hA rfl hlen rfl (by decide) (hts (.fieldLink "ScholarsPressModel$Setting" 250 "ScholarsPressModel$Setting" "pieceFrom" "[I") k_3338) (fun _ h9 => h9) rfl hin rfl (by decide +kernel) (fun _ => rfl) (by decide) (by decide) (by decide) (Nat.le_of_ble_eq_true rfl) (Nat.le_of_ble_eq_true rfl) d_MSetting_init_691 d_MSetting_init_693 (fun q_155 H locs hP hD hS => ?_)
  obtain ⟨fs_156, efs_156⟩ : ∃ z, z = fs_154.set 90 (.ref q_155) := ⟨_, rfl⟩
  have hlen : fs_156.length = 141 := by rw [efs_156, List.length_set]; exact hlen
  have hP : va_P (dC, dI) classes [(h0, .inr (13, fs_156))] H := by rw [efs_156]; exact hP
  have hD : va_D A [(h0, .inr (13, fs_156))] := by rw [efs_156]; exact hD
  refine lv_aload_n hx hb d_MSetting_init_696 rfl (lv_at hl 0 rfl) ?_
  refine lv_sipush (v := 1628) hx hb d_MSetting_init_697 (by decide) ?_
  refine ca_np (n := 1628) (Nn := 1628) (a0 := (1628, .inl (fun _ => 0))) (q0 := 0) (ci := 13) (k := 91) (C := "ScholarsPressModel$Setting") (T := F_MSetting) (N := 141) hx hb hts in_MSetting t_MSetting t_MSetting_ok n_MSetting hown k_408 rfl hK hP hD hS hA rfl hlen rfl (by decide) (hts (.fieldLink "ScholarsPressModel$Setting" 253 "ScholarsPressModel$Setting" "pieceTo" "[I") k_3340) (fun _ h9 => h9) rfl hin rfl (by decide +kernel) (fun _ => rfl) (by decide) (by decide) (by decide) (Nat.le_of_ble_eq_true rfl) (Nat.le_of_ble_eq_true rfl) d_MSetting_init_700 d_MSetting_init_702 (fun q_157 H locs hP hD hS => ?_)
  obtain ⟨fs_158, efs_158⟩ : ∃ z, z = fs_156.set 91 (.ref q_157) := ⟨_, rfl⟩
  have hlen : fs_158.length = 141 := by rw [efs_158, List.length_set]; exact hlen
  have hP : va_P (dC, dI) classes [(h0, .inr (13, fs_158))] H := by rw [efs_158]; exact hP
  have hD : va_D A [(h0, .inr (13, fs_158))] := by rw [efs_158]; exact hD
  refine lv_aload_n hx hb d_MSetting_init_705 rfl (lv_at hl 0 rfl) ?_
  refine lv_sipush (v := 1628) hx hb d_MSetting_init_706 (by decide) ?_
  refine ca_np (n := 1628) (Nn := 1628) (a0 := (1628, .inl (fun _ => 0))) (q0 := 0) (ci := 13) (k := 92) (C := "ScholarsPressModel$Setting") (T := F_MSetting) (N := 141) hx hb hts in_MSetting t_MSetting t_MSetting_ok n_MSetting hown k_408 rfl hK hP hD hS hA rfl hlen rfl (by decide) (hts (.fieldLink "ScholarsPressModel$Setting" 256 "ScholarsPressModel$Setting" "pieceColumn" "[I") k_3342) (fun _ h9 => h9) rfl hin rfl (by decide +kernel) (fun _ => rfl) (by decide) (by decide) (by decide) (Nat.le_of_ble_eq_true rfl) (Nat.le_of_ble_eq_true rfl) d_MSetting_init_709 d_MSetting_init_711 (fun q_159 H locs hP hD hS => ?_)
  obtain ⟨fs_160, efs_160⟩ : ∃ z, z = fs_158.set 92 (.ref q_159) := ⟨_, rfl⟩
  have hlen : fs_160.length = 141 := by rw [efs_160, List.length_set]; exact hlen
  have hP : va_P (dC, dI) classes [(h0, .inr (13, fs_160))] H := by rw [efs_160]; exact hP
  have hD : va_D A [(h0, .inr (13, fs_160))] := by rw [efs_160]; exact hD
  refine lv_aload_n hx hb d_MSetting_init_714 rfl (lv_at hl 0 rfl) ?_
  refine lv_sipush (v := 1628) hx hb d_MSetting_init_715 (by decide) ?_
  refine ca_np (n := 1628) (Nn := 1628) (a0 := (1628, .inr (.inl (fun _ => 0)))) (q0 := 0) (ci := 13) (k := 93) (C := "ScholarsPressModel$Setting") (T := F_MSetting) (N := 141) hx hb hts in_MSetting t_MSetting t_MSetting_ok n_MSetting hown k_409 rfl hK hP hD hS hA rfl hlen rfl (by decide) (hts (.fieldLink "ScholarsPressModel$Setting" 259 "ScholarsPressModel$Setting" "pieceTop" "[J") k_3344) (fun _ h9 => h9) rfl hin rfl (by decide +kernel) (fun _ => rfl) (by decide) (by decide) (by decide) (Nat.le_of_ble_eq_true rfl) (Nat.le_of_ble_eq_true rfl) d_MSetting_init_718 d_MSetting_init_720 (fun q_161 H locs hP hD hS => ?_)
  obtain ⟨fs_162, efs_162⟩ : ∃ z, z = fs_160.set 93 (.ref q_161) := ⟨_, rfl⟩
  have hlen : fs_162.length = 141 := by rw [efs_162, List.length_set]; exact hlen
  have hP : va_P (dC, dI) classes [(h0, .inr (13, fs_162))] H := by rw [efs_162]; exact hP
  have hD : va_D A [(h0, .inr (13, fs_162))] := by rw [efs_162]; exact hD
  refine lv_aload_n hx hb d_MSetting_init_723 rfl (lv_at hl 0 rfl) ?_
  refine lv_sipush (v := 500) hx hb d_MSetting_init_724 (by decide) ?_
  refine ca_np (n := 500) (Nn := 500) (a0 := (500, .inl (fun _ => 0))) (q0 := 0) (ci := 13) (k := 99) (C := "ScholarsPressModel$Setting") (T := F_MSetting) (N := 141) hx hb hts in_MSetting t_MSetting t_MSetting_ok n_MSetting hown k_446 rfl hK hP hD hS hA rfl hlen rfl (by decide) (hts (.fieldLink "ScholarsPressModel$Setting" 262 "ScholarsPressModel$Setting" "wavers" "[Z") k_3354) (fun _ h9 => h9) rfl hin rfl (by decide +kernel) (fun _ => rfl) (by decide) (by decide) (by decide) (Nat.le_of_ble_eq_true rfl) (Nat.le_of_ble_eq_true rfl) d_MSetting_init_727 d_MSetting_init_729 (fun q_163 H locs hP hD hS => ?_)
  obtain ⟨fs_164, efs_164⟩ : ∃ z, z = fs_162.set 99 (.ref q_163) := ⟨_, rfl⟩
  have hlen : fs_164.length = 141 := by rw [efs_164, List.length_set]; exact hlen
  have hP : va_P (dC, dI) classes [(h0, .inr (13, fs_164))] H := by rw [efs_164]; exact hP
  have hD : va_D A [(h0, .inr (13, fs_164))] := by rw [efs_164]; exact hD
  refine lv_aload_n hx hb d_MSetting_init_732 rfl (lv_at hl 0 rfl) ?_
  refine lv_sipush (v := 24016) hx hb d_MSetting_init_733 (by decide) ?_
  refine ca_np (n := 24016) (Nn := 24016) (a0 := (24016, .inl (fun _ => 0))) (q0 := 0) (ci := 13) (k := 102) (C := "ScholarsPressModel$Setting") (T := F_MSetting) (N := 141) hx hb hts in_MSetting t_MSetting t_MSetting_ok n_MSetting hown k_446 rfl hK hP hD hS hA rfl hlen rfl (by decide) (hts (.fieldLink "ScholarsPressModel$Setting" 265 "ScholarsPressModel$Setting" "marks" "[Z") k_3358) (fun _ h9 => h9) rfl hin rfl (by decide +kernel) (fun _ => rfl) (by decide) (by decide) (by decide) (Nat.le_of_ble_eq_true rfl) (Nat.le_of_ble_eq_true rfl) d_MSetting_init_736 d_MSetting_init_738 (fun q_165 H locs hP hD hS => ?_)
  obtain ⟨fs_166, efs_166⟩ : ∃ z, z = fs_164.set 102 (.ref q_165) := ⟨_, rfl⟩
  have hlen : fs_166.length = 141 := by rw [efs_166, List.length_set]; exact hlen
  have hP : va_P (dC, dI) classes [(h0, .inr (13, fs_166))] H := by rw [efs_166]; exact hP
  have hD : va_D A [(h0, .inr (13, fs_166))] := by rw [efs_166]; exact hD
  refine lv_aload_n hx hb d_MSetting_init_741 rfl (lv_at hl 0 rfl) ?_
  refine lv_sipush (v := 602) hx hb d_MSetting_init_742 (by decide) ?_
  refine ca_np (n := 602) (Nn := 602) (a0 := (602, .inr (.inl (fun _ => 0)))) (q0 := 0) (ci := 13) (k := 104) (C := "ScholarsPressModel$Setting") (T := F_MSetting) (N := 141) hx hb hts in_MSetting t_MSetting t_MSetting_ok n_MSetting hown k_409 rfl hK hP hD hS hA rfl hlen rfl (by decide) (hts (.fieldLink "ScholarsPressModel$Setting" 268 "ScholarsPressModel$Setting" "sumPart" "[J") k_3360) (fun _ h9 => h9) rfl hin rfl (by decide +kernel) (fun _ => rfl) (by decide) (by decide) (by decide) (Nat.le_of_ble_eq_true rfl) (Nat.le_of_ble_eq_true rfl) d_MSetting_init_745 d_MSetting_init_747 (fun q_167 H locs hP hD hS => ?_)
  obtain ⟨fs_168, efs_168⟩ : ∃ z, z = fs_166.set 104 (.ref q_167) := ⟨_, rfl⟩
  have hlen : fs_168.length = 141 := by rw [efs_168, List.length_set]; exact hlen
  have hP : va_P (dC, dI) classes [(h0, .inr (13, fs_168))] H := by rw [efs_168]; exact hP
  have hD : va_D A [(h0, .inr (13, fs_168))] := by rw [efs_168]; exact hD
  refine lv_aload_n hx hb d_MSetting_init_750 rfl (lv_at hl 0 rfl) ?_
  refine lv_sipush (v := 602) hx hb d_MSetting_init_751 (by decide) ?_
  refine ca_np (n := 602) (Nn := 602) (a0 := (602, .inr (.inl (fun _ => 0)))) (q0 := 0) (ci := 13) (k := 105) (C := "ScholarsPressModel$Setting") (T := F_MSetting) (N := 141) hx hb hts in_MSetting t_MSetting t_MSetting_ok n_MSetting hown k_409 rfl hK hP hD hS hA rfl hlen rfl (by decide) (hts (.fieldLink "ScholarsPressModel$Setting" 271 "ScholarsPressModel$Setting" "sumGlue" "[J") k_3361) (fun _ h9 => h9) rfl hin rfl (by decide +kernel) (fun _ => rfl) (by decide) (by decide) (by decide) (Nat.le_of_ble_eq_true rfl) (Nat.le_of_ble_eq_true rfl) d_MSetting_init_754 d_MSetting_init_756 (fun q_169 H locs hP hD hS => ?_)
  obtain ⟨fs_170, efs_170⟩ : ∃ z, z = fs_168.set 105 (.ref q_169) := ⟨_, rfl⟩
  have hlen : fs_170.length = 141 := by rw [efs_170, List.length_set]; exact hlen
  have hP : va_P (dC, dI) classes [(h0, .inr (13, fs_170))] H := by rw [efs_170]; exact hP
  have hD : va_D A [(h0, .inr (13, fs_170))] := by rw [efs_170]; exact hD
  refine lv_aload_n hx hb d_MSetting_init_759 rfl (lv_at hl 0 rfl) ?_
  refine lv_sipush (v := 602) hx hb d_MSetting_init_760 (by decide) ?_
  refine ca_np (n := 602) (Nn := 602) (a0 := (602, .inr (.inl (fun _ => 0)))) (q0 := 0) (ci := 13) (k := 106) (C := "ScholarsPressModel$Setting") (T := F_MSetting) (N := 141) hx hb hts in_MSetting t_MSetting t_MSetting_ok n_MSetting hown k_409 rfl hK hP hD hS hA rfl hlen rfl (by decide) (hts (.fieldLink "ScholarsPressModel$Setting" 274 "ScholarsPressModel$Setting" "sumStretch" "[J") k_3362) (fun _ h9 => h9) rfl hin rfl (by decide +kernel) (fun _ => rfl) (by decide) (by decide) (by decide) (Nat.le_of_ble_eq_true rfl) (Nat.le_of_ble_eq_true rfl) d_MSetting_init_763 d_MSetting_init_765 (fun q_171 H locs hP hD hS => ?_)
  obtain ⟨fs_172, efs_172⟩ : ∃ z, z = fs_170.set 106 (.ref q_171) := ⟨_, rfl⟩
  have hlen : fs_172.length = 141 := by rw [efs_172, List.length_set]; exact hlen
  have hP : va_P (dC, dI) classes [(h0, .inr (13, fs_172))] H := by rw [efs_172]; exact hP
  have hD : va_D A [(h0, .inr (13, fs_172))] := by rw [efs_172]; exact hD
  refine lv_aload_n hx hb d_MSetting_init_768 rfl (lv_at hl 0 rfl) ?_
  refine lv_sipush (v := 602) hx hb d_MSetting_init_769 (by decide) ?_
  refine ca_np (n := 602) (Nn := 602) (a0 := (602, .inr (.inl (fun _ => 0)))) (q0 := 0) (ci := 13) (k := 107) (C := "ScholarsPressModel$Setting") (T := F_MSetting) (N := 141) hx hb hts in_MSetting t_MSetting t_MSetting_ok n_MSetting hown k_409 rfl hK hP hD hS hA rfl hlen rfl (by decide) (hts (.fieldLink "ScholarsPressModel$Setting" 277 "ScholarsPressModel$Setting" "sumShrink" "[J") k_3363) (fun _ h9 => h9) rfl hin rfl (by decide +kernel) (fun _ => rfl) (by decide) (by decide) (by decide) (Nat.le_of_ble_eq_true rfl) (Nat.le_of_ble_eq_true rfl) d_MSetting_init_772 d_MSetting_init_774 (fun q_173 H locs hP hD hS => ?_)
  obtain ⟨fs_174, efs_174⟩ : ∃ z, z = fs_172.set 107 (.ref q_173) := ⟨_, rfl⟩
  have hlen : fs_174.length = 141 := by rw [efs_174, List.length_set]; exact hlen
  have hP : va_P (dC, dI) classes [(h0, .inr (13, fs_174))] H := by rw [efs_174]; exact hP
  have hD : va_D A [(h0, .inr (13, fs_174))] := by rw [efs_174]; exact hD
  refine lv_aload_n hx hb d_MSetting_init_777 rfl (lv_at hl 0 rfl) ?_
  refine lv_sipush (v := 2408) hx hb d_MSetting_init_778 (by decide) ?_
  refine ca_np (n := 2408) (Nn := 2408) (a0 := (2408, .inr (.inl (fun _ => 0)))) (q0 := 0) (ci := 13) (k := 108) (C := "ScholarsPressModel$Setting") (T := F_MSetting) (N := 141) hx hb hts in_MSetting t_MSetting t_MSetting_ok n_MSetting hown k_409 rfl hK hP hD hS hA rfl hlen rfl (by decide) (hts (.fieldLink "ScholarsPressModel$Setting" 280 "ScholarsPressModel$Setting" "best" "[J") k_3364) (fun _ h9 => h9) rfl hin rfl (by decide +kernel) (fun _ => rfl) (by decide) (by decide) (by decide) (Nat.le_of_ble_eq_true rfl) (Nat.le_of_ble_eq_true rfl) d_MSetting_init_781 d_MSetting_init_783 (fun q_175 H locs hP hD hS => ?_)
  obtain ⟨fs_176, efs_176⟩ : ∃ z, z = fs_174.set 108 (.ref q_175) := ⟨_, rfl⟩
  have hlen : fs_176.length = 141 := by rw [efs_176, List.length_set]; exact hlen
  have hP : va_P (dC, dI) classes [(h0, .inr (13, fs_176))] H := by rw [efs_176]; exact hP
  have hD : va_D A [(h0, .inr (13, fs_176))] := by rw [efs_176]; exact hD
  refine lv_aload_n hx hb d_MSetting_init_786 rfl (lv_at hl 0 rfl) ?_
  refine lv_sipush (v := 2408) hx hb d_MSetting_init_787 (by decide) ?_
  refine ca_np (n := 2408) (Nn := 2408) (a0 := (2408, .inl (fun _ => 0))) (q0 := 0) (ci := 13) (k := 109) (C := "ScholarsPressModel$Setting") (T := F_MSetting) (N := 141) hx hb hts in_MSetting t_MSetting t_MSetting_ok n_MSetting hown k_446 rfl hK hP hD hS hA rfl hlen rfl (by decide) (hts (.fieldLink "ScholarsPressModel$Setting" 283 "ScholarsPressModel$Setting" "reached" "[Z") k_3365) (fun _ h9 => h9) rfl hin rfl (by decide +kernel) (fun _ => rfl) (by decide) (by decide) (by decide) (Nat.le_of_ble_eq_true rfl) (Nat.le_of_ble_eq_true rfl) d_MSetting_init_790 d_MSetting_init_792 (fun q_177 H locs hP hD hS => ?_)
  obtain ⟨fs_178, efs_178⟩ : ∃ z, z = fs_176.set 109 (.ref q_177) := ⟨_, rfl⟩
  have hlen : fs_178.length = 141 := by rw [efs_178, List.length_set]; exact hlen
  have hP : va_P (dC, dI) classes [(h0, .inr (13, fs_178))] H := by rw [efs_178]; exact hP
  have hD : va_D A [(h0, .inr (13, fs_178))] := by rw [efs_178]; exact hD
  refine lv_aload_n hx hb d_MSetting_init_795 rfl (lv_at hl 0 rfl) ?_
  refine lv_sipush (v := 2408) hx hb d_MSetting_init_796 (by decide) ?_
  refine ca_np (n := 2408) (Nn := 2408) (a0 := (2408, .inl (fun _ => 0))) (q0 := 0) (ci := 13) (k := 110) (C := "ScholarsPressModel$Setting") (T := F_MSetting) (N := 141) hx hb hts in_MSetting t_MSetting t_MSetting_ok n_MSetting hown k_408 rfl hK hP hD hS hA rfl hlen rfl (by decide) (hts (.fieldLink "ScholarsPressModel$Setting" 286 "ScholarsPressModel$Setting" "bestFrom" "[I") k_3366) (fun _ h9 => h9) rfl hin rfl (by decide +kernel) (fun _ => rfl) (by decide) (by decide) (by decide) (Nat.le_of_ble_eq_true rfl) (Nat.le_of_ble_eq_true rfl) d_MSetting_init_799 d_MSetting_init_801 (fun q_179 H locs hP hD hS => ?_)
  obtain ⟨fs_180, efs_180⟩ : ∃ z, z = fs_178.set 110 (.ref q_179) := ⟨_, rfl⟩
  have hlen : fs_180.length = 141 := by rw [efs_180, List.length_set]; exact hlen
  have hP : va_P (dC, dI) classes [(h0, .inr (13, fs_180))] H := by rw [efs_180]; exact hP
  have hD : va_D A [(h0, .inr (13, fs_180))] := by rw [efs_180]; exact hD
  refine lv_aload_n hx hb d_MSetting_init_804 rfl (lv_at hl 0 rfl) ?_
  refine lv_sipush (v := 2408) hx hb d_MSetting_init_805 (by decide) ?_
  refine ca_np (n := 2408) (Nn := 2408) (a0 := (2408, .inl (fun _ => 0))) (q0 := 0) (ci := 13) (k := 111) (C := "ScholarsPressModel$Setting") (T := F_MSetting) (N := 141) hx hb hts in_MSetting t_MSetting t_MSetting_ok n_MSetting hown k_408 rfl hK hP hD hS hA rfl hlen rfl (by decide) (hts (.fieldLink "ScholarsPressModel$Setting" 289 "ScholarsPressModel$Setting" "bestClass" "[I") k_3367) (fun _ h9 => h9) rfl hin rfl (by decide +kernel) (fun _ => rfl) (by decide) (by decide) (by decide) (Nat.le_of_ble_eq_true rfl) (Nat.le_of_ble_eq_true rfl) d_MSetting_init_808 d_MSetting_init_810 (fun q_181 H locs hP hD hS => ?_)
  obtain ⟨fs_182, efs_182⟩ : ∃ z, z = fs_180.set 111 (.ref q_181) := ⟨_, rfl⟩
  have hlen : fs_182.length = 141 := by rw [efs_182, List.length_set]; exact hlen
  have hP : va_P (dC, dI) classes [(h0, .inr (13, fs_182))] H := by rw [efs_182]; exact hP
  have hD : va_D A [(h0, .inr (13, fs_182))] := by rw [efs_182]; exact hD
  refine lv_aload_n hx hb d_MSetting_init_813 rfl (lv_at hl 0 rfl) ?_
  refine lv_sipush (v := 1200) hx hb d_MSetting_init_814 (by decide) ?_
  refine ca_np (n := 1200) (Nn := 1200) (a0 := (1200, .inl (fun _ => 0))) (q0 := 0) (ci := 13) (k := 121) (C := "ScholarsPressModel$Setting") (T := F_MSetting) (N := 141) hx hb hts in_MSetting t_MSetting t_MSetting_ok n_MSetting hown k_408 rfl hK hP hD hS hA rfl hlen rfl (by decide) (hts (.fieldLink "ScholarsPressModel$Setting" 292 "ScholarsPressModel$Setting" "parLine" "[I") k_3377) (fun _ h9 => h9) rfl hin rfl (by decide +kernel) (fun _ => rfl) (by decide) (by decide) (by decide) (Nat.le_of_ble_eq_true rfl) (Nat.le_of_ble_eq_true rfl) d_MSetting_init_817 d_MSetting_init_819 (fun q_183 H locs hP hD hS => ?_)
  obtain ⟨fs_184, efs_184⟩ : ∃ z, z = fs_182.set 121 (.ref q_183) := ⟨_, rfl⟩
  have hlen : fs_184.length = 141 := by rw [efs_184, List.length_set]; exact hlen
  have hP : va_P (dC, dI) classes [(h0, .inr (13, fs_184))] H := by rw [efs_184]; exact hP
  have hD : va_D A [(h0, .inr (13, fs_184))] := by rw [efs_184]; exact hD
  refine lv_aload_n hx hb d_MSetting_init_822 rfl (lv_at hl 0 rfl) ?_
  refine lv_sipush (v := 1501) hx hb d_MSetting_init_823 (by decide) ?_
  refine ca_np (n := 1501) (Nn := 1501) (a0 := (1501, .inr (.inl (fun _ => 0)))) (q0 := 0) (ci := 13) (k := 122) (C := "ScholarsPressModel$Setting") (T := F_MSetting) (N := 141) hx hb hts in_MSetting t_MSetting t_MSetting_ok n_MSetting hown k_409 rfl hK hP hD hS hA rfl hlen rfl (by decide) (hts (.fieldLink "ScholarsPressModel$Setting" 295 "ScholarsPressModel$Setting" "high" "[J") k_3378) (fun _ h9 => h9) rfl hin rfl (by decide +kernel) (fun _ => rfl) (by decide) (by decide) (by decide) (Nat.le_of_ble_eq_true rfl) (Nat.le_of_ble_eq_true rfl) d_MSetting_init_826 d_MSetting_init_828 (fun q_185 H locs hP hD hS => ?_)
  obtain ⟨fs_186, efs_186⟩ : ∃ z, z = fs_184.set 122 (.ref q_185) := ⟨_, rfl⟩
  have hlen : fs_186.length = 141 := by rw [efs_186, List.length_set]; exact hlen
  have hP : va_P (dC, dI) classes [(h0, .inr (13, fs_186))] H := by rw [efs_186]; exact hP
  have hD : va_D A [(h0, .inr (13, fs_186))] := by rw [efs_186]; exact hD
  refine lv_aload_n hx hb d_MSetting_init_831 rfl (lv_at hl 0 rfl) ?_
  refine lv_sipush (v := 1501) hx hb d_MSetting_init_832 (by decide) ?_
  refine ca_np (n := 1501) (Nn := 1501) (a0 := (1501, .inl (fun _ => 0))) (q0 := 0) (ci := 13) (k := 123) (C := "ScholarsPressModel$Setting") (T := F_MSetting) (N := 141) hx hb hts in_MSetting t_MSetting t_MSetting_ok n_MSetting hown k_408 rfl hK hP hD hS hA rfl hlen rfl (by decide) (hts (.fieldLink "ScholarsPressModel$Setting" 298 "ScholarsPressModel$Setting" "notesTo" "[I") k_3379) (fun _ h9 => h9) rfl hin rfl (by decide +kernel) (fun _ => rfl) (by decide) (by decide) (by decide) (Nat.le_of_ble_eq_true rfl) (Nat.le_of_ble_eq_true rfl) d_MSetting_init_835 d_MSetting_init_837 (fun q_187 H locs hP hD hS => ?_)
  obtain ⟨fs_188, efs_188⟩ : ∃ z, z = fs_186.set 123 (.ref q_187) := ⟨_, rfl⟩
  have hlen : fs_188.length = 141 := by rw [efs_188, List.length_set]; exact hlen
  have hP : va_P (dC, dI) classes [(h0, .inr (13, fs_188))] H := by rw [efs_188]; exact hP
  have hD : va_D A [(h0, .inr (13, fs_188))] := by rw [efs_188]; exact hD
  refine lv_aload_n hx hb d_MSetting_init_840 rfl (lv_at hl 0 rfl) ?_
  refine lv_sipush (v := 1501) hx hb d_MSetting_init_841 (by decide) ?_
  refine ca_np (n := 1501) (Nn := 1501) (a0 := (1501, .inl (fun _ => 0))) (q0 := 0) (ci := 13) (k := 124) (C := "ScholarsPressModel$Setting") (T := F_MSetting) (N := 141) hx hb hts in_MSetting t_MSetting t_MSetting_ok n_MSetting hown k_408 rfl hK hP hD hS hA rfl hlen rfl (by decide) (hts (.fieldLink "ScholarsPressModel$Setting" 301 "ScholarsPressModel$Setting" "floatsTo" "[I") k_3380) (fun _ h9 => h9) rfl hin rfl (by decide +kernel) (fun _ => rfl) (by decide) (by decide) (by decide) (Nat.le_of_ble_eq_true rfl) (Nat.le_of_ble_eq_true rfl) d_MSetting_init_844 d_MSetting_init_846 (fun q_189 H locs hP hD hS => ?_)
  obtain ⟨fs_190, efs_190⟩ : ∃ z, z = fs_188.set 124 (.ref q_189) := ⟨_, rfl⟩
  have hlen : fs_190.length = 141 := by rw [efs_190, List.length_set]; exact hlen
  have hP : va_P (dC, dI) classes [(h0, .inr (13, fs_190))] H := by rw [efs_190]; exact hP
  have hD : va_D A [(h0, .inr (13, fs_190))] := by rw [efs_190]; exact hD
  refine lv_aload_n hx hb d_MSetting_init_849 rfl (lv_at hl 0 rfl) ?_
  refine lv_sipush (v := 1502) hx hb d_MSetting_init_850 (by decide) ?_
  refine ca_np (n := 1502) (Nn := 1502) (a0 := (1502, .inl (fun _ => 0))) (q0 := 0) (ci := 13) (k := 125) (C := "ScholarsPressModel$Setting") (T := F_MSetting) (N := 141) hx hb hts in_MSetting t_MSetting t_MSetting_ok n_MSetting hown k_408 rfl hK hP hD hS hA rfl hlen rfl (by decide) (hts (.fieldLink "ScholarsPressModel$Setting" 304 "ScholarsPressModel$Setting" "head" "[I") k_3381) (fun _ h9 => h9) rfl hin rfl (by decide +kernel) (fun _ => rfl) (by decide) (by decide) (by decide) (Nat.le_of_ble_eq_true rfl) (Nat.le_of_ble_eq_true rfl) d_MSetting_init_853 d_MSetting_init_855 (fun q_191 H locs hP hD hS => ?_)
  obtain ⟨fs_192, efs_192⟩ : ∃ z, z = fs_190.set 125 (.ref q_191) := ⟨_, rfl⟩
  have hlen : fs_192.length = 141 := by rw [efs_192, List.length_set]; exact hlen
  have hP : va_P (dC, dI) classes [(h0, .inr (13, fs_192))] H := by rw [efs_192]; exact hP
  have hD : va_D A [(h0, .inr (13, fs_192))] := by rw [efs_192]; exact hD
  refine lv_aload_n hx hb d_MSetting_init_858 rfl (lv_at hl 0 rfl) ?_
  refine lv_sipush (v := 256) hx hb d_MSetting_init_859 (by decide) ?_
  refine ca_npN (n := 256) (Nn := 256) (a0 := (256, .inl (fun _ => 0))) (q0 := 0) (ci := 13) (k := 127) (C := "ScholarsPressModel$Setting") (T := F_MSetting) (N := 141) hx hb hts in_MSetting t_MSetting t_MSetting_ok n_MSetting hown k_408 rfl hK hP hD hS hA rfl hlen rfl (by decide) (hts (.fieldLink "ScholarsPressModel$Setting" 307 "ScholarsPressModel$Setting" "stateLine" "[I") k_3383) (fun _ h9 => h9) rfl (by decide +kernel) (fun _ => rfl) (by decide) (by decide) (by decide) (Nat.le_of_ble_eq_true rfl) (Nat.le_of_ble_eq_true rfl) d_MSetting_init_862 d_MSetting_init_864 (fun q_193 H locs hP hD hS => ?_)
  obtain ⟨fs_194, efs_194⟩ : ∃ z, z = fs_192.set 127 (.ref q_193) := ⟨_, rfl⟩
  have hlen : fs_194.length = 141 := by rw [efs_194, List.length_set]; exact hlen
  have hP : va_P (dC, dI) classes [(h0, .inr (13, fs_194))] H := by rw [efs_194]; exact hP
  have hD : va_D A [(h0, .inr (13, fs_194))] := by rw [efs_194]; exact hD
  refine lv_aload_n hx hb d_MSetting_init_867 rfl (lv_at hl 0 rfl) ?_
  refine lv_sipush (v := 256) hx hb d_MSetting_init_868 (by decide) ?_
  refine ca_npN (n := 256) (Nn := 256) (a0 := (256, .inl (fun _ => 0))) (q0 := 0) (ci := 13) (k := 128) (C := "ScholarsPressModel$Setting") (T := F_MSetting) (N := 141) hx hb hts in_MSetting t_MSetting t_MSetting_ok n_MSetting hown k_408 rfl hK hP hD hS hA rfl hlen rfl (by decide) (hts (.fieldLink "ScholarsPressModel$Setting" 310 "ScholarsPressModel$Setting" "stateFloat" "[I") k_3384) (fun _ h9 => h9) rfl (by decide +kernel) (fun _ => rfl) (by decide) (by decide) (by decide) (Nat.le_of_ble_eq_true rfl) (Nat.le_of_ble_eq_true rfl) d_MSetting_init_871 d_MSetting_init_873 (fun q_195 H locs hP hD hS => ?_)
  obtain ⟨fs_196, efs_196⟩ : ∃ z, z = fs_194.set 128 (.ref q_195) := ⟨_, rfl⟩
  have hlen : fs_196.length = 141 := by rw [efs_196, List.length_set]; exact hlen
  have hP : va_P (dC, dI) classes [(h0, .inr (13, fs_196))] H := by rw [efs_196]; exact hP
  have hD : va_D A [(h0, .inr (13, fs_196))] := by rw [efs_196]; exact hD
  refine lv_aload_n hx hb d_MSetting_init_876 rfl (lv_at hl 0 rfl) ?_
  refine lv_sipush (v := 256) hx hb d_MSetting_init_877 (by decide) ?_
  refine ca_npN (n := 256) (Nn := 256) (a0 := (256, .inl (fun _ => 0))) (q0 := 0) (ci := 13) (k := 129) (C := "ScholarsPressModel$Setting") (T := F_MSetting) (N := 141) hx hb hts in_MSetting t_MSetting t_MSetting_ok n_MSetting hown k_408 rfl hK hP hD hS hA rfl hlen rfl (by decide) (hts (.fieldLink "ScholarsPressModel$Setting" 313 "ScholarsPressModel$Setting" "stateRest" "[I") k_3385) (fun _ h9 => h9) rfl (by decide +kernel) (fun _ => rfl) (by decide) (by decide) (by decide) (Nat.le_of_ble_eq_true rfl) (Nat.le_of_ble_eq_true rfl) d_MSetting_init_880 d_MSetting_init_882 (fun q_197 H locs hP hD hS => ?_)
  obtain ⟨fs_198, efs_198⟩ : ∃ z, z = fs_196.set 129 (.ref q_197) := ⟨_, rfl⟩
  have hlen : fs_198.length = 141 := by rw [efs_198, List.length_set]; exact hlen
  have hP : va_P (dC, dI) classes [(h0, .inr (13, fs_198))] H := by rw [efs_198]; exact hP
  have hD : va_D A [(h0, .inr (13, fs_198))] := by rw [efs_198]; exact hD
  refine lv_aload_n hx hb d_MSetting_init_885 rfl (lv_at hl 0 rfl) ?_
  refine lv_sipush (v := 256) hx hb d_MSetting_init_886 (by decide) ?_
  refine ca_npN (n := 256) (Nn := 256) (a0 := (256, .inl (fun _ => 0))) (q0 := 0) (ci := 13) (k := 130) (C := "ScholarsPressModel$Setting") (T := F_MSetting) (N := 141) hx hb hts in_MSetting t_MSetting t_MSetting_ok n_MSetting hown k_408 rfl hK hP hD hS hA rfl hlen rfl (by decide) (hts (.fieldLink "ScholarsPressModel$Setting" 316 "ScholarsPressModel$Setting" "statePrev" "[I") k_3386) (fun _ h9 => h9) rfl (by decide +kernel) (fun _ => rfl) (by decide) (by decide) (by decide) (Nat.le_of_ble_eq_true rfl) (Nat.le_of_ble_eq_true rfl) d_MSetting_init_889 d_MSetting_init_891 (fun q_199 H locs hP hD hS => ?_)
  obtain ⟨fs_200, efs_200⟩ : ∃ z, z = fs_198.set 130 (.ref q_199) := ⟨_, rfl⟩
  have hlen : fs_200.length = 141 := by rw [efs_200, List.length_set]; exact hlen
  have hP : va_P (dC, dI) classes [(h0, .inr (13, fs_200))] H := by rw [efs_200]; exact hP
  have hD : va_D A [(h0, .inr (13, fs_200))] := by rw [efs_200]; exact hD
  refine lv_aload_n hx hb d_MSetting_init_894 rfl (lv_at hl 0 rfl) ?_
  refine lv_sipush (v := 256) hx hb d_MSetting_init_895 (by decide) ?_
  refine ca_npN (n := 256) (Nn := 256) (a0 := (256, .inl (fun _ => 0))) (q0 := 0) (ci := 13) (k := 131) (C := "ScholarsPressModel$Setting") (T := F_MSetting) (N := 141) hx hb hts in_MSetting t_MSetting t_MSetting_ok n_MSetting hown k_408 rfl hK hP hD hS hA rfl hlen rfl (by decide) (hts (.fieldLink "ScholarsPressModel$Setting" 319 "ScholarsPressModel$Setting" "stateNext" "[I") k_3387) (fun _ h9 => h9) rfl (by decide +kernel) (fun _ => rfl) (by decide) (by decide) (by decide) (Nat.le_of_ble_eq_true rfl) (Nat.le_of_ble_eq_true rfl) d_MSetting_init_898 d_MSetting_init_900 (fun q_201 H locs hP hD hS => ?_)
  obtain ⟨fs_202, efs_202⟩ : ∃ z, z = fs_200.set 131 (.ref q_201) := ⟨_, rfl⟩
  have hlen : fs_202.length = 141 := by rw [efs_202, List.length_set]; exact hlen
  have hP : va_P (dC, dI) classes [(h0, .inr (13, fs_202))] H := by rw [efs_202]; exact hP
  have hD : va_D A [(h0, .inr (13, fs_202))] := by rw [efs_202]; exact hD
  refine lv_aload_n hx hb d_MSetting_init_903 rfl (lv_at hl 0 rfl) ?_
  refine lv_sipush (v := 256) hx hb d_MSetting_init_904 (by decide) ?_
  refine ca_npN (n := 256) (Nn := 256) (a0 := (256, .inr (.inl (fun _ => 0)))) (q0 := 0) (ci := 13) (k := 132) (C := "ScholarsPressModel$Setting") (T := F_MSetting) (N := 141) hx hb hts in_MSetting t_MSetting t_MSetting_ok n_MSetting hown k_409 rfl hK hP hD hS hA rfl hlen rfl (by decide) (hts (.fieldLink "ScholarsPressModel$Setting" 322 "ScholarsPressModel$Setting" "stateCost" "[J") k_3388) (fun _ h9 => h9) rfl (by decide +kernel) (fun _ => rfl) (by decide) (by decide) (by decide) (Nat.le_of_ble_eq_true rfl) (Nat.le_of_ble_eq_true rfl) d_MSetting_init_907 d_MSetting_init_909 (fun q_203 H locs hP hD hS => ?_)
  obtain ⟨fs_204, efs_204⟩ : ∃ z, z = fs_202.set 132 (.ref q_203) := ⟨_, rfl⟩
  have hlen : fs_204.length = 141 := by rw [efs_204, List.length_set]; exact hlen
  have hP : va_P (dC, dI) classes [(h0, .inr (13, fs_204))] H := by rw [efs_204]; exact hP
  have hD : va_D A [(h0, .inr (13, fs_204))] := by rw [efs_204]; exact hD
  refine lv_aload_n hx hb d_MSetting_init_912 rfl (lv_at hl 0 rfl) ?_
  refine lv_sipush (v := 1502) hx hb d_MSetting_init_913 (by decide) ?_
  refine ca_np (n := 1502) (Nn := 1502) (a0 := (1502, .inl (fun _ => 0))) (q0 := 0) (ci := 13) (k := 138) (C := "ScholarsPressModel$Setting") (T := F_MSetting) (N := 141) hx hb hts in_MSetting t_MSetting t_MSetting_ok n_MSetting hown k_408 rfl hK hP hD hS hA rfl hlen rfl (by decide) (hts (.fieldLink "ScholarsPressModel$Setting" 325 "ScholarsPressModel$Setting" "way" "[I") k_3394) (fun _ h9 => h9) rfl hin rfl (by decide +kernel) (fun _ => rfl) (by decide) (by decide) (by decide) (Nat.le_of_ble_eq_true rfl) (Nat.le_of_ble_eq_true rfl) d_MSetting_init_916 d_MSetting_init_918 (fun q_205 H locs hP hD hS => ?_)
  obtain ⟨fs_206, efs_206⟩ : ∃ z, z = fs_204.set 138 (.ref q_205) := ⟨_, rfl⟩
  have hlen : fs_206.length = 141 := by rw [efs_206, List.length_set]; exact hlen
  have hP : va_P (dC, dI) classes [(h0, .inr (13, fs_206))] H := by rw [efs_206]; exact hP
  have hD : va_D A [(h0, .inr (13, fs_206))] := by rw [efs_206]; exact hD
  refine lv_aload_n hx hb d_MSetting_init_921 rfl (lv_at hl 0 rfl) ?_
  refine lv_sipush (v := 500) hx hb d_MSetting_init_922 (by decide) ?_
  refine ca_np (n := 500) (Nn := 500) (a0 := (500, .inl (fun _ => 0))) (q0 := 0) (ci := 13) (k := 139) (C := "ScholarsPressModel$Setting") (T := F_MSetting) (N := 141) hx hb hts in_MSetting t_MSetting t_MSetting_ok n_MSetting hown k_446 rfl hK hP hD hS hA rfl hlen rfl (by decide) (hts (.fieldLink "ScholarsPressModel$Setting" 328 "ScholarsPressModel$Setting" "spans" "[Z") k_3395) (fun _ h9 => h9) rfl hin rfl (by decide +kernel) (fun _ => rfl) (by decide) (by decide) (by decide) (Nat.le_of_ble_eq_true rfl) (Nat.le_of_ble_eq_true rfl) d_MSetting_init_925 d_MSetting_init_927 (fun q_207 H locs hP hD hS => ?_)
  obtain ⟨fs_208, efs_208⟩ : ∃ z, z = fs_206.set 139 (.ref q_207) := ⟨_, rfl⟩
  have hlen : fs_208.length = 141 := by rw [efs_208, List.length_set]; exact hlen
  have hP : va_P (dC, dI) classes [(h0, .inr (13, fs_208))] H := by rw [efs_208]; exact hP
  have hD : va_D A [(h0, .inr (13, fs_208))] := by rw [efs_208]; exact hD
  refine lv_aload_n hx hb d_MSetting_init_930 rfl (lv_at hl 0 rfl) ?_
  refine lv_sipush (v := 500) hx hb d_MSetting_init_931 (by decide) ?_
  refine ca_np (n := 500) (Nn := 500) (a0 := (500, .inl (fun _ => 0))) (q0 := 0) (ci := 13) (k := 140) (C := "ScholarsPressModel$Setting") (T := F_MSetting) (N := 141) hx hb hts in_MSetting t_MSetting t_MSetting_ok n_MSetting hown k_446 rfl hK hP hD hS hA rfl hlen rfl (by decide) (hts (.fieldLink "ScholarsPressModel$Setting" 331 "ScholarsPressModel$Setting" "newSpans" "[Z") k_3396) (fun _ h9 => h9) rfl hin rfl (by decide +kernel) (fun _ => rfl) (by decide) (by decide) (by decide) (Nat.le_of_ble_eq_true rfl) (Nat.le_of_ble_eq_true rfl) d_MSetting_init_934 d_MSetting_init_936 (fun q_209 H locs hP hD hS => ?_)
  obtain ⟨fs_210, efs_210⟩ : ∃ z, z = fs_208.set 140 (.ref q_209) := ⟨_, rfl⟩
  have hlen : fs_210.length = 141 := by rw [efs_210, List.length_set]; exact hlen
  have hP : va_P (dC, dI) classes [(h0, .inr (13, fs_210))] H := by rw [efs_210]; exact hP
  have hD : va_D A [(h0, .inr (13, fs_210))] := by rw [efs_210]; exact hD
  have hP9 := hP.sub (ws' := [(h0, .inr (13, fs_210))]) [0] rfl
  have hD9 := hD.sub (ws' := [(h0, .inr (13, fs_210))]) [0] (by decide) rfl
  have hK9 := hK.sub (tys' := []) [] rfl
  exact W.vret hx hb hr (fun t ht hW => ⟨⟨fs_210, rfl, hlen, by rw [ht]; exact hP9, va_K.moved hW.alike hK9, hD9⟩, hS.F ht⟩) hS.2.2 d_MSetting_init_939
