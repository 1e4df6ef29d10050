/-! THE STATIC ROW PAGE_BEGINNING: nobody writes it. zs: what it is, while the cells below n0 stay; prZ: a method's start that knows it; zt_copy: System.arraycopy out of it -/
def zs (n0 zt : Nat) (fz : Nat → Int32) (U : State) (H : Heap) : Prop := va_Z "ScholarsPress$Style" "PAGE_BEGINNING" "[I" (.ref zt) (fun q => n0 ≤ q) U H ∧ va_T .int zt 6 (fun j => .int (fz j)) (fun q => n0 ≤ q) U H
theorem zs.moved {n0 zt : Nat} {fz : Nat → Int32} {u U : State} {H : Heap} (hvm : u.vm.Alike U.vm) (h : zs n0 zt fz u H) : zs n0 zt fz U H := ⟨va_Z.moved hvm h.1, va_T.moved hvm h.2⟩
theorem zs.kept {n0 zt : Nat} {fz : Nat → Int32} {U : State} {H H1 : Heap} (h : zs n0 zt fz U H) (hq : ∀ a : Nat, a < H.size → ¬ n0 ≤ a → H1[a]? = H[a]?) : zs n0 zt fz U H1 := ⟨va_Z.kept h.1 hq, va_T.kept h.2 hq⟩
theorem zn {ws : va_W} {sz n0 : Nat} (hD : va_D (fun q => n0 ≤ q) ws) (hn : n0 ≤ sz) : ∀ q : Nat, va_A ws sz q → n0 ≤ q := by
  intro q h
  rcases h with ⟨k, e, hk⟩ | h
  · exact hD.2 k _ hk
  · exact Nat.le_trans hn h
def prZ (n0 zt : Nat) (fz : Nat → Int32) (sz : Nat) (D : va_G) (ws : va_W) (tys : List (ClassId × FieldType)) (U : State) : Prop := pr sz D ws tys U ∧ n0 ≤ sz ∧ va_D (fun q => n0 ≤ q) ws ∧ zs n0 zt fz U U.heap
theorem prZ_blind {av : List Value} {n0 zt : Nat} {fz : Nat → Int32} {sz : Nat} {D : va_G} {ws : va_W} {tys : List (ClassId × FieldType)} : FrameBlind (va_Pc av (prZ n0 zt fz sz D ws tys)) := by
  intro a U g mk h
  obtain ⟨h0, h1, h2, h3, h4⟩ := h
  exact ⟨h0, (pr_blind a U g mk ⟨h0, h1⟩).2, h2, h3, zs.moved (u := U) (U := U.calling g mk a) (Vm.Alike.refl U.vm) h4⟩
theorem prZ_pre {av : List Value} {n0 zt : Nat} {fz : Nat → Int32} {D : va_G} {ws : va_W} {tys : List (ClassId × FieldType)} {s : State} {H : Heap} {locs : List Loc} {A : Nat → Prop} (hb : tb s) (hP : va_P D classes ws H) (hK : va_K D classes tys s) (hD : va_D A ws) (hS : va_S A s.heap H locs) (hn : n0 ≤ s.heap.size) (hAn : ∀ q : Nat, A q → n0 ≤ q) (hZ : zs n0 zt fz s s.heap) : ∀ U : State, U.heap = H → s.WarmedH U.vm → va_Pc av (prZ n0 zt fz H.size D ws tys) av.toArray U := by
  intro U hU hW
  obtain ⟨h0, h1⟩ := pr_pre (av := av) hb hP hK hD U hU hW
  refine ⟨h0, h1, Nat.le_trans hn hS.1, hD.weaken (fun _ _ _ h => hAn _ h), ?_⟩
  rw [hU]
  exact zs.moved hW.alike (zs.kept hZ (fun a ha hna => hS.2.1 a ha (fun h => hna (hAn a h))))
theorem zt_nn (z : Int32) (hz : ¬ z < 0) : z.toInt = (z.toNatClampNeg : Int) := by
  have h0 : (0 : Int) ≤ z.toInt := by simpa using Int32.le_iff_toInt_le.mp (Int32.not_lt.mp hz)
  show z.toInt = ((z.toInt.toNat : Nat) : Int)
  omega
section ZT
variable {p : Program} {l : Launch} {e : Env} {R : Room} {s : State} {m : MethodId} {args : Array Value} {below : List Frame} {meth : Method} {c : Code} {H : Heap} {locs : List Loc} {cells slots : Nat} {Q : State → Prop} {cc : ByteArray} {pc : Nat} {ls : Array Slot} {rest : List Value} {D : va_G} {cl : List vw_C} {A : Nat → Prop} {a : Nat} {tys : List (ClassId × FieldType)} {ws : va_W}
theorem zt_copy (hexec : p.tables.exec = Jvm.exec) (hb : c.code = cc) (hml : c.maxLocals = ls.size) {own : String} {index : Nat} (hown : s.vm.findClass own = some m.cls) (hlink : (Cond.methodLink own index arraycopyName).before args s = true) (hnat : (Cond.native arraycopyName).before args s = true) (hstat : (Cond.static arraycopyName).before args s = true) (hini : (Cond.initialized "java/lang/System").before args s = true)
    (hK : va_K D cl tys s) (hP : va_P D cl ws H) (hD : va_D A ws) (hS : va_S A s.heap H locs) {b0 n0 : Nat} {f : Nat → Int32} (hX : va_T .int b0 n0 (fun j => .int (f j)) A s s.heap) (q1 t1 : Nat) {c1 : ClassId} {n1 : Nat} {g : Nat → Int32} (ha1 : ws[q1]? = some (a, .inl (c1, n1, .inl g))) (ht1 : tys[t1]? = some (c1, .int))
    {sp dp n : Int32} (h1 : ¬ sp < 0) (h2 : ¬ dp < 0) (h3 : ¬ n < 0) (h4 : sp.toNatClampNeg + n.toNatClampNeg ≤ n0) (h5 : dp.toNatClampNeg + n.toNatClampNeg ≤ n1)
    (hframes : 1 ≤ R.frames) (hlocals : (rest.map fun v => v.category).sum + (nativeFrameWords "java/lang/System" "arraycopy" 5 + 11) ≤ R.locals) (hdg : decode cc pc = .ok (.invokestatic index, 3))
    (kk : ∀ (H1 : Heap) (locs1 : List Loc), va_P D cl (ws.set q1 (a, .inl (c1, n1, .inl (va_cpy f g sp.toNatClampNeg dp.toNatClampNeg n.toNatClampNeg)))) H1 → va_D A (ws.set q1 (a, .inl (c1, n1, .inl (va_cpy f g sp.toNatClampNeg dp.toNatClampNeg n.toNatClampNeg)))) → va_S A s.heap H1 locs1 → W p l e R s m args below meth c H1 locs1 cells slots Q (F0 m (pc + 3) ls rest)) : W p l e R s m args below meth c H locs cells slots Q (F0 m pc ls (.int n :: .int dp :: .ref a :: .int sp :: .ref b0 :: rest)) := by
  intro T hT X
  obtain ⟨src, q1', q2', q3', q4', -, q5', q6'⟩ := hX
  have hc0 : H[b0]? = some src := (hS.2.1 b0 (Array.getElem?_eq_some_iff.mp q1').1 q6').trans q1'
  have hc1 : H[a]? = some (vp_cell c1 (n1, .inl g)) := hP q1 _ ha1
  obtain ⟨q7', k0, hk0, cm0, hkk0⟩ := q2'
  obtain ⟨-, k1, hk1, cm1, hkk1⟩ := (hK.2 t1 _ ht1).1 n1 (fun j => .int (g j))
  have hsrc : ∀ i, i < n.toNatClampNeg → src.slots.getD (sp.toNatClampNeg + i) .null = .int (f (sp.toNatClampNeg + i)) := fun i hi => by
    rw [Array.getD_eq_getD_getElem?, q5' _ (by omega)]; rfl
  obtain ⟨vm', X', step⟩ := X.arraycopy hexec hown hlink hnat hstat hini (src := b0) (dst := a) (cs := src) (cd := vp_cell c1 (n1, .inl g)) (srcPos := sp) (destPos := dp) (n := n) (by rw [hT]; exact hc0) (by rw [hT]; exact hc1)
    q7' (fun _ h => by cases h) q3' (fun h => by cases h) hk0 hk1 hkk0 hkk1 (by simp [refKind]) h1 h2 h3
    (by rw [zt_nn sp h1, zt_nn n h3]; omega)
    (by rw [zt_nn dp h2, zt_nn n h3]; show ¬ _ > ((arrV c1 n1 (fun j => .int (g j))).slots.size : Int); rw [arrV_size]; omega)
    (fun vm₁ _ i hi => by rw [hsrc i hi]; exact ⟨rfl, trivial⟩)
    (g := F0 m pc ls (.int n :: .int dp :: .ref a :: .int sp :: .ref b0 :: rest)) rfl (by rw [hml]) (rest := rest) rfl (by rw [hb]; exact hdg) hframes (by show 2 * 0 + _ + _ ≤ _; omega)
  obtain ⟨g', eg'⟩ : ∃ g', g' = va_cpy f g sp.toNatClampNeg dp.toNatClampNeg n.toNatClampNeg := ⟨_, rfl⟩
  have e1 : copied src (vp_cell c1 (n1, .inl g)) sp dp n = vp_cell c1 (n1, .inl g') := by rw [eg']; exact va_copiedX (fun z => .int z) src c1 f g q5' h4
  rw [e1] at X' step
  rw [← eg'] at kk
  have hl : a < H.size := (Array.getElem?_eq_some_iff.mp hc1).1
  have oq : ∀ q : Nat, q ≠ a → (H.setIfInBounds a (vp_cell c1 (n1, .inl g')))[q]? = H[q]? := fun q hq => by simp [Array.getElem?_setIfInBounds, Ne.symm hq]
  have haA : A a := hD.2 q1 _ ha1
  obtain ⟨t, a1, b1⟩ := kk (H.setIfInBounds a (vp_cell c1 (n1, .inl g'))) _ (hP.set hD ha1 (show (H.setIfInBounds a _)[a]? = some _ by simp [Array.getElem?_setIfInBounds, hl]) oq) (hD.set ha1)
    ⟨by simp; exact hS.1, fun q g1 g2 => (oq q (fun e => g2 (by rw [e]; exact haA))).trans (hS.2.1 q g1 g2), fun q hq => by
      rcases List.mem_append.mp hq with h | h
      · exact hS.2.2 q h
      · obtain ⟨z, -, hz⟩ := List.mem_map.mp h
        rw [← hz]; exact haA⟩ _ (by rw [← hT]; rfl) X'
  exact ⟨t, step t a1, b1⟩
end ZT
abbrev DEF_PSigns : List Value := [.null, .int 0, .int 0, .int 0, .int 0, .int 0, .int 0, .long 0]
theorem df_PSigns : ∀ j, j < 8 → defaultValue (t_PSigns j) = vp_V DEF_PSigns j := by decide +kernel
abbrev DEF_PStyle : List Value := [.null, .null, .int 0, .null, .int 0, .null, .null, .int 0, .null, .null, .int 0, .null, .null, .int 0, .null]
theorem df_PStyle : ∀ j, j < 15 → defaultValue (t_PStyle j) = vp_V DEF_PStyle j := by decide +kernel
abbrev DEF_PFont : List Value := [.null, .null, .int 0, .null, .null, .null, .int 0, .int 0]
theorem df_PFont : ∀ j, j < 8 → defaultValue (t_PFont j) = vp_V DEF_PFont j := by decide +kernel
abbrev DEF_PHyphens : List Value := [.int 0, .int 0, .int 0, .int 0, .int 0, .null, .null, .null, .null, .null, .int 0, .null, .null, .null]
theorem df_PHyphens : ∀ j, j < 14 → defaultValue (t_PHyphens j) = vp_V DEF_PHyphens j := by decide +kernel
abbrev DEF_PSource : List Value := [.null, .int 0, .null, .int 0, .int 0, .null, .null, .int 0, .null, .null, .int 0, .null, .null, .int 0, .int 0, .int 0, .int 0, .long 0, .int 0, .int 0]
theorem df_PSource : ∀ j, j < 20 → defaultValue (t_PSource j) = vp_V DEF_PSource j := by decide +kernel
set_option maxHeartbeats 4000000 in
set_option maxRecDepth 100000 in
/-- Style() -/
theorem c_PStyle_init (l : Launch) (dC : Nat → ClassId) (dI : Nat → Nat → Nat) (n0 zt : Nat) (fz : Nat → Int32) (h0 : Nat) (sz : Nat) : Met l y_PStyle_init [w_PStyle_init] ({ frames := 1, cells := 10, slots := 37402, locals := 40 }) (va_Pc [.ref h0] (prZ n0 zt fz sz (dC, dI) [(h0, .inr (2, [.null, .null, .int 0, .null, .int 0, .null, .null, .int 0, .null, .null, .int 0, .null, .null, .int 0, .null]))] [])) (va_Qv (fun (u : (Nat → Nat) × (Nat → Int32) × (Nat → ClassId)) => True) (bw (dC, dI) (va_A [(h0, .inr (2, [.null, .null, .int 0, .null, .int 0, .null, .null, .int 0, .null, .null, .int 0, .null, .null, .int 0, .null]))] sz) (fun u : (Nat → Nat) × (Nat → Int32) × (Nat → ClassId) => [(h0, .inr (2, [.ref (u.1 0), .ref (u.1 1), .int 0, .ref (u.1 2), .int 0, .ref (u.1 3), .ref (u.1 4), .int 0, .ref (u.1 5), .ref (u.1 6), .int 0, .ref (u.1 7), .ref (u.1 8), .int 0, .ref (u.1 9)])), ((u.1 0), .inl ((u.2.2 0), 16384, .inl ((fun _ => 0)))), ((u.1 1), .inl ((u.2.2 1), 6, .inl u.2.1))]) (fun u : (Nat → Nat) × (Nat → Int32) × (Nat → ClassId) => [((u.2.2 0), .byte), ((u.2.2 1), .int)])) (va_A [(h0, .inr (2, [.null, .null, .int 0, .null, .int 0, .null, .null, .int 0, .null, .null, .int 0, .null, .null, .int 0, .null]))] sz)) 10 37402 (va_A [(h0, .inr (2, [.null, .null, .int 0, .null, .int 0, .null, .null, .int 0, .null, .null, .int 0, .null, .null, .int 0, .null]))] sz) := by
  refine Met.ofW (cc := b_PStyle_init) (maxL := 1) (ret := none) (by decide) rfl ?_
  intro p e s m args below meth c s₁ B hml hv
  obtain ⟨rfl, ⟨hsz, hb0, hP, hK, hD0⟩, hn0, hDn, hZ0⟩ := hv
  have hx := B.exec
  have hb := B.bytes
  have hr := B.returns
  have hts : ∀ wq ∈ tt, wq.before ([.ref h0] : List Value).toArray s = true := hb0.hts
  have hown : s.vm.findClass "ScholarsPress$Style" = some m.cls := findClass_of_methodNamed B.named
  have hlocks := B.notSynchronized
  have hin : meth.name = "<init>" := (name_of_methodNamed B.named B.method).1
  subst hsz
  have hD := hD0.self (sz := s.heap.size)
  generalize hAe : va_A [(h0, .inr (2, [.null, .null, .int 0, .null, .int 0, .null, .null, .int 0, .null, .null, .int 0, .null, .null, .int 0, .null]))] s.heap.size = A at hD ⊢
  have hA : ∀ q : Nat, s.heap.size ≤ q → A q := fun q h => by rw [← hAe]; exact Or.inr h
  have hS : va_S A s.heap s.heap [] := va_S.rf
  have hP : va_P (dC, dI) classes [(h0, .inr (2, [.null, .null, .int 0, .null, .int 0, .null, .null, .int 0, .null, .null, .int 0, .null, .null, .int 0, .null]))] s.heap := hP
  have hAn : ∀ q : Nat, A q → n0 ≤ q := by rw [← hAe]; exact zn hDn hn0
  have hZA := hZ0.1.narrow hAn
  have hTA := hZ0.2.narrow hAn
  have hl := lv_entry ([.ref h0]) (n := 1) (Nat.le_of_ble_eq_true rfl)
  rw [lg_entry_eq]
  generalize (lg_sl ([.ref h0]) ++ List.replicate (1 - (lg_sl ([.ref h0])).length) Slot.unset).toArray = ls at hl ⊢
  have hl : lv_has ls 1 [(0, .ref h0)] := hl
  refine lv_aload_n hx hb d_PStyle_init_0 rfl (lv_at hl 0 rfl) ?_
  refine W.objInit hx hb hown (hts (.methodLink "ScholarsPress$Style" 3 objectInit) k_344) (hts (.instanceMethod objectInit) k_289) (hts _ k_oi) rfl (by rw [hml]; exact hl.1) rfl d_PStyle_init_1 (Nat.le_of_ble_eq_true rfl) (Nat.le_of_ble_eq_true rfl) ?_
  refine W.eq (g2 := F0 m 4 ls []) rfl ?_
  refine lv_aload_n hx hb d_PStyle_init_4 rfl (lv_at hl 0 rfl) ?_
  refine lv_sipush (v := 16384) hx hb d_PStyle_init_5 (by decide) ?_
  refine va_newa (D := (dC, dI)) hx hb (atype := .byte) (hts _ k_338) rfl hK hP hD hS hA (a0 := (16384, .inl (fun _ => 0))) (n := 16384) (fun _ => rfl) (by decide) (by decide) (by decide) (Nat.le_of_ble_eq_true rfl) (Nat.le_of_ble_eq_true rfl) d_PStyle_init_8 (fun q_1 cA_2 H hK hP hD hS => ?_)
  have hP : va_P (dC, dI) classes [(h0, .inr (2, [.null, .null, .int 0, .null, .int 0, .null, .null, .int 0, .null, .null, .int 0, .null, .null, .int 0, .null])), (q_1, .inl (cA_2, 16384, .inl ((fun _ => 0))))] H := hP
  have hD : va_D A [(h0, .inr (2, [.null, .null, .int 0, .null, .int 0, .null, .null, .int 0, .null, .null, .int 0, .null, .null, .int 0, .null])), (q_1, .inl (cA_2, 16384, .inl ((fun _ => 0))))] := hD
  have hK : va_K (dC, dI) classes [(cA_2, .byte)] s := hK
  refine va_putF (D := (dC, dI)) (ci := 2) (v := .ref q_1) (ty := .array .byte) (C := "ScholarsPress$Style") (T := F_PStyle) (N := 15) hx hb hts in_PStyle t_PStyle t_PStyle_ok n_PStyle hown hK hP hD hS 0 rfl rfl 0 (by decide) (hts (.fieldLink "ScholarsPress$Style" 9 "ScholarsPress$Style" "text" "[B") k_350) (fun _ h9 => h9) rfl hin rfl (by decide +kernel) rfl rfl (Nat.le_of_ble_eq_true rfl) d_PStyle_init_10 (fun H locs hP hD hS => ?_)
  have hP : va_P (dC, dI) classes [(h0, .inr (2, [.ref q_1, .null, .int 0, .null, .int 0, .null, .null, .int 0, .null, .null, .int 0, .null, .null, .int 0, .null])), (q_1, .inl (cA_2, 16384, .inl ((fun _ => 0))))] H := hP
  have hD : va_D A [(h0, .inr (2, [.ref q_1, .null, .int 0, .null, .int 0, .null, .null, .int 0, .null, .null, .int 0, .null, .null, .int 0, .null])), (q_1, .inl (cA_2, 16384, .inl ((fun _ => 0))))] := hD
  refine lv_aload_n hx hb d_PStyle_init_13 rfl (lv_at hl 0 rfl) ?_
  refine lv_bipush (v := 6) hx hb d_PStyle_init_14 (by decide) ?_
  refine va_newa (D := (dC, dI)) hx hb (atype := .int) (hts _ k_408) rfl hK hP hD hS hA (a0 := (6, .inl (fun _ => 0))) (n := 6) (fun _ => rfl) (by decide) (by decide) (by decide) (Nat.le_of_ble_eq_true rfl) (Nat.le_of_ble_eq_true rfl) d_PStyle_init_16 (fun q_3 cA_4 H hK hP hD hS => ?_)
  have hP : va_P (dC, dI) classes [(h0, .inr (2, [.ref q_1, .null, .int 0, .null, .int 0, .null, .null, .int 0, .null, .null, .int 0, .null, .null, .int 0, .null])), (q_1, .inl (cA_2, 16384, .inl ((fun _ => 0)))), (q_3, .inl (cA_4, 6, .inl ((fun _ => 0))))] H := hP
  have hD : va_D A [(h0, .inr (2, [.ref q_1, .null, .int 0, .null, .int 0, .null, .null, .int 0, .null, .null, .int 0, .null, .null, .int 0, .null])), (q_1, .inl (cA_2, 16384, .inl ((fun _ => 0)))), (q_3, .inl (cA_4, 6, .inl ((fun _ => 0))))] := hD
  have hK : va_K (dC, dI) classes [(cA_2, .byte), (cA_4, .int)] s := hK
  refine va_putF (D := (dC, dI)) (ci := 2) (v := .ref q_3) (ty := .array .int) (C := "ScholarsPress$Style") (T := F_PStyle) (N := 15) hx hb hts in_PStyle t_PStyle t_PStyle_ok n_PStyle hown hK hP hD hS 0 rfl rfl 1 (by decide) (hts (.fieldLink "ScholarsPress$Style" 15 "ScholarsPress$Style" "page" "[I") k_353) (fun _ h9 => h9) rfl hin rfl (by decide +kernel) rfl rfl (Nat.le_of_ble_eq_true rfl) d_PStyle_init_18 (fun H locs hP hD hS => ?_)
  have hP : va_P (dC, dI) classes [(h0, .inr (2, [.ref q_1, .ref q_3, .int 0, .null, .int 0, .null, .null, .int 0, .null, .null, .int 0, .null, .null, .int 0, .null])), (q_1, .inl (cA_2, 16384, .inl ((fun _ => 0)))), (q_3, .inl (cA_4, 6, .inl ((fun _ => 0))))] H := hP
  have hD : va_D A [(h0, .inr (2, [.ref q_1, .ref q_3, .int 0, .null, .int 0, .null, .null, .int 0, .null, .null, .int 0, .null, .null, .int 0, .null])), (q_1, .inl (cA_2, 16384, .inl ((fun _ => 0)))), (q_3, .inl (cA_4, 6, .inl ((fun _ => 0))))] := hD
  refine lv_aload_n hx hb d_PStyle_init_21 rfl (lv_at hl 0 rfl) ?_
  refine lv_sipush (v := 600) hx hb d_PStyle_init_22 (by decide) ?_
  refine ca_np (n := 600) (Nn := 600) (a0 := (600, .inl (fun _ => 0))) (q0 := 0) (ci := 2) (k := 3) (C := "ScholarsPress$Style") (T := F_PStyle) (N := 15) hx hb hts in_PStyle t_PStyle t_PStyle_ok n_PStyle hown k_408 rfl hK hP hD hS hA rfl rfl rfl (by decide) (hts (.fieldLink "ScholarsPress$Style" 19 "ScholarsPress$Style" "selector" "[I") k_358) (fun _ h9 => h9) rfl hin rfl (by decide +kernel) (fun _ => rfl) (by decide) (by decide) (by decide) (Nat.le_of_ble_eq_true rfl) (Nat.le_of_ble_eq_true rfl) d_PStyle_init_25 d_PStyle_init_27 (fun q_5 H locs hP hD hS => ?_)
  have hP : va_P (dC, dI) classes [(h0, .inr (2, [.ref q_1, .ref q_3, .int 0, .ref q_5, .int 0, .null, .null, .int 0, .null, .null, .int 0, .null, .null, .int 0, .null])), (q_1, .inl (cA_2, 16384, .inl ((fun _ => 0)))), (q_3, .inl (cA_4, 6, .inl ((fun _ => 0))))] H := hP
  have hD : va_D A [(h0, .inr (2, [.ref q_1, .ref q_3, .int 0, .ref q_5, .int 0, .null, .null, .int 0, .null, .null, .int 0, .null, .null, .int 0, .null])), (q_1, .inl (cA_2, 16384, .inl ((fun _ => 0)))), (q_3, .inl (cA_4, 6, .inl ((fun _ => 0))))] := hD
  refine lv_aload_n hx hb d_PStyle_init_30 rfl (lv_at hl 0 rfl) ?_
  refine lv_sipush (v := 960) hx hb d_PStyle_init_31 (by decide) ?_
  refine ca_np (n := 960) (Nn := 960) (a0 := (960, .inr (.inl (fun _ => 0)))) (q0 := 0) (ci := 2) (k := 5) (C := "ScholarsPress$Style") (T := F_PStyle) (N := 15) hx hb hts in_PStyle t_PStyle t_PStyle_ok n_PStyle hown k_409 rfl hK hP hD hS hA rfl rfl rfl (by decide) (hts (.fieldLink "ScholarsPress$Style" 22 "ScholarsPress$Style" "stepNames" "[J") k_361) (fun _ h9 => h9) rfl hin rfl (by decide +kernel) (fun _ => rfl) (by decide) (by decide) (by decide) (Nat.le_of_ble_eq_true rfl) (Nat.le_of_ble_eq_true rfl) d_PStyle_init_34 d_PStyle_init_36 (fun q_6 H locs hP hD hS => ?_)
  have hP : va_P (dC, dI) classes [(h0, .inr (2, [.ref q_1, .ref q_3, .int 0, .ref q_5, .int 0, .ref q_6, .null, .int 0, .null, .null, .int 0, .null, .null, .int 0, .null])), (q_1, .inl (cA_2, 16384, .inl ((fun _ => 0)))), (q_3, .inl (cA_4, 6, .inl ((fun _ => 0))))] H := hP
  have hD : va_D A [(h0, .inr (2, [.ref q_1, .ref q_3, .int 0, .ref q_5, .int 0, .ref q_6, .null, .int 0, .null, .null, .int 0, .null, .null, .int 0, .null])), (q_1, .inl (cA_2, 16384, .inl ((fun _ => 0)))), (q_3, .inl (cA_4, 6, .inl ((fun _ => 0))))] := hD
  refine lv_aload_n hx hb d_PStyle_init_39 rfl (lv_at hl 0 rfl) ?_
  refine lv_sipush (v := 2880) hx hb d_PStyle_init_40 (by decide) ?_
  refine ca_np (n := 2880) (Nn := 2880) (a0 := (2880, .inl (fun _ => 0))) (q0 := 0) (ci := 2) (k := 6) (C := "ScholarsPress$Style") (T := F_PStyle) (N := 15) hx hb hts in_PStyle t_PStyle t_PStyle_ok n_PStyle hown k_408 rfl hK hP hD hS hA rfl rfl rfl (by decide) (hts (.fieldLink "ScholarsPress$Style" 26 "ScholarsPress$Style" "step" "[I") k_363) (fun _ h9 => h9) rfl hin rfl (by decide +kernel) (fun _ => rfl) (by decide) (by decide) (by decide) (Nat.le_of_ble_eq_true rfl) (Nat.le_of_ble_eq_true rfl) d_PStyle_init_43 d_PStyle_init_45 (fun q_7 H locs hP hD hS => ?_)
  have hP : va_P (dC, dI) classes [(h0, .inr (2, [.ref q_1, .ref q_3, .int 0, .ref q_5, .int 0, .ref q_6, .ref q_7, .int 0, .null, .null, .int 0, .null, .null, .int 0, .null])), (q_1, .inl (cA_2, 16384, .inl ((fun _ => 0)))), (q_3, .inl (cA_4, 6, .inl ((fun _ => 0))))] H := hP
  have hD : va_D A [(h0, .inr (2, [.ref q_1, .ref q_3, .int 0, .ref q_5, .int 0, .ref q_6, .ref q_7, .int 0, .null, .null, .int 0, .null, .null, .int 0, .null])), (q_1, .inl (cA_2, 16384, .inl ((fun _ => 0)))), (q_3, .inl (cA_4, 6, .inl ((fun _ => 0))))] := hD
  refine lv_aload_n hx hb d_PStyle_init_48 rfl (lv_at hl 0 rfl) ?_
  refine lv_sipush (v := 3840) hx hb d_PStyle_init_49 (by decide) ?_
  refine ca_np (n := 3840) (Nn := 3840) (a0 := (3840, .inr (.inl (fun _ => 0)))) (q0 := 0) (ci := 2) (k := 8) (C := "ScholarsPress$Style") (T := F_PStyle) (N := 15) hx hb hts in_PStyle t_PStyle t_PStyle_ok n_PStyle hown k_409 rfl hK hP hD hS hA rfl rfl rfl (by decide) (hts (.fieldLink "ScholarsPress$Style" 29 "ScholarsPress$Style" "conditionNames" "[J") k_366) (fun _ h9 => h9) rfl hin rfl (by decide +kernel) (fun _ => rfl) (by decide) (by decide) (by decide) (Nat.le_of_ble_eq_true rfl) (Nat.le_of_ble_eq_true rfl) d_PStyle_init_52 d_PStyle_init_54 (fun q_8 H locs hP hD hS => ?_)
  have hP : va_P (dC, dI) classes [(h0, .inr (2, [.ref q_1, .ref q_3, .int 0, .ref q_5, .int 0, .ref q_6, .ref q_7, .int 0, .ref q_8, .null, .int 0, .null, .null, .int 0, .null])), (q_1, .inl (cA_2, 16384, .inl ((fun _ => 0)))), (q_3, .inl (cA_4, 6, .inl ((fun _ => 0))))] H := hP
  have hD : va_D A [(h0, .inr (2, [.ref q_1, .ref q_3, .int 0, .ref q_5, .int 0, .ref q_6, .ref q_7, .int 0, .ref q_8, .null, .int 0, .null, .null, .int 0, .null])), (q_1, .inl (cA_2, 16384, .inl ((fun _ => 0)))), (q_3, .inl (cA_4, 6, .inl ((fun _ => 0))))] := hD
  refine lv_aload_n hx hb d_PStyle_init_57 rfl (lv_at hl 0 rfl) ?_
  refine lv_sipush (v := 11520) hx hb d_PStyle_init_58 (by decide) ?_
  refine ca_np (n := 11520) (Nn := 11520) (a0 := (11520, .inl (fun _ => 0))) (q0 := 0) (ci := 2) (k := 9) (C := "ScholarsPress$Style") (T := F_PStyle) (N := 15) hx hb hts in_PStyle t_PStyle t_PStyle_ok n_PStyle hown k_408 rfl hK hP hD hS hA rfl rfl rfl (by decide) (hts (.fieldLink "ScholarsPress$Style" 32 "ScholarsPress$Style" "condition" "[I") k_368) (fun _ h9 => h9) rfl hin rfl (by decide +kernel) (fun _ => rfl) (by decide) (by decide) (by decide) (Nat.le_of_ble_eq_true rfl) (Nat.le_of_ble_eq_true rfl) d_PStyle_init_61 d_PStyle_init_63 (fun q_9 H locs hP hD hS => ?_)
  have hP : va_P (dC, dI) classes [(h0, .inr (2, [.ref q_1, .ref q_3, .int 0, .ref q_5, .int 0, .ref q_6, .ref q_7, .int 0, .ref q_8, .ref q_9, .int 0, .null, .null, .int 0, .null])), (q_1, .inl (cA_2, 16384, .inl ((fun _ => 0)))), (q_3, .inl (cA_4, 6, .inl ((fun _ => 0))))] H := hP
  have hD : va_D A [(h0, .inr (2, [.ref q_1, .ref q_3, .int 0, .ref q_5, .int 0, .ref q_6, .ref q_7, .int 0, .ref q_8, .ref q_9, .int 0, .null, .null, .int 0, .null])), (q_1, .inl (cA_2, 16384, .inl ((fun _ => 0)))), (q_3, .inl (cA_4, 6, .inl ((fun _ => 0))))] := hD
  refine lv_aload_n hx hb d_PStyle_init_66 rfl (lv_at hl 0 rfl) ?_
  refine lv_sipush (v := 600) hx hb d_PStyle_init_67 (by decide) ?_
  refine ca_np (n := 600) (Nn := 600) (a0 := (600, .inl (fun _ => 0))) (q0 := 0) (ci := 2) (k := 11) (C := "ScholarsPress$Style") (T := F_PStyle) (N := 15) hx hb hts in_PStyle t_PStyle t_PStyle_ok n_PStyle hown k_408 rfl hK hP hD hS hA rfl rfl rfl (by decide) (hts (.fieldLink "ScholarsPress$Style" 35 "ScholarsPress$Style" "toldProperty" "[I") k_371) (fun _ h9 => h9) rfl hin rfl (by decide +kernel) (fun _ => rfl) (by decide) (by decide) (by decide) (Nat.le_of_ble_eq_true rfl) (Nat.le_of_ble_eq_true rfl) d_PStyle_init_70 d_PStyle_init_72 (fun q_10 H locs hP hD hS => ?_)
  have hP : va_P (dC, dI) classes [(h0, .inr (2, [.ref q_1, .ref q_3, .int 0, .ref q_5, .int 0, .ref q_6, .ref q_7, .int 0, .ref q_8, .ref q_9, .int 0, .ref q_10, .null, .int 0, .null])), (q_1, .inl (cA_2, 16384, .inl ((fun _ => 0)))), (q_3, .inl (cA_4, 6, .inl ((fun _ => 0))))] H := hP
  have hD : va_D A [(h0, .inr (2, [.ref q_1, .ref q_3, .int 0, .ref q_5, .int 0, .ref q_6, .ref q_7, .int 0, .ref q_8, .ref q_9, .int 0, .ref q_10, .null, .int 0, .null])), (q_1, .inl (cA_2, 16384, .inl ((fun _ => 0)))), (q_3, .inl (cA_4, 6, .inl ((fun _ => 0))))] := hD
  refine lv_aload_n hx hb d_PStyle_init_75 rfl (lv_at hl 0 rfl) ?_
  refine lv_sipush (v := 600) hx hb d_PStyle_init_76 (by decide) ?_
  refine ca_np (n := 600) (Nn := 600) (a0 := (600, .inl (fun _ => 0))) (q0 := 0) (ci := 2) (k := 12) (C := "ScholarsPress$Style") (T := F_PStyle) (N := 15) hx hb hts in_PStyle t_PStyle t_PStyle_ok n_PStyle hown k_408 rfl hK hP hD hS hA rfl rfl rfl (by decide) (hts (.fieldLink "ScholarsPress$Style" 38 "ScholarsPress$Style" "toldValue" "[I") k_373) (fun _ h9 => h9) rfl hin rfl (by decide +kernel) (fun _ => rfl) (by decide) (by decide) (by decide) (Nat.le_of_ble_eq_true rfl) (Nat.le_of_ble_eq_true rfl) d_PStyle_init_79 d_PStyle_init_81 (fun q_11 H locs hP hD hS => ?_)
  have hP : va_P (dC, dI) classes [(h0, .inr (2, [.ref q_1, .ref q_3, .int 0, .ref q_5, .int 0, .ref q_6, .ref q_7, .int 0, .ref q_8, .ref q_9, .int 0, .ref q_10, .ref q_11, .int 0, .null])), (q_1, .inl (cA_2, 16384, .inl ((fun _ => 0)))), (q_3, .inl (cA_4, 6, .inl ((fun _ => 0))))] H := hP
  have hD : va_D A [(h0, .inr (2, [.ref q_1, .ref q_3, .int 0, .ref q_5, .int 0, .ref q_6, .ref q_7, .int 0, .ref q_8, .ref q_9, .int 0, .ref q_10, .ref q_11, .int 0, .null])), (q_1, .inl (cA_2, 16384, .inl ((fun _ => 0)))), (q_3, .inl (cA_4, 6, .inl ((fun _ => 0))))] := hD
  refine lv_aload_n hx hb d_PStyle_init_84 rfl (lv_at hl 0 rfl) ?_
  refine lv_bipush (v := 12) hx hb d_PStyle_init_85 (by decide) ?_
  refine ca_np (n := 12) (Nn := 12) (a0 := (12, .inr (.inl (fun _ => 0)))) (q0 := 0) (ci := 2) (k := 14) (C := "ScholarsPress$Style") (T := F_PStyle) (N := 15) hx hb hts in_PStyle t_PStyle t_PStyle_ok n_PStyle hown k_409 rfl hK hP hD hS hA rfl rfl rfl (by decide) (hts (.fieldLink "ScholarsPress$Style" 41 "ScholarsPress$Style" "counterNames" "[J") k_376) (fun _ h9 => h9) rfl hin rfl (by decide +kernel) (fun _ => rfl) (by decide) (by decide) (by decide) (Nat.le_of_ble_eq_true rfl) (Nat.le_of_ble_eq_true rfl) d_PStyle_init_87 d_PStyle_init_89 (fun q_12 H locs hP hD hS => ?_)
  have hP : va_P (dC, dI) classes [(h0, .inr (2, [.ref q_1, .ref q_3, .int 0, .ref q_5, .int 0, .ref q_6, .ref q_7, .int 0, .ref q_8, .ref q_9, .int 0, .ref q_10, .ref q_11, .int 0, .ref q_12])), (q_1, .inl (cA_2, 16384, .inl ((fun _ => 0)))), (q_3, .inl (cA_4, 6, .inl ((fun _ => 0))))] H := hP
  have hD : va_D A [(h0, .inr (2, [.ref q_1, .ref q_3, .int 0, .ref q_5, .int 0, .ref q_6, .ref q_7, .int 0, .ref q_8, .ref q_9, .int 0, .ref q_10, .ref q_11, .int 0, .ref q_12])), (q_1, .inl (cA_2, 16384, .inl ((fun _ => 0)))), (q_3, .inl (cA_4, 6, .inl ((fun _ => 0))))] := hD
  refine va_gets hx hb hZA hS hown (hts (.fieldLink "ScholarsPress$Style" 44 "ScholarsPress$Style" "PAGE_BEGINNING" "[I") k_345) (fun _ h9 => h9) d_PStyle_init_92 ?_
  refine lv_iconst (v := 0) hx hb d_PStyle_init_95 (by decide) ?_
  refine lv_aload_n hx hb d_PStyle_init_96 rfl (lv_at hl 0 rfl) ?_
  refine va_get (D := (dC, dI)) (ci := 2) (v := .ref q_3) (C := "ScholarsPress$Style") (T := F_PStyle) (N := 15) hx hb hts in_PStyle hown hK hP 0 rfl rfl 1 (by decide) (hts (.fieldLink "ScholarsPress$Style" 15 "ScholarsPress$Style" "page" "[I") k_353) (fun _ h9 => h9) rfl d_PStyle_init_97 ?_
  refine lv_iconst (v := 0) hx hb d_PStyle_init_100 (by decide) ?_
  refine lv_bipush (v := 6) hx hb d_PStyle_init_101 (by decide) ?_
  refine zt_copy (sp := 0) (dp := 0) (n := 6) hx hb (hml.trans hl.1.symm) hown (hts _ k_347) (hts _ k_349) (hts _ k_348) (hts _ k_243) hK hP hD hS hTA 2 1 rfl rfl (by decide) (by decide) (by decide) (by decide) (by decide) (Nat.le_of_ble_eq_true rfl) (Nat.le_of_ble_eq_true rfl) d_PStyle_init_103 (fun H locs hP hD hS => ?_)
  obtain ⟨g_13, eg_13⟩ : ∃ g, g = va_cpy fz ((fun _ => 0)) (0 : Int32).toNatClampNeg (0 : Int32).toNatClampNeg (6 : Int32).toNatClampNeg := ⟨_, rfl⟩
  have hP : va_P (dC, dI) classes [(h0, .inr (2, [.ref q_1, .ref q_3, .int 0, .ref q_5, .int 0, .ref q_6, .ref q_7, .int 0, .ref q_8, .ref q_9, .int 0, .ref q_10, .ref q_11, .int 0, .ref q_12])), (q_1, .inl (cA_2, 16384, .inl ((fun _ => 0)))), (q_3, .inl (cA_4, 6, .inl g_13))] H := by rw [eg_13]; exact hP
  have hD : va_D A [(h0, .inr (2, [.ref q_1, .ref q_3, .int 0, .ref q_5, .int 0, .ref q_6, .ref q_7, .int 0, .ref q_8, .ref q_9, .int 0, .ref q_10, .ref q_11, .int 0, .ref q_12])), (q_1, .inl (cA_2, 16384, .inl ((fun _ => 0)))), (q_3, .inl (cA_4, 6, .inl g_13))] := by rw [eg_13]; exact hD
  have hP9 := hP.sub (ws' := [(h0, .inr (2, [.ref q_1, .ref q_3, .int 0, .ref q_5, .int 0, .ref q_6, .ref q_7, .int 0, .ref q_8, .ref q_9, .int 0, .ref q_10, .ref q_11, .int 0, .ref q_12])), (q_1, .inl (cA_2, 16384, .inl ((fun _ => 0)))), (q_3, .inl (cA_4, 6, .inl g_13))]) [0, 1, 2] rfl
  have hD9 := hD.sub (ws' := [(h0, .inr (2, [.ref q_1, .ref q_3, .int 0, .ref q_5, .int 0, .ref q_6, .ref q_7, .int 0, .ref q_8, .ref q_9, .int 0, .ref q_10, .ref q_11, .int 0, .ref q_12])), (q_1, .inl (cA_2, 16384, .inl ((fun _ => 0)))), (q_3, .inl (cA_4, 6, .inl g_13))]) [0, 1, 2] (by decide) rfl
  have hK9 := hK.sub (tys' := [(cA_2, .byte), (cA_4, .int)]) [0, 1] rfl
  exact W.vret hx hb hr (fun t ht hW => ⟨⟨((fun k => match k with | 0 => q_1 | 1 => q_3 | 2 => q_5 | 3 => q_6 | 4 => q_7 | 5 => q_8 | 6 => q_9 | 7 => q_10 | 8 => q_11 | _ => q_12), g_13, (fun k => match k with | 0 => cA_2 | _ => cA_4)), rfl, trivial, by rw [ht]; exact hP9, va_K.moved hW.alike hK9, hD9⟩, hS.F ht⟩) hS.2.2 d_PStyle_init_106
set_option maxHeartbeats 4000000 in
set_option maxRecDepth 100000 in
/-- ScholarsPress() -/
theorem c_SP_init (l : Launch) (dC : Nat → ClassId) (dI : Nat → Nat → Nat) (n0 zt : Nat) (fz : Nat → Int32) (h0 : Nat) (sz : Nat) : Met l y_SP_init [w_SP_init] ({ frames := 2, cells := 28, slots := 67342, locals := 60 }) (va_Pc [.ref h0] (prZ n0 zt fz sz (dC, dI) [(h0, .inr (0, [.null, .int 0, .int 0, .null, .null, .null, .null, .null, .null, .null, .null, .null, .null, .int 0, .null, .null, .null, .null, .null, .null, .int 0]))] [])) (va_Qv (fun (u : (Nat → Nat) × (Nat → ClassId)) => True) (bw (dC, dI) (va_A [(h0, .inr (0, [.null, .int 0, .int 0, .null, .null, .null, .null, .null, .null, .null, .null, .null, .null, .int 0, .null, .null, .null, .null, .null, .null, .int 0]))] sz) (fun u : (Nat → Nat) × (Nat → ClassId) => [(h0, .inr (0, [.ref (u.1 0), .int 0, .int ((-1)), .ref (u.1 1), .null, .null, .ref (u.1 2), .null, .ref (u.1 3), .null, .ref (u.1 4), .null, .null, .int 0, .null, .null, .null, .null, .null, .null, .int 0])), ((u.1 0), .inl ((u.2 0), 16384, .inl ((fun _ => 0)))), ((u.1 1), .inr (1, [.null, .int 0, .int 0, .int 0, .int 0, .int 0, .int 0, .long 0]))]) (fun u : (Nat → Nat) × (Nat → ClassId) => [((u.2 0), .byte)])) (va_A [(h0, .inr (0, [.null, .int 0, .int 0, .null, .null, .null, .null, .null, .null, .null, .null, .null, .null, .int 0, .null, .null, .null, .null, .null, .null, .int 0]))] sz)) 28 67342 (va_A [(h0, .inr (0, [.null, .int 0, .int 0, .null, .null, .null, .null, .null, .null, .null, .null, .null, .null, .int 0, .null, .null, .null, .null, .null, .null, .int 0]))] sz) := by
  refine Met.ofW (cc := b_SP_init) (maxL := 1) (ret := none) (by decide) rfl ?_
  intro p e s m args below meth c s₁ B hml hv
  obtain ⟨rfl, ⟨hsz, hb0, hP, hK, hD0⟩, hn0, hDn, hZ0⟩ := hv
  have hx := B.exec
  have hb := B.bytes
  have hr := B.returns
  have hts : ∀ wq ∈ tt, wq.before ([.ref h0] : List Value).toArray s = true := hb0.hts
  have hown : s.vm.findClass "ScholarsPress" = some m.cls := findClass_of_methodNamed B.named
  have hlocks := B.notSynchronized
  have hin : meth.name = "<init>" := (name_of_methodNamed B.named B.method).1
  subst hsz
  have hD := hD0.self (sz := s.heap.size)
  generalize hAe : va_A [(h0, .inr (0, [.null, .int 0, .int 0, .null, .null, .null, .null, .null, .null, .null, .null, .null, .null, .int 0, .null, .null, .null, .null, .null, .null, .int 0]))] s.heap.size = A at hD ⊢
  have hA : ∀ q : Nat, s.heap.size ≤ q → A q := fun q h => by rw [← hAe]; exact Or.inr h
  have hS : va_S A s.heap s.heap [] := va_S.rf
  have hP : va_P (dC, dI) classes [(h0, .inr (0, [.null, .int 0, .int 0, .null, .null, .null, .null, .null, .null, .null, .null, .null, .null, .int 0, .null, .null, .null, .null, .null, .null, .int 0]))] s.heap := hP
  have hAn : ∀ q : Nat, A q → n0 ≤ q := by rw [← hAe]; exact zn hDn hn0
  have hZA := hZ0.1.narrow hAn
  have hTA := hZ0.2.narrow hAn
  have hl := lv_entry ([.ref h0]) (n := 1) (Nat.le_of_ble_eq_true rfl)
  rw [lg_entry_eq]
  generalize (lg_sl ([.ref h0]) ++ List.replicate (1 - (lg_sl ([.ref h0])).length) Slot.unset).toArray = ls at hl ⊢
  have hl : lv_has ls 1 [(0, .ref h0)] := hl
  refine lv_aload_n hx hb d_SP_init_0 rfl (lv_at hl 0 rfl) ?_
  refine W.objInit hx hb hown (hts (.methodLink "ScholarsPress" 1 objectInit) k_288) (hts (.instanceMethod objectInit) k_289) (hts _ k_oi) rfl (by rw [hml]; exact hl.1) rfl d_SP_init_1 (Nat.le_of_ble_eq_true rfl) (Nat.le_of_ble_eq_true rfl) ?_
  refine W.eq (g2 := F0 m 4 ls []) rfl ?_
  refine lv_aload_n hx hb d_SP_init_4 rfl (lv_at hl 0 rfl) ?_
  refine lv_sipush (v := 16384) hx hb d_SP_init_5 (by decide) ?_
  refine va_newa (D := (dC, dI)) hx hb (atype := .byte) (hts _ k_338) rfl hK hP hD hS hA (a0 := (16384, .inl (fun _ => 0))) (n := 16384) (fun _ => rfl) (by decide) (by decide) (by decide) (Nat.le_of_ble_eq_true rfl) (Nat.le_of_ble_eq_true rfl) d_SP_init_8 (fun q_1 cA_2 H hK hP hD hS => ?_)
  have hP : va_P (dC, dI) classes [(h0, .inr (0, [.null, .int 0, .int 0, .null, .null, .null, .null, .null, .null, .null, .null, .null, .null, .int 0, .null, .null, .null, .null, .null, .null, .int 0])), (q_1, .inl (cA_2, 16384, .inl ((fun _ => 0))))] H := hP
  have hD : va_D A [(h0, .inr (0, [.null, .int 0, .int 0, .null, .null, .null, .null, .null, .null, .null, .null, .null, .null, .int 0, .null, .null, .null, .null, .null, .null, .int 0])), (q_1, .inl (cA_2, 16384, .inl ((fun _ => 0))))] := hD
  have hK : va_K (dC, dI) classes [(cA_2, .byte)] s := hK
  refine va_putF (D := (dC, dI)) (ci := 0) (v := .ref q_1) (ty := .array .byte) (C := "ScholarsPress") (T := F_SP) (N := 21) hx hb hts in_SP t_SP t_SP_ok n_SP hown hK hP hD hS 0 rfl rfl 0 (by decide) (hts (.fieldLink "ScholarsPress" 9 "ScholarsPress" "tape" "[B") k_500) (fun _ h9 => h9) rfl hin rfl (by decide +kernel) rfl rfl (Nat.le_of_ble_eq_true rfl) d_SP_init_10 (fun H locs hP hD hS => ?_)
  have hP : va_P (dC, dI) classes [(h0, .inr (0, [.ref q_1, .int 0, .int 0, .null, .null, .null, .null, .null, .null, .null, .null, .null, .null, .int 0, .null, .null, .null, .null, .null, .null, .int 0])), (q_1, .inl (cA_2, 16384, .inl ((fun _ => 0))))] H := hP
  have hD : va_D A [(h0, .inr (0, [.ref q_1, .int 0, .int 0, .null, .null, .null, .null, .null, .null, .null, .null, .null, .null, .int 0, .null, .null, .null, .null, .null, .null, .int 0])), (q_1, .inl (cA_2, 16384, .inl ((fun _ => 0))))] := hD
  refine lv_aload_n hx hb d_SP_init_13 rfl (lv_at hl 0 rfl) ?_
  refine lv_iconst (v := (-1)) hx hb d_SP_init_14 (by decide) ?_
  refine va_put (D := (dC, dI)) (ci := 0) (v := .int ((-1))) (ty := .int) (C := "ScholarsPress") (T := F_SP) (N := 21) hx hb hts in_SP t_SP t_SP_ok n_SP hown hK hP hD hS 0 rfl rfl 2 (by decide) (hts (.fieldLink "ScholarsPress" 13 "ScholarsPress" "brokenAt" "I") k_502) (fun _ h9 => h9) rfl (by decide +kernel) rfl rfl (Nat.le_of_ble_eq_true rfl) d_SP_init_15 (fun H locs hP hD hS => ?_)
  have hP : va_P (dC, dI) classes [(h0, .inr (0, [.ref q_1, .int 0, .int ((-1)), .null, .null, .null, .null, .null, .null, .null, .null, .null, .null, .int 0, .null, .null, .null, .null, .null, .null, .int 0])), (q_1, .inl (cA_2, 16384, .inl ((fun _ => 0))))] H := hP
  have hD : va_D A [(h0, .inr (0, [.ref q_1, .int 0, .int ((-1)), .null, .null, .null, .null, .null, .null, .null, .null, .null, .null, .int 0, .null, .null, .null, .null, .null, .null, .int 0])), (q_1, .inl (cA_2, 16384, .inl ((fun _ => 0))))] := hD
  refine lv_aload_n hx hb d_SP_init_18 rfl (lv_at hl 0 rfl) ?_
  refine va_new (D := (dC, dI)) (ci := 1) (fs := DEF_PSigns) (C := "ScholarsPress$Signs") (T := F_PSigns) (N := 8) hx hb hts in_PSigns t_PSigns t_PSigns_ok hown (hts (.classLink "ScholarsPress" 17 "ScholarsPress$Signs") k_291) (hts (.instantiable "ScholarsPress$Signs" 8) k_292) (hts (.initialized "ScholarsPress$Signs") k_241) hK hP hD hS hA rfl df_PSigns (Nat.le_of_ble_eq_true rfl) (Nat.le_of_ble_eq_true rfl) d_SP_init_19 (fun q_3 H hP hD hS => ?_)
  have hP : va_P (dC, dI) classes [(h0, .inr (0, [.ref q_1, .int 0, .int ((-1)), .null, .null, .null, .null, .null, .null, .null, .null, .null, .null, .int 0, .null, .null, .null, .null, .null, .null, .int 0])), (q_1, .inl (cA_2, 16384, .inl ((fun _ => 0)))), (q_3, .inr (1, DEF_PSigns))] H := hP
  have hD : va_D A [(h0, .inr (0, [.ref q_1, .int 0, .int ((-1)), .null, .null, .null, .null, .null, .null, .null, .null, .null, .null, .int 0, .null, .null, .null, .null, .null, .null, .int 0])), (q_1, .inl (cA_2, 16384, .inl ((fun _ => 0)))), (q_3, .inr (1, DEF_PSigns))] := hD
  refine lv_dup hx hb d_SP_init_22 rfl ?_
  refine vi_v (wc := [(q_3, .inr (1, DEF_PSigns))]) (wr := [(h0, .inr (0, [.ref q_1, .int 0, .int ((-1)), .null, .null, .null, .null, .null, .null, .null, .null, .null, .null, .int 0, .null, .null, .null, .null, .null, .null, .int 0])), (q_1, .inl (cA_2, 16384, .inl ((fun _ => 0))))]) (va_runIN (As := []) (rest := [.ref q_3, .ref h0]) ⟨hx, hb, hml, hown, hts⟩ (c_PSigns_init l dC dI q_3 H.size) (⟨va_cnB (host := "ScholarsPress") 0 hts (tt_1 kw_PSigns_init rfl) rfl rfl rfl (va_Nw.of rfl (hts _ k_293)) (hts _ k_241) (by decide +kernel) ⟨Nat.le_of_ble_eq_true rfl, Nat.le_of_ble_eq_true rfl⟩, rfl, hts _ k_294⟩) ⟨pr_blind, pr_pre hb0 (hP.sub [2] rfl) (hK.sub [] rfl) (hD.sub [2] (by decide) rfl)⟩ rfl rfl hl.1 rfl (lv_room (Nat.le_of_ble_eq_true rfl)) d_SP_init_23 ⟨Nat.le_of_ble_eq_true rfl, Nat.le_of_ble_eq_true rfl⟩) hP hD hK hS hA [2] [0, 1] rfl rfl (by decide) (by decide) (fun u H locs hw hP hK hD hS => ?_)
  obtain ⟨U_4, rfl⟩ : ∃ z, z = u := ⟨_, rfl⟩
  have hP : va_P (dC, dI) classes [(h0, .inr (0, [.ref q_1, .int 0, .int ((-1)), .null, .null, .null, .null, .null, .null, .null, .null, .null, .null, .int 0, .null, .null, .null, .null, .null, .null, .int 0])), (q_1, .inl (cA_2, 16384, .inl ((fun _ => 0)))), (q_3, .inr (1, [.null, .int 0, .int 0, .int 0, .int 0, .int 0, .int 0, .long 0]))] H := hP
  have hD : va_D A [(h0, .inr (0, [.ref q_1, .int 0, .int ((-1)), .null, .null, .null, .null, .null, .null, .null, .null, .null, .null, .int 0, .null, .null, .null, .null, .null, .null, .int 0])), (q_1, .inl (cA_2, 16384, .inl ((fun _ => 0)))), (q_3, .inr (1, [.null, .int 0, .int 0, .int 0, .int 0, .int 0, .int 0, .long 0]))] := hD
  have hK : va_K (dC, dI) classes [(cA_2, .byte)] s := hK.sub [0] rfl
  refine va_putF (D := (dC, dI)) (ci := 0) (v := .ref q_3) (ty := .object "ScholarsPress$Signs") (C := "ScholarsPress") (T := F_SP) (N := 21) hx hb hts in_SP t_SP t_SP_ok n_SP hown hK hP hD hS 0 rfl rfl 3 (by decide) (hts (.fieldLink "ScholarsPress" 20 "ScholarsPress" "signs" "LScholarsPress$Signs;") k_503) (fun _ h9 => h9) rfl hin rfl (by decide +kernel) rfl rfl (Nat.le_of_ble_eq_true rfl) d_SP_init_26 (fun H locs hP hD hS => ?_)
  have hP : va_P (dC, dI) classes [(h0, .inr (0, [.ref q_1, .int 0, .int ((-1)), .ref q_3, .null, .null, .null, .null, .null, .null, .null, .null, .null, .int 0, .null, .null, .null, .null, .null, .null, .int 0])), (q_1, .inl (cA_2, 16384, .inl ((fun _ => 0)))), (q_3, .inr (1, [.null, .int 0, .int 0, .int 0, .int 0, .int 0, .int 0, .long 0]))] H := hP
  have hD : va_D A [(h0, .inr (0, [.ref q_1, .int 0, .int ((-1)), .ref q_3, .null, .null, .null, .null, .null, .null, .null, .null, .null, .int 0, .null, .null, .null, .null, .null, .null, .int 0])), (q_1, .inl (cA_2, 16384, .inl ((fun _ => 0)))), (q_3, .inr (1, [.null, .int 0, .int 0, .int 0, .int 0, .int 0, .int 0, .long 0]))] := hD
  refine lv_aload_n hx hb d_SP_init_29 rfl (lv_at hl 0 rfl) ?_
  refine va_new (D := (dC, dI)) (ci := 2) (fs := DEF_PStyle) (C := "ScholarsPress$Style") (T := F_PStyle) (N := 15) hx hb hts in_PStyle t_PStyle t_PStyle_ok hown (hts (.classLink "ScholarsPress" 24 "ScholarsPress$Style") k_339) (hts (.instantiable "ScholarsPress$Style" 15) k_340) (hts (.initialized "ScholarsPress$Style") k_242) hK hP hD hS hA rfl df_PStyle (Nat.le_of_ble_eq_true rfl) (Nat.le_of_ble_eq_true rfl) d_SP_init_30 (fun q_5 H hP hD hS => ?_)
  have hP : va_P (dC, dI) classes [(h0, .inr (0, [.ref q_1, .int 0, .int ((-1)), .ref q_3, .null, .null, .null, .null, .null, .null, .null, .null, .null, .int 0, .null, .null, .null, .null, .null, .null, .int 0])), (q_1, .inl (cA_2, 16384, .inl ((fun _ => 0)))), (q_3, .inr (1, [.null, .int 0, .int 0, .int 0, .int 0, .int 0, .int 0, .long 0])), (q_5, .inr (2, DEF_PStyle))] H := hP
  have hD : va_D A [(h0, .inr (0, [.ref q_1, .int 0, .int ((-1)), .ref q_3, .null, .null, .null, .null, .null, .null, .null, .null, .null, .int 0, .null, .null, .null, .null, .null, .null, .int 0])), (q_1, .inl (cA_2, 16384, .inl ((fun _ => 0)))), (q_3, .inr (1, [.null, .int 0, .int 0, .int 0, .int 0, .int 0, .int 0, .long 0])), (q_5, .inr (2, DEF_PStyle))] := hD
  refine lv_dup hx hb d_SP_init_33 rfl ?_
  refine vi_v (wc := [(q_5, .inr (2, DEF_PStyle))]) (wr := [(h0, .inr (0, [.ref q_1, .int 0, .int ((-1)), .ref q_3, .null, .null, .null, .null, .null, .null, .null, .null, .null, .int 0, .null, .null, .null, .null, .null, .null, .int 0])), (q_1, .inl (cA_2, 16384, .inl ((fun _ => 0)))), (q_3, .inr (1, [.null, .int 0, .int 0, .int 0, .int 0, .int 0, .int 0, .long 0]))]) (va_runI (As := []) (rest := [.ref q_5, .ref h0]) ⟨hx, hb, hml, hown, hts⟩ (c_PStyle_init l dC dI n0 zt fz q_5 H.size) (cwI 0 hts (tt_1 kw_PStyle_init rfl) rfl rfl rfl (hts _ k_242) (hts _ k_341) (hts _ k_342) rfl (by decide +kernel) ⟨Nat.le_of_ble_eq_true rfl, Nat.le_of_ble_eq_true rfl⟩) ⟨prZ_blind, prZ_pre hb0 (hP.sub [3] rfl) (hK.sub [] rfl) (hD.sub [3] (by decide) rfl) hS hn0 hAn hZ0⟩ rfl rfl hl.1 rfl (lv_room (Nat.le_of_ble_eq_true rfl)) d_SP_init_34 ⟨Nat.le_of_ble_eq_true rfl, Nat.le_of_ble_eq_true rfl⟩) hP hD hK hS hA [3] [0, 1, 2] rfl rfl (by decide) (by decide) (fun u H locs hw hP hK hD hS => ?_)
  obtain ⟨U_6, rfl⟩ : ∃ z, z = u := ⟨_, rfl⟩
  have hP := hP.sub (ws' := [(h0, .inr (0, [.ref q_1, .int 0, .int ((-1)), .ref q_3, .null, .null, .null, .null, .null, .null, .null, .null, .null, .int 0, .null, .null, .null, .null, .null, .null, .int 0])), (q_1, .inl (cA_2, 16384, .inl ((fun _ => 0)))), (q_3, .inr (1, [.null, .int 0, .int 0, .int 0, .int 0, .int 0, .int 0, .long 0]))]) [0, 1, 2] rfl
  have hD := hD.sub (ws' := [(h0, .inr (0, [.ref q_1, .int 0, .int ((-1)), .ref q_3, .null, .null, .null, .null, .null, .null, .null, .null, .null, .int 0, .null, .null, .null, .null, .null, .null, .int 0])), (q_1, .inl (cA_2, 16384, .inl ((fun _ => 0)))), (q_3, .inr (1, [.null, .int 0, .int 0, .int 0, .int 0, .int 0, .int 0, .long 0]))]) [0, 1, 2] (by decide) rfl
  have hK := hK.sub (tys' := [(cA_2, .byte)]) [0] rfl
  have hP : va_P (dC, dI) classes [(h0, .inr (0, [.ref q_1, .int 0, .int ((-1)), .ref q_3, .null, .null, .null, .null, .null, .null, .null, .null, .null, .int 0, .null, .null, .null, .null, .null, .null, .int 0])), (q_1, .inl (cA_2, 16384, .inl ((fun _ => 0)))), (q_3, .inr (1, [.null, .int 0, .int 0, .int 0, .int 0, .int 0, .int 0, .long 0]))] H := hP
  have hD : va_D A [(h0, .inr (0, [.ref q_1, .int 0, .int ((-1)), .ref q_3, .null, .null, .null, .null, .null, .null, .null, .null, .null, .int 0, .null, .null, .null, .null, .null, .null, .int 0])), (q_1, .inl (cA_2, 16384, .inl ((fun _ => 0)))), (q_3, .inr (1, [.null, .int 0, .int 0, .int 0, .int 0, .int 0, .int 0, .long 0]))] := hD
  refine va_put (D := (dC, dI)) (ci := 0) (v := .ref q_5) (ty := .object "ScholarsPress$Style") (C := "ScholarsPress") (T := F_SP) (N := 21) hx hb hts in_SP t_SP t_SP_ok n_SP hown hK hP hD hS 0 rfl rfl 6 (by decide) (hts (.fieldLink "ScholarsPress" 27 "ScholarsPress" "styleNow" "LScholarsPress$Style;") k_506) (fun _ h9 => h9) rfl (by decide +kernel) rfl rfl (Nat.le_of_ble_eq_true rfl) d_SP_init_37 (fun H locs hP hD hS => ?_)
  have hP : va_P (dC, dI) classes [(h0, .inr (0, [.ref q_1, .int 0, .int ((-1)), .ref q_3, .null, .null, .ref q_5, .null, .null, .null, .null, .null, .null, .int 0, .null, .null, .null, .null, .null, .null, .int 0])), (q_1, .inl (cA_2, 16384, .inl ((fun _ => 0)))), (q_3, .inr (1, [.null, .int 0, .int 0, .int 0, .int 0, .int 0, .int 0, .long 0]))] H := hP
  have hD : va_D A [(h0, .inr (0, [.ref q_1, .int 0, .int ((-1)), .ref q_3, .null, .null, .ref q_5, .null, .null, .null, .null, .null, .null, .int 0, .null, .null, .null, .null, .null, .null, .int 0])), (q_1, .inl (cA_2, 16384, .inl ((fun _ => 0)))), (q_3, .inr (1, [.null, .int 0, .int 0, .int 0, .int 0, .int 0, .int 0, .long 0]))] := hD
  refine lv_aload_n hx hb d_SP_init_40 rfl (lv_at hl 0 rfl) ?_
  refine va_new (D := (dC, dI)) (ci := 3) (fs := DEF_PFont) (C := "ScholarsPress$Font") (T := F_PFont) (N := 8) hx hb hts in_PFont t_PFont t_PFont_ok hown (hts (.classLink "ScholarsPress" 31 "ScholarsPress$Font") k_410) (hts (.instantiable "ScholarsPress$Font" 8) k_411) (hts (.initialized "ScholarsPress$Font") k_244) hK hP hD hS hA rfl df_PFont (Nat.le_of_ble_eq_true rfl) (Nat.le_of_ble_eq_true rfl) d_SP_init_41 (fun q_7 H hP hD hS => ?_)
  have hP : va_P (dC, dI) classes [(h0, .inr (0, [.ref q_1, .int 0, .int ((-1)), .ref q_3, .null, .null, .ref q_5, .null, .null, .null, .null, .null, .null, .int 0, .null, .null, .null, .null, .null, .null, .int 0])), (q_1, .inl (cA_2, 16384, .inl ((fun _ => 0)))), (q_3, .inr (1, [.null, .int 0, .int 0, .int 0, .int 0, .int 0, .int 0, .long 0])), (q_7, .inr (3, DEF_PFont))] H := hP
  have hD : va_D A [(h0, .inr (0, [.ref q_1, .int 0, .int ((-1)), .ref q_3, .null, .null, .ref q_5, .null, .null, .null, .null, .null, .null, .int 0, .null, .null, .null, .null, .null, .null, .int 0])), (q_1, .inl (cA_2, 16384, .inl ((fun _ => 0)))), (q_3, .inr (1, [.null, .int 0, .int 0, .int 0, .int 0, .int 0, .int 0, .long 0])), (q_7, .inr (3, DEF_PFont))] := hD
  refine lv_dup hx hb d_SP_init_44 rfl ?_
  refine vi_v (wc := [(q_7, .inr (3, DEF_PFont))]) (wr := [(h0, .inr (0, [.ref q_1, .int 0, .int ((-1)), .ref q_3, .null, .null, .ref q_5, .null, .null, .null, .null, .null, .null, .int 0, .null, .null, .null, .null, .null, .null, .int 0])), (q_1, .inl (cA_2, 16384, .inl ((fun _ => 0)))), (q_3, .inr (1, [.null, .int 0, .int 0, .int 0, .int 0, .int 0, .int 0, .long 0]))]) (va_runI (As := []) (rest := [.ref q_7, .ref h0]) ⟨hx, hb, hml, hown, hts⟩ (c_PFont_init l dC dI q_7 H.size) (cwI 0 hts (tt_1 kw_PFont_init rfl) rfl rfl rfl (hts _ k_244) (hts _ k_412) (hts _ k_413) rfl (by decide +kernel) ⟨Nat.le_of_ble_eq_true rfl, Nat.le_of_ble_eq_true rfl⟩) ⟨pr_blind, pr_pre hb0 (hP.sub [3] rfl) (hK.sub [] rfl) (hD.sub [3] (by decide) rfl)⟩ rfl rfl hl.1 rfl (lv_room (Nat.le_of_ble_eq_true rfl)) d_SP_init_45 ⟨Nat.le_of_ble_eq_true rfl, Nat.le_of_ble_eq_true rfl⟩) hP hD hK hS hA [3] [0, 1, 2] rfl rfl (by decide) (by decide) (fun u H locs hw hP hK hD hS => ?_)
  obtain ⟨U_8, rfl⟩ : ∃ z, z = u := ⟨_, rfl⟩
  have hP := hP.sub (ws' := [(h0, .inr (0, [.ref q_1, .int 0, .int ((-1)), .ref q_3, .null, .null, .ref q_5, .null, .null, .null, .null, .null, .null, .int 0, .null, .null, .null, .null, .null, .null, .int 0])), (q_1, .inl (cA_2, 16384, .inl ((fun _ => 0)))), (q_3, .inr (1, [.null, .int 0, .int 0, .int 0, .int 0, .int 0, .int 0, .long 0]))]) [0, 1, 2] rfl
  have hD := hD.sub (ws' := [(h0, .inr (0, [.ref q_1, .int 0, .int ((-1)), .ref q_3, .null, .null, .ref q_5, .null, .null, .null, .null, .null, .null, .int 0, .null, .null, .null, .null, .null, .null, .int 0])), (q_1, .inl (cA_2, 16384, .inl ((fun _ => 0)))), (q_3, .inr (1, [.null, .int 0, .int 0, .int 0, .int 0, .int 0, .int 0, .long 0]))]) [0, 1, 2] (by decide) rfl
  have hK := hK.sub (tys' := [(cA_2, .byte)]) [0] rfl
  have hP : va_P (dC, dI) classes [(h0, .inr (0, [.ref q_1, .int 0, .int ((-1)), .ref q_3, .null, .null, .ref q_5, .null, .null, .null, .null, .null, .null, .int 0, .null, .null, .null, .null, .null, .null, .int 0])), (q_1, .inl (cA_2, 16384, .inl ((fun _ => 0)))), (q_3, .inr (1, [.null, .int 0, .int 0, .int 0, .int 0, .int 0, .int 0, .long 0]))] H := hP
  have hD : va_D A [(h0, .inr (0, [.ref q_1, .int 0, .int ((-1)), .ref q_3, .null, .null, .ref q_5, .null, .null, .null, .null, .null, .null, .int 0, .null, .null, .null, .null, .null, .null, .int 0])), (q_1, .inl (cA_2, 16384, .inl ((fun _ => 0)))), (q_3, .inr (1, [.null, .int 0, .int 0, .int 0, .int 0, .int 0, .int 0, .long 0]))] := hD
  refine va_put (D := (dC, dI)) (ci := 0) (v := .ref q_7) (ty := .object "ScholarsPress$Font") (C := "ScholarsPress") (T := F_SP) (N := 21) hx hb hts in_SP t_SP t_SP_ok n_SP hown hK hP hD hS 0 rfl rfl 8 (by decide) (hts (.fieldLink "ScholarsPress" 34 "ScholarsPress" "fontNow" "LScholarsPress$Font;") k_508) (fun _ h9 => h9) rfl (by decide +kernel) rfl rfl (Nat.le_of_ble_eq_true rfl) d_SP_init_48 (fun H locs hP hD hS => ?_)
  have hP : va_P (dC, dI) classes [(h0, .inr (0, [.ref q_1, .int 0, .int ((-1)), .ref q_3, .null, .null, .ref q_5, .null, .ref q_7, .null, .null, .null, .null, .int 0, .null, .null, .null, .null, .null, .null, .int 0])), (q_1, .inl (cA_2, 16384, .inl ((fun _ => 0)))), (q_3, .inr (1, [.null, .int 0, .int 0, .int 0, .int 0, .int 0, .int 0, .long 0]))] H := hP
  have hD : va_D A [(h0, .inr (0, [.ref q_1, .int 0, .int ((-1)), .ref q_3, .null, .null, .ref q_5, .null, .ref q_7, .null, .null, .null, .null, .int 0, .null, .null, .null, .null, .null, .null, .int 0])), (q_1, .inl (cA_2, 16384, .inl ((fun _ => 0)))), (q_3, .inr (1, [.null, .int 0, .int 0, .int 0, .int 0, .int 0, .int 0, .long 0]))] := hD
  refine lv_aload_n hx hb d_SP_init_51 rfl (lv_at hl 0 rfl) ?_
  refine va_new (D := (dC, dI)) (ci := 4) (fs := DEF_PHyphens) (C := "ScholarsPress$Hyphens") (T := F_PHyphens) (N := 14) hx hb hts in_PHyphens t_PHyphens t_PHyphens_ok hown (hts (.classLink "ScholarsPress" 38 "ScholarsPress$Hyphens") k_447) (hts (.instantiable "ScholarsPress$Hyphens" 14) k_448) (hts (.initialized "ScholarsPress$Hyphens") k_246) hK hP hD hS hA rfl df_PHyphens (Nat.le_of_ble_eq_true rfl) (Nat.le_of_ble_eq_true rfl) d_SP_init_52 (fun q_9 H hP hD hS => ?_)
  have hP : va_P (dC, dI) classes [(h0, .inr (0, [.ref q_1, .int 0, .int ((-1)), .ref q_3, .null, .null, .ref q_5, .null, .ref q_7, .null, .null, .null, .null, .int 0, .null, .null, .null, .null, .null, .null, .int 0])), (q_1, .inl (cA_2, 16384, .inl ((fun _ => 0)))), (q_3, .inr (1, [.null, .int 0, .int 0, .int 0, .int 0, .int 0, .int 0, .long 0])), (q_9, .inr (4, DEF_PHyphens))] H := hP
  have hD : va_D A [(h0, .inr (0, [.ref q_1, .int 0, .int ((-1)), .ref q_3, .null, .null, .ref q_5, .null, .ref q_7, .null, .null, .null, .null, .int 0, .null, .null, .null, .null, .null, .null, .int 0])), (q_1, .inl (cA_2, 16384, .inl ((fun _ => 0)))), (q_3, .inr (1, [.null, .int 0, .int 0, .int 0, .int 0, .int 0, .int 0, .long 0])), (q_9, .inr (4, DEF_PHyphens))] := hD
  refine lv_dup hx hb d_SP_init_55 rfl ?_
  refine vi_v (wc := [(q_9, .inr (4, DEF_PHyphens))]) (wr := [(h0, .inr (0, [.ref q_1, .int 0, .int ((-1)), .ref q_3, .null, .null, .ref q_5, .null, .ref q_7, .null, .null, .null, .null, .int 0, .null, .null, .null, .null, .null, .null, .int 0])), (q_1, .inl (cA_2, 16384, .inl ((fun _ => 0)))), (q_3, .inr (1, [.null, .int 0, .int 0, .int 0, .int 0, .int 0, .int 0, .long 0]))]) (va_runI (As := []) (rest := [.ref q_9, .ref h0]) ⟨hx, hb, hml, hown, hts⟩ (c_PHyphens_init l dC dI q_9 H.size) (cwI 0 hts (tt_1 kw_PHyphens_init rfl) rfl rfl rfl (hts _ k_246) (hts _ k_449) (hts _ k_450) rfl (by decide +kernel) ⟨Nat.le_of_ble_eq_true rfl, Nat.le_of_ble_eq_true rfl⟩) ⟨pr_blind, pr_pre hb0 (hP.sub [3] rfl) (hK.sub [] rfl) (hD.sub [3] (by decide) rfl)⟩ rfl rfl hl.1 rfl (lv_room (Nat.le_of_ble_eq_true rfl)) d_SP_init_56 ⟨Nat.le_of_ble_eq_true rfl, Nat.le_of_ble_eq_true rfl⟩) hP hD hK hS hA [3] [0, 1, 2] rfl rfl (by decide) (by decide) (fun u H locs hw hP hK hD hS => ?_)
  obtain ⟨U_10, rfl⟩ : ∃ z, z = u := ⟨_, rfl⟩
  have hP := hP.sub (ws' := [(h0, .inr (0, [.ref q_1, .int 0, .int ((-1)), .ref q_3, .null, .null, .ref q_5, .null, .ref q_7, .null, .null, .null, .null, .int 0, .null, .null, .null, .null, .null, .null, .int 0])), (q_1, .inl (cA_2, 16384, .inl ((fun _ => 0)))), (q_3, .inr (1, [.null, .int 0, .int 0, .int 0, .int 0, .int 0, .int 0, .long 0]))]) [0, 1, 2] rfl
  have hD := hD.sub (ws' := [(h0, .inr (0, [.ref q_1, .int 0, .int ((-1)), .ref q_3, .null, .null, .ref q_5, .null, .ref q_7, .null, .null, .null, .null, .int 0, .null, .null, .null, .null, .null, .null, .int 0])), (q_1, .inl (cA_2, 16384, .inl ((fun _ => 0)))), (q_3, .inr (1, [.null, .int 0, .int 0, .int 0, .int 0, .int 0, .int 0, .long 0]))]) [0, 1, 2] (by decide) rfl
  have hK := hK.sub (tys' := [(cA_2, .byte)]) [0] rfl
  have hP : va_P (dC, dI) classes [(h0, .inr (0, [.ref q_1, .int 0, .int ((-1)), .ref q_3, .null, .null, .ref q_5, .null, .ref q_7, .null, .null, .null, .null, .int 0, .null, .null, .null, .null, .null, .null, .int 0])), (q_1, .inl (cA_2, 16384, .inl ((fun _ => 0)))), (q_3, .inr (1, [.null, .int 0, .int 0, .int 0, .int 0, .int 0, .int 0, .long 0]))] H := hP
  have hD : va_D A [(h0, .inr (0, [.ref q_1, .int 0, .int ((-1)), .ref q_3, .null, .null, .ref q_5, .null, .ref q_7, .null, .null, .null, .null, .int 0, .null, .null, .null, .null, .null, .null, .int 0])), (q_1, .inl (cA_2, 16384, .inl ((fun _ => 0)))), (q_3, .inr (1, [.null, .int 0, .int 0, .int 0, .int 0, .int 0, .int 0, .long 0]))] := hD
  refine va_put (D := (dC, dI)) (ci := 0) (v := .ref q_9) (ty := .object "ScholarsPress$Hyphens") (C := "ScholarsPress") (T := F_SP) (N := 21) hx hb hts in_SP t_SP t_SP_ok n_SP hown hK hP hD hS 0 rfl rfl 10 (by decide) (hts (.fieldLink "ScholarsPress" 41 "ScholarsPress" "hyphensNow" "LScholarsPress$Hyphens;") k_510) (fun _ h9 => h9) rfl (by decide +kernel) rfl rfl (Nat.le_of_ble_eq_true rfl) d_SP_init_59 (fun H locs hP hD hS => ?_)
  have hP : va_P (dC, dI) classes [(h0, .inr (0, [.ref q_1, .int 0, .int ((-1)), .ref q_3, .null, .null, .ref q_5, .null, .ref q_7, .null, .ref q_9, .null, .null, .int 0, .null, .null, .null, .null, .null, .null, .int 0])), (q_1, .inl (cA_2, 16384, .inl ((fun _ => 0)))), (q_3, .inr (1, [.null, .int 0, .int 0, .int 0, .int 0, .int 0, .int 0, .long 0]))] H := hP
  have hD : va_D A [(h0, .inr (0, [.ref q_1, .int 0, .int ((-1)), .ref q_3, .null, .null, .ref q_5, .null, .ref q_7, .null, .ref q_9, .null, .null, .int 0, .null, .null, .null, .null, .null, .null, .int 0])), (q_1, .inl (cA_2, 16384, .inl ((fun _ => 0)))), (q_3, .inr (1, [.null, .int 0, .int 0, .int 0, .int 0, .int 0, .int 0, .long 0]))] := hD
  have hP9 := hP.sub (ws' := [(h0, .inr (0, [.ref q_1, .int 0, .int ((-1)), .ref q_3, .null, .null, .ref q_5, .null, .ref q_7, .null, .ref q_9, .null, .null, .int 0, .null, .null, .null, .null, .null, .null, .int 0])), (q_1, .inl (cA_2, 16384, .inl ((fun _ => 0)))), (q_3, .inr (1, [.null, .int 0, .int 0, .int 0, .int 0, .int 0, .int 0, .long 0]))]) [0, 1, 2] rfl
  have hD9 := hD.sub (ws' := [(h0, .inr (0, [.ref q_1, .int 0, .int ((-1)), .ref q_3, .null, .null, .ref q_5, .null, .ref q_7, .null, .ref q_9, .null, .null, .int 0, .null, .null, .null, .null, .null, .null, .int 0])), (q_1, .inl (cA_2, 16384, .inl ((fun _ => 0)))), (q_3, .inr (1, [.null, .int 0, .int 0, .int 0, .int 0, .int 0, .int 0, .long 0]))]) [0, 1, 2] (by decide) rfl
  have hK9 := hK.sub (tys' := [(cA_2, .byte)]) [0] rfl
  exact W.vret hx hb hr (fun t ht hW => ⟨⟨((fun k => match k with | 0 => q_1 | 1 => q_3 | 2 => q_5 | 3 => q_7 | _ => q_9), (fun _ => cA_2)), rfl, trivial, by rw [ht]; exact hP9, va_K.moved hW.alike hK9, hD9⟩, hS.F ht⟩) hS.2.2 d_SP_init_62
