/-! THE TABLES' WORDS, ALL AT ONCE: those that stay when the tables grow warmer (kd), as one list (tt) and one premise (tb) -/
def kd (w : Cond) : Bool := match w with
  | .arrayClass _ => true
  | .methodLinkNest .. => true
  | .fieldLinkNest .. => true
  | w => w.onTables && w.keepsCast
theorem kd_warm {w : Cond} (hk : kd w = true) {args a' : Array Value} {s U : State} (hW : s.WarmedH U.vm) (h : w.before args s = true) : w.before a' U = true := by
  have std : ∀ w : Cond, (w.onTables && w.keepsCast) = true → w.before args s = true → w.before a' U = true := by
    intro w hk h
    simp only [Bool.and_eq_true] at hk
    have h1 : w.before args (s.setVm U.vm) = true := Cond.before_shiftedCast (State.Shifted.of_warmed hW) w hk.2 h
    exact va_tabs hk.1 (rfl : (s.setVm U.vm).vm = U.vm) h1
  cases w
  case arrayClass ty => exact word_at hW (Or.inr ⟨ty, rfl⟩) h
  case methodLinkNest a i x b => exact va_Nw.use rfl (va_Nw.warmM hW (va_Nw.of rfl h))
  case fieldLinkNest a i b n d x => exact va_Nw.use rfl (va_Nw.warmF hW (va_Nw.of rfl h))
  all_goals exact std _ hk h
def tt : List Cond := lw_tbl.filter kd
/-- all words of the tables hold -/
def tb (U : State) : Prop := ∀ w ∈ tt, w.before #[] U = true
theorem tt_mem {w : Cond} (i : Nat) (h : lw_tbl[i]? = some w) (hk : kd w = true) : w ∈ tt := List.mem_filter.mpr ⟨List.mem_of_getElem? h, hk⟩
theorem tt_kd {w : Cond} (h : w ∈ tt) : kd w = true := (List.mem_filter.mp h).2
theorem tb.hts {U : State} (h : tb U) {args : Array Value} : ∀ w ∈ tt, w.before args U = true := fun w hw => kd_warm (tt_kd hw) (State.WarmedH.refl U) (h w hw)
theorem tb.warm {s U : State} (h : tb s) (hW : s.WarmedH U.vm) : tb U := fun w hw => kd_warm (tt_kd hw) hW (h w hw)
theorem tb.calling {U : State} {g : JFrame} {mk : MethodId} {a : Array Value} (h : tb U) : tb (U.calling g mk a) := h.warm (State.WarmedH.refl U)
theorem tb.of {args : Array Value} {s : State} (h : ∀ w ∈ lw_tbl, w.before args s = true) : tb s := fun w hw => kd_warm (tt_kd hw) (State.WarmedH.refl s) (h w (List.mem_filter.mp hw).1)
/-- words by their places in lw_tbl -/
theorem tt_in {ws : List Cond} (ps : List Nat) (hp : ws = ps.filterMap (fun i => lw_tbl[i]?)) (hk : ws.all kd = true) : ∀ w ∈ ws, w ∈ tt := by
  intro w hw
  have hk1 := List.all_eq_true.mp hk w hw
  rw [hp] at hw
  obtain ⟨i, -, hi⟩ := List.mem_filterMap.mp hw
  exact tt_mem i hi hk1
theorem tt_good {ws : List Cond} (hm : ∀ w ∈ ws, w ∈ tt) (h : ws.all goodWord = true) : GoodIn tt ws := fun w hw => ⟨hm w hw, good_of_word (List.all_eq_true.mp h w hw)⟩
/-- a virtual call's five words -/
theorem tt_V {own C : String} {idx : Nat} {y : MethodName} {b : ByteArray} {n : Nat} {r : Option FieldType} (h1 : Cond.methodLink own idx y ∈ tt) (h2 : Cond.instanceMethod y ∈ tt) (h3 : Cond.selects C y y ∈ tt) (h4 : Cond.initialized C ∈ tt) (h5 : Cond.code y b n r ∈ tt) : GoodIn tt (wsV own idx C y [Cond.code y b n r]) := by
  refine tt_good (fun w hw => ?_) rfl
  simp only [wsV, List.cons_append, List.nil_append, List.mem_cons, List.not_mem_nil, or_false] at hw
  rcases hw with rfl | rfl | rfl | rfl | rfl <;> assumption
/-- a static call's four -/
theorem tt_S {own : String} {idx : Nat} {y : MethodName} {b : ByteArray} {n : Nat} {r : Option FieldType} (h1 : Cond.methodLink own idx y ∈ tt) (h2 : Cond.static y ∈ tt) (h3 : Cond.initialized own ∈ tt) (h4 : Cond.code y b n r ∈ tt) : GoodIn tt (wsS own idx y [Cond.code y b n r]) := by
  refine tt_good (fun w hw => ?_) rfl
  simp only [wsS, List.cons_append, List.nil_append, List.mem_cons, List.not_mem_nil, or_false] at hw
  rcases hw with rfl | rfl | rfl | rfl <;> assumption
theorem tt_1 {w : Cond} (h : w ∈ tt) (hg : goodWord w = true) : GoodIn tt [w] := tt_good (fun x hx => by rw [List.mem_singleton.mp hx]; exact h) (by simp [hg])
