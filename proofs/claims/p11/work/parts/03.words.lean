/-- all words of the tables that outlive a call: every method's contract stands over them -/
def GW : List Cond := lw_tbl.filter goodWord
theorem GW_in {w : Cond} (h : w ∈ GW) : w ∈ lw_tbl := (List.mem_filter.mp h).1
theorem GW_of {w : Cond} (i : Nat) (h : lw_tbl[i]? = some w) (hg : goodWord w = true) : w ∈ GW := List.mem_filter.mpr ⟨List.mem_of_getElem? h, hg⟩
theorem gw_key {x w : Cond} (hw : w ∈ GW) : w ∈ x :: GW ∧ ((w.onTables && w.keeps) = true ∨ ∃ ty, w = .arrayClass ty) := ⟨List.mem_cons_of_mem _ hw, good_of_word (List.mem_filter.mp hw).2⟩
theorem gw_V {x : Cond} {own : String} {idx : Nat} {C : String} {y : MethodName} {b : ByteArray} {n : Nat} {r : Option FieldType} (h1 : Cond.methodLink own idx y ∈ GW) (h2 : Cond.instanceMethod y ∈ GW) (h3 : Cond.selects C y y ∈ GW) (h4 : Cond.initialized C ∈ GW) (h5 : Cond.code y b n r ∈ GW) : GoodIn (x :: GW) (wsV own idx C y (Cond.code y b n r :: GW)) := by
  intro w hw
  simp only [wsV, List.cons_append, List.nil_append, List.mem_cons] at hw
  rcases hw with rfl | rfl | rfl | rfl | rfl | hw
  · exact gw_key h1
  · exact gw_key h2
  · exact gw_key h3
  · exact gw_key h4
  · exact gw_key h5
  · exact gw_key hw
theorem gw_S {x : Cond} {own : String} {idx : Nat} {y : MethodName} {b : ByteArray} {n : Nat} {r : Option FieldType} (h1 : Cond.methodLink own idx y ∈ GW) (h2 : Cond.static y ∈ GW) (h4 : Cond.initialized y.cls ∈ GW) (h5 : Cond.code y b n r ∈ GW) : GoodIn (x :: GW) (va_wsS own idx y (Cond.code y b n r :: GW)) := by
  intro w hw
  simp only [va_wsS, List.cons_append, List.nil_append, List.mem_cons] at hw
  rcases hw with rfl | rfl | rfl | rfl | hw
  · exact gw_key h1
  · exact gw_key h2
  · exact gw_key h4
  · exact gw_key h5
  · exact gw_key hw
theorem gw_C {x : Cond} {y : MethodName} {b : ByteArray} {n : Nat} {r : Option FieldType} (h5 : Cond.code y b n r ∈ GW) : GoodIn (x :: GW) (Cond.code y b n r :: GW) := by
  intro w hw
  rcases List.mem_cons.mp hw with rfl | hw
  · exact gw_key h5
  · exact gw_key hw
theorem gi {x : Cond} {ws : List Cond} (h : ∀ w ∈ ws, w ∈ GW) : ∀ w ∈ ws, w ∈ x :: GW := fun w hw => List.mem_cons_of_mem _ (h w hw)
theorem gw_u {ws : List Cond} (ps : List Nat) (hp : ws = ps.filterMap (fun i => lw_tbl[i]?)) (h : ws.all goodWord = true) : ∀ w ∈ ws, w ∈ GW := by
  intro w hw
  have h1 := List.all_eq_true.mp h w hw
  rw [hp] at hw
  obtain ⟨i, -, hi⟩ := List.mem_filterMap.mp hw
  exact GW_of i hi h1
theorem gu_X0 : ∀ w ∈ wsX00, w ∈ GW := gw_u [160, 162, 164, 166, 168, 170] (by decide +kernel) (by decide +kernel)
theorem gu_X1 : ∀ w ∈ wsX10, w ∈ GW := gw_u [105, 107, 109, 111] (by decide +kernel) (by decide +kernel)
theorem gu_X2 : ∀ w ∈ wsX20, w ∈ GW := gw_u [196, 198, 200, 202, 204, 206, 208, 210, 212, 214, 216, 218, 220, 222] (by decide +kernel) (by decide +kernel)
theorem gu_X3 : ∀ w ∈ wsX30, w ∈ GW := gw_u [97] (by decide +kernel) (by decide +kernel)
theorem gu_X4 : ∀ w ∈ wsX40, w ∈ GW := gw_u [76] (by decide +kernel) (by decide +kernel)
theorem gu_X5 : ∀ w ∈ wsX50, w ∈ GW := gw_u [131, 133, 135, 137, 139, 141, 143] (by decide +kernel) (by decide +kernel)
theorem gu_X6 : ∀ w ∈ wsX60, w ∈ GW := gw_u [235, 237] (by decide +kernel) (by decide +kernel)
theorem gu_X7 : ∀ w ∈ wsX70, w ∈ GW := gw_u [249, 251, 253, 255, 257, 259, 261, 263, 265] (by decide +kernel) (by decide +kernel)
theorem gu_X8 : ∀ w ∈ wsX80, w ∈ GW := gw_u [741, 743, 745, 747, 749, 751, 753, 755, 757, 759, 761, 763, 765, 767, 769, 771, 773, 775, 777, 779, 781, 783, 785, 787, 789, 791, 793, 795, 797, 799] (by decide +kernel) (by decide +kernel)
