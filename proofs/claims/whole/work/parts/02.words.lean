/-! WORDS: the good ones of the tables; a callee's words among them -/
def wsAll : List Cond := lw_tbl.filter goodWord
theorem gd_all : ∀ w ∈ wsAll, (w.onTables && w.keeps) = true ∨ ∃ ty, w = .arrayClass ty := fun _ h => good_of_word (List.mem_filter.mp h).2
theorem wsAll_tbl : ∀ w ∈ wsAll, w ∈ lw_tbl := fun _ h => (List.mem_filter.mp h).1
theorem wa_of {w : Cond} (i : Nat) (h : lw_tbl[i]? = some w) (g : goodWord w = true) : w ∈ wsAll := List.mem_filter.mpr ⟨List.mem_of_getElem? h, g⟩
theorem gd_in {ws : List Cond} (h : ∀ w ∈ ws, w ∈ wsAll) : GoodIn wsAll ws := fun w hw => ⟨h w hw, gd_all w (h w hw)⟩
theorem gd_V {own C : String} {idx n : Nat} {y : MethodName} {b : ByteArray} {r : Option FieldType} (h1 : Cond.methodLink own idx y ∈ wsAll) (h2 : Cond.instanceMethod y ∈ wsAll) (h3 : Cond.selects C y y ∈ wsAll) (h4 : Cond.initialized C ∈ wsAll) (h5 : Cond.code y b n r ∈ wsAll) : GoodIn wsAll (wsV own idx C y (Cond.code y b n r :: wsAll)) := by
  refine gd_in fun w hw => ?_
  simp only [wsV, List.cons_append, List.nil_append, List.mem_cons] at hw
  rcases hw with rfl | rfl | rfl | rfl | rfl | hw
  · exact h1
  · exact h2
  · exact h3
  · exact h4
  · exact h5
  · exact hw
theorem gd_S {own : String} {idx n : Nat} {y : MethodName} {b : ByteArray} {r : Option FieldType} (h1 : Cond.methodLink own idx y ∈ wsAll) (h2 : Cond.static y ∈ wsAll) (h4 : Cond.initialized own ∈ wsAll) (h5 : Cond.code y b n r ∈ wsAll) : GoodIn wsAll (wsS own idx y (Cond.code y b n r :: wsAll)) := by
  refine gd_in fun w hw => ?_
  simp only [wsS, List.cons_append, List.nil_append, List.mem_cons] at hw
  rcases hw with rfl | rfl | rfl | rfl | hw
  · exact h1
  · exact h2
  · exact h4
  · exact h5
  · exact hw
