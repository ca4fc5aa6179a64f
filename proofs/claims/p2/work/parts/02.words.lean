/-! WORDS: the good ones of the tables; a callee's words among them -/
def wsAll : List Cond := lw_tbl.filter goodWord
theorem gd_all : ∀ w ∈ wsAll, (w.onTables && w.keeps) = true ∨ ∃ ty, w = .arrayClass ty := fun _ h => good_of_word (List.mem_filter.mp h).2
theorem wsAll_tbl : ∀ w ∈ wsAll, w ∈ lw_tbl := fun _ h => (List.mem_filter.mp h).1
theorem wa_of {w : Cond} (i : Nat) (h : lw_tbl[i]? = some w) (g : goodWord w = true) : w ∈ wsAll := List.mem_filter.mpr ⟨List.mem_of_getElem? h, g⟩
theorem gd_in {ws : List Cond} (h : ∀ w ∈ ws, w ∈ wsAll) : GoodIn wsAll ws := fun w hw => ⟨h w hw, gd_all w (h w hw)⟩
theorem gd_C {n : Nat} {y : MethodName} {b : ByteArray} {r : Option FieldType} (h5 : Cond.code y b n r ∈ wsAll) : GoodIn wsAll (Cond.code y b n r :: wsAll) := gd_in fun w hw => (List.mem_cons.mp hw).elim (fun e => by rw [e]; exact h5) id
theorem gd_V {own C : String} {idx n : Nat} {y : MethodName} {b : ByteArray} {r : Option FieldType} (h1 : Cond.methodLink own idx y ∈ wsAll) (h2 : Cond.instanceMethod y ∈ wsAll) (h3 : Cond.selects C y y ∈ wsAll) (h4 : Cond.initialized C ∈ wsAll) (h5 : Cond.code y b n r ∈ wsAll) : GoodIn wsAll (wsV own idx C y (Cond.code y b n r :: wsAll)) := by
  refine gd_in fun w hw => ?_
  simp only [wsV, List.cons_append, List.nil_append, List.mem_cons] at hw
  rcases hw with rfl | rfl | rfl | rfl | rfl | hw
  · exact h1
  · exact h2
  · exact h3
  · exact h4
  · exact h5
  · exact hw
theorem gd_S {own : String} {idx n : Nat} {y : MethodName} {b : ByteArray} {r : Option FieldType} (h1 : Cond.methodLink own idx y ∈ wsAll) (h2 : Cond.static y ∈ wsAll) (h4 : Cond.initialized own ∈ wsAll) (h5 : Cond.code y b n r ∈ wsAll) : GoodIn wsAll (wsS own idx y (Cond.code y b n r :: wsAll)) := by
  refine gd_in fun w hw => ?_
  simp only [wsS, List.cons_append, List.nil_append, List.mem_cons] at hw
  rcases hw with rfl | rfl | rfl | rfl | hw
  · exact h1
  · exact h2
  · exact h4
  · exact h5
  · exact hw
theorem gd_T {own : String} {idx n : Nat} {y : MethodName} {b : ByteArray} {r : Option FieldType} (h1 : Cond.methodLink own idx y ∈ wsAll) (h2 : Cond.static y ∈ wsAll) (h4 : Cond.initialized y.cls ∈ wsAll) (h5 : Cond.code y b n r ∈ wsAll) : GoodIn wsAll (va_wsS own idx y (Cond.code y b n r :: wsAll)) := by
  refine gd_in fun w hw => ?_
  simp only [va_wsS, List.cons_append, List.nil_append, List.mem_cons] at hw
  rcases hw with rfl | rfl | rfl | rfl | hw
  · exact h1
  · exact h2
  · exact h4
  · exact h5
  · exact hw
/-! NEST LINKS: they are no words; every contract carries them -/
def nx (U : State) : Prop := va_Nw (Cond.methodLinkNest "PartFormulas" 11 ⟨"PartFormulas$Reader", "<init>", "()V"⟩ "PartFormulas") U ∧ va_Nw (Cond.methodLinkNest "PartFormulas$Reader" 28 ⟨"PartFormulas$Text", "<init>", "()V"⟩ "PartFormulas") U ∧ va_Nw (Cond.methodLinkNest "PartFormulas$Text" 21 ⟨"PartFormulas$Steps", "<init>", "()V"⟩ "PartFormulas") U ∧ va_Nw (Cond.methodLinkNest "PartFormulas" 18 ⟨"PartFormulas$Text", "<init>", "()V"⟩ "PartFormulas") U ∧ va_Nw (Cond.methodLinkNest "PartFormulas" 39 ⟨"PartFormulas$Cells", "<init>", "()V"⟩ "PartFormulas") U ∧ va_Nw (Cond.methodLinkNest "PartFormulas$Reckoner" 31 ⟨"PartFormulas", "commonDivisor", "(JJ)J"⟩ "PartFormulas") U
theorem nx_warm {s U : State} (hW : s.WarmedH U.vm) (h : nx s) : nx U := ⟨va_Nw.warmM hW h.1, va_Nw.warmM hW h.2.1, va_Nw.warmM hW h.2.2.1, va_Nw.warmM hW h.2.2.2.1, va_Nw.warmM hW h.2.2.2.2.1, va_Nw.warmM hW h.2.2.2.2.2⟩
theorem nx_call (a : Array Value) (U : State) (g : JFrame) (mk : MethodId) (h : nx U) : nx (U.calling g mk a) := ⟨va_Nw.same (u := U) (U := U.calling g mk a) rfl rfl h.1, va_Nw.same (u := U) (U := U.calling g mk a) rfl rfl h.2.1, va_Nw.same (u := U) (U := U.calling g mk a) rfl rfl h.2.2.1, va_Nw.same (u := U) (U := U.calling g mk a) rfl rfl h.2.2.2.1, va_Nw.same (u := U) (U := U.calling g mk a) rfl rfl h.2.2.2.2.1, va_Nw.same (u := U) (U := U.calling g mk a) rfl rfl h.2.2.2.2.2⟩
