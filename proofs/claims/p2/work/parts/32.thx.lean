/-! WHAT A THROW STANDS ON: words that are not good, and the texts; kept under warming by what thx says -/
def exN (k : Nat) : String := match k with
  | 1 => "java/lang/IllegalStateException"
  | 2 => "java/lang/IllegalArgumentException"
  | 3 => "java/lang/IndexOutOfBoundsException"
  | _ => ""
def pln {α : Type} (x : Option α) : Option (Nat × α) := x.map (fun r => (0, r))
theorem pln_some {α : Type} {x : Option α} {r : α} (h : pln x = some (0, r)) : x = some r := by
  cases x with
  | none => cases h
  | some y => exact congrArg some (congrArg Prod.snd (Option.some.inj h))
theorem pln_0 {α : Type} {x : Option α} {k : Nat} {r : α} (h : pln x = some (k, r)) : k = 0 := by
  cases x with
  | none => cases h
  | some y => exact (congrArg Prod.fst (Option.some.inj h)).symm
theorem thr_eq {α : Type} {k : Nat} {a b : α} (h : some (k, a) = some (0, b)) : k = 0 := congrArg Prod.fst (Option.some.inj h)
theorem thr_ne {α : Type} {k : Nat} {a b : α} (h : some (k + 1, a) = some (0, b)) : False := Nat.succ_ne_zero k (thr_eq h)
def thW : List Cond := ((Bundle.ownAtoms R_PF 139 "java/lang/IllegalStateException" ["java/lang/RuntimeException", "java/lang/Exception"]) ++ (Bundle.ownAtoms R_PF 97 "java/lang/IllegalArgumentException" ["java/lang/RuntimeException", "java/lang/Exception"]) ++ (Bundle.ownAtoms R_PF 194 "java/lang/IndexOutOfBoundsException" ["java/lang/RuntimeException", "java/lang/Exception"])).filter (fun w => !goodWord w)
def thxB (u : State) : Prop := (∀ w ∈ thW, ∀ a : Array Value, w.before a u = true) ∧ (∃ q, vk_R R_PF 95 "an option\'s fraction is out of bounds" q u) ∧ (∃ q, vk_R R_PF 137 "the cell has no value" q u) ∧ (∃ q, vk_R R_PF 164 "steps are 0 to 50" q u) ∧ (∃ q, vk_R R_PF 180 "there is no room for another version" q u) ∧ (∃ q, vk_R R_PF 186 "nothing was read" q u) ∧ (∃ q, vk_R R_PF 188 "nothing was worked out" q u) ∧ (∃ q, vk_R R_PF 192 "there is no such option, part, measure, cell or version" q u) ∧ (∃ q, vk_R R_PF 195 "the number is below 0" q u) ∧ (∃ q, vk_R R_PF 197 "the number is neither 0 nor 1" q u)
def thx (s : State) : Prop := ∀ u : State, s.WarmedH u.vm → u.heap = s.heap → thxB u
def thn (U : State) : Prop := nx U ∧ thx U
theorem thx_warm {s U : State} (hW : s.WarmedH U.vm) (hU : U.heap = s.heap) (h : thx s) : thx U := fun u h1 h2 => h u (State.WarmedH.trans hW h1) (h2.trans hU)
theorem thx_call (a : Array Value) (U : State) (g : JFrame) (mk : MethodId) (h : thn U) : thn (U.calling g mk a) := ⟨nx_call a U g mk h.1, fun u h1 h2 => h.2 u h1 h2⟩
theorem thx_s0 {s : State} (h : thx s) : ∃ q, vk_R R_PF 95 "an option\'s fraction is out of bounds" q s := (h s (State.WarmedH.refl s) rfl).2.1
theorem thx_s1 {s : State} (h : thx s) : ∃ q, vk_R R_PF 137 "the cell has no value" q s := (h s (State.WarmedH.refl s) rfl).2.2.1
theorem thx_s2 {s : State} (h : thx s) : ∃ q, vk_R R_PF 164 "steps are 0 to 50" q s := (h s (State.WarmedH.refl s) rfl).2.2.2.1
theorem thx_s3 {s : State} (h : thx s) : ∃ q, vk_R R_PF 180 "there is no room for another version" q s := (h s (State.WarmedH.refl s) rfl).2.2.2.2.1
theorem thx_s4 {s : State} (h : thx s) : ∃ q, vk_R R_PF 186 "nothing was read" q s := (h s (State.WarmedH.refl s) rfl).2.2.2.2.2.1
theorem thx_s5 {s : State} (h : thx s) : ∃ q, vk_R R_PF 188 "nothing was worked out" q s := (h s (State.WarmedH.refl s) rfl).2.2.2.2.2.2.1
theorem thx_s6 {s : State} (h : thx s) : ∃ q, vk_R R_PF 192 "there is no such option, part, measure, cell or version" q s := (h s (State.WarmedH.refl s) rfl).2.2.2.2.2.2.2.1
theorem thx_s7 {s : State} (h : thx s) : ∃ q, vk_R R_PF 195 "the number is below 0" q s := (h s (State.WarmedH.refl s) rfl).2.2.2.2.2.2.2.2.1
theorem thx_s8 {s : State} (h : thx s) : ∃ q, vk_R R_PF 197 "the number is neither 0 nor 1" q s := (h s (State.WarmedH.refl s) rfl).2.2.2.2.2.2.2.2.2
theorem at_ok1 : (Bundle.ownAtoms R_PF 139 "java/lang/IllegalStateException" ["java/lang/RuntimeException", "java/lang/Exception"]).all (fun w => !goodWord w || decide (w ∈ lw_tbl)) = true := by decide +kernel
theorem at_1 {s : State} {args : Array Value} (hts : ∀ w ∈ wsAll, w.before args s = true) (h : thx s) : ∀ w ∈ Bundle.ownAtoms R_PF 139 "java/lang/IllegalStateException" ["java/lang/RuntimeException", "java/lang/Exception"], w.before args s = true := by
  intro w hw
  have h1 := List.all_eq_true.mp at_ok1 w hw
  cases hg : goodWord w with
  | true =>
    rw [hg] at h1
    exact hts w (List.mem_filter.mpr ⟨of_decide_eq_true (by simpa using h1), hg⟩)
  | false => exact (h s (State.WarmedH.refl s) rfl).1 w (List.mem_filter.mpr ⟨by simp only [List.mem_append]; exact Or.inl (Or.inl hw), by rw [hg]; rfl⟩) args
theorem at_ok2 : (Bundle.ownAtoms R_PF 97 "java/lang/IllegalArgumentException" ["java/lang/RuntimeException", "java/lang/Exception"]).all (fun w => !goodWord w || decide (w ∈ lw_tbl)) = true := by decide +kernel
theorem at_2 {s : State} {args : Array Value} (hts : ∀ w ∈ wsAll, w.before args s = true) (h : thx s) : ∀ w ∈ Bundle.ownAtoms R_PF 97 "java/lang/IllegalArgumentException" ["java/lang/RuntimeException", "java/lang/Exception"], w.before args s = true := by
  intro w hw
  have h1 := List.all_eq_true.mp at_ok2 w hw
  cases hg : goodWord w with
  | true =>
    rw [hg] at h1
    exact hts w (List.mem_filter.mpr ⟨of_decide_eq_true (by simpa using h1), hg⟩)
  | false => exact (h s (State.WarmedH.refl s) rfl).1 w (List.mem_filter.mpr ⟨by simp only [List.mem_append]; exact Or.inl (Or.inr hw), by rw [hg]; rfl⟩) args
theorem at_ok3 : (Bundle.ownAtoms R_PF 194 "java/lang/IndexOutOfBoundsException" ["java/lang/RuntimeException", "java/lang/Exception"]).all (fun w => !goodWord w || decide (w ∈ lw_tbl)) = true := by decide +kernel
theorem at_3 {s : State} {args : Array Value} (hts : ∀ w ∈ wsAll, w.before args s = true) (h : thx s) : ∀ w ∈ Bundle.ownAtoms R_PF 194 "java/lang/IndexOutOfBoundsException" ["java/lang/RuntimeException", "java/lang/Exception"], w.before args s = true := by
  intro w hw
  have h1 := List.all_eq_true.mp at_ok3 w hw
  cases hg : goodWord w with
  | true =>
    rw [hg] at h1
    exact hts w (List.mem_filter.mpr ⟨of_decide_eq_true (by simpa using h1), hg⟩)
  | false => exact (h s (State.WarmedH.refl s) rfl).1 w (List.mem_filter.mpr ⟨by simp only [List.mem_append]; exact Or.inr hw, by rw [hg]; rfl⟩) args
