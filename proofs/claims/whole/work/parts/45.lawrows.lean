/-! THE LAW'S ROWS: what it stands on; flat worlds into blocks -/
/-- the words of a throw hold in every later state in which the old cells are as they were -/
def thy (s : State) : Prop := ∀ u : State, s.WarmedH u.vm → (∀ q : Nat, q < s.heap.size → u.heap[q]? = s.heap[q]?) → thxB u
theorem thy_x {s U : State} {A : Nat → Prop} {H : Heap} {locs : List Loc} (h : thy s) (hS : va_S A s.heap H locs) (hAs : ∀ q : Nat, A q → s.heap.size ≤ q) (hW : s.WarmedH U.vm) (hU : U.heap = H) : thx U := fun u h1 h2 => h u (State.WarmedH.trans hW h1) (fun q hq => by rw [h2, hU]; exact hS.2.1 q hq (fun z => absurd (hAs q z) (Nat.not_le.mpr hq)))
theorem inb4 {x : Int32} (h : inb x 4 = true) : x = 0 ∨ x = 1 ∨ x = 2 ∨ x = 3 := by
  simp only [inb, Bool.and_eq_true, decide_eq_true_eq] at h
  obtain ⟨h1, h2⟩ := h
  have h3 : (0 : Int) ≤ x.toInt := by simpa using Int32.le_iff_toInt_le.mp h1
  have h4 : x.toInt.toNat < 4 := h2
  have h5 : x.toInt = 0 ∨ x.toInt = 1 ∨ x.toInt = 2 ∨ x.toInt = 3 := by omega
  rcases h5 with h | h | h | h
  · exact Or.inl (Int32.toInt_inj.mp h)
  · exact Or.inr (Or.inl (Int32.toInt_inj.mp h))
  · exact Or.inr (Or.inr (Or.inl (Int32.toInt_inj.mp h)))
  · exact Or.inr (Or.inr (Or.inr (Int32.toInt_inj.mp h)))
/-- places, numbered -/
def ckp (pos : Nat → Nat × Nat) (iss : List (List Nat)) : Bool := iss.zipIdx.all fun q => q.1.zipIdx.all fun r => pos r.1 == (q.2, r.2)
theorem ckp_at {pos : Nat → Nat × Nat} {iss : List (List Nat)} (h : ckp pos iss = true) {i k j : Nat} {is : List Nat} (h1 : iss[i]? = some is) (h2 : is[k]? = some j) : pos j = (i, k) := by
  have h3 := List.all_eq_true.mp h (is, i) (List.mem_zipIdx_iff_getElem?.mpr h1)
  have h4 := List.all_eq_true.mp h3 (j, k) (List.mem_zipIdx_iff_getElem?.mpr h2)
  exact eq_of_beq h4
theorem bn_at {ws : va_W} {L : List va_W} {iss : List (List Nat)} (hs : iss.map (fun is => is.map (fun i => ws[i]?)) = L.map (fun B => B.map some)) {i k : Nat} {B : va_W} {x : Nat × va_E} (h1 : L[i]? = some B) (h2 : B[k]? = some x) : ∃ is j, iss[i]? = some is ∧ is[k]? = some j ∧ ws[j]? = some x := by
  have h3 : (iss.map (fun is => is.map (fun i => ws[i]?)))[i]? = some (B.map some) := by rw [hs, List.getElem?_map, h1]; rfl
  rw [List.getElem?_map] at h3
  cases hi : iss[i]? with
  | none => rw [hi] at h3; cases h3
  | some is =>
    rw [hi] at h3
    have h4 : is.map (fun i => ws[i]?) = B.map some := Option.some.inj h3
    have h5 : (is.map (fun i => ws[i]?))[k]? = some (some x) := by rw [h4, List.getElem?_map, h2]; rfl
    rw [List.getElem?_map] at h5
    cases hk : is[k]? with
    | none => rw [hk] at h5; cases h5
    | some j => rw [hk] at h5; exact ⟨is, j, rfl, hk, Option.some.inj h5⟩
theorem bn_splitP {D : va_G} {cl : List vw_C} {ws : va_W} {H : Heap} (hP : va_P D cl ws H) {L : List va_W} (iss : List (List Nat)) (hs : iss.map (fun is => is.map (fun i => ws[i]?)) = L.map (fun B => B.map some)) : bw_P D cl L H := by
  intro i B hB k x hx
  obtain ⟨is, j, -, -, h3⟩ := bn_at hs hB hx
  exact hP j x h3
theorem bn_splitN {A : Nat → Prop} {ws : va_W} (hD : va_D A ws) {L : List va_W} (pos : Nat → Nat × Nat) (iss : List (List Nat)) (hp : ckp pos iss = true) (hs : iss.map (fun is => is.map (fun i => ws[i]?)) = L.map (fun B => B.map some)) : bw_N A (bw_ad L) := by
  have key : ∀ (i k : Nat) (X : List Nat) (a : Nat), (bw_ad L)[i]? = some X → X[k]? = some a → ∃ (j : Nat) (e : va_E), ws[j]? = some (a, e) ∧ pos j = (i, k) := by
    intro i k X a hX hk
    obtain ⟨B, hB, rfl⟩ := bw_at_ad hX
    obtain ⟨e, he⟩ := bw_fst' hk
    obtain ⟨is, j, h1, h2, h3⟩ := bn_at hs hB he
    exact ⟨j, e, h3, ckp_at hp h1 h2⟩
  refine ⟨fun i j k k' X Y a hX hY hk hk' => ?_, fun i k X a hX hk => ?_⟩
  · obtain ⟨j1, e1, w1, p1⟩ := key i k X a hX hk
    obtain ⟨j2, e2, w2, p2⟩ := key j k' Y a hY hk'
    have h := hD.1 j1 j2 _ _ w1 w2 rfl
    subst h
    have h2 := p1.symm.trans p2
    exact ⟨congrArg Prod.fst h2, congrArg Prod.snd h2⟩
  · obtain ⟨j1, e1, w1, -⟩ := key i k X a hX hk
    exact hD.2 j1 _ w1
