/-! THE LAW'S ROWS: what it stands on; flat worlds into blocks -/
/-- the words of a throw hold in every later state in which the old cells are as they were -/
def thy (s : State) : Prop := ∀ u : State, s.WarmedH u.vm → (∀ q : Nat, q < s.heap.size → u.heap[q]? = s.heap[q]?) → thxB u
theorem thy_x {s U : State} {A : Nat → Prop} {H : Heap} {locs : List Loc} (h : thy s) (hS : va_S A s.heap H locs) (hAs : ∀ q : Nat, A q → s.heap.size ≤ q) (hW : s.WarmedH U.vm) (hU : U.heap = H) : thx U := fun u h1 h2 => h u (State.WarmedH.trans hW h1) (fun q hq => by rw [h2, hU]; exact hS.2.1 q hq (fun z => absurd (hAs q z) (Nat.not_le.mpr hq)))
theorem inb4 {x : Int32} (h : inb x 4 = true) : x = 0 ∨ x = 1 ∨ x = 2 ∨ x = 3 := by
  simp only [inb, Bool.and_eq_true, decide_eq_true_eq] at h
  obtain ⟨h1, h2⟩ := h
  have h3 : (0 : Int) ≤ x.toInt := by simpa using Int32.le_iff_toInt_le.mp h1
  have h4 : x.toInt.toNat < 4 := h2
  have h5 : x.toInt = 0 ∨ x.toInt = 1 ∨ x.toInt = 2 ∨ x.toInt = 3 := by omega
  rcases h5 with h | h | h | h
  · exact Or.inl (Int32.toInt_inj.mp h)
  · exact Or.inr (Or.inl (Int32.toInt_inj.mp h))
  · exact Or.inr (Or.inr (Or.inl (Int32.toInt_inj.mp h)))
  · exact Or.inr (Or.inr (Or.inr (Int32.toInt_inj.mp h)))
/-- places, numbered -/
def ckp (pos : Nat → Nat × Nat) (iss : List (List Nat)) : Bool := iss.zipIdx.all fun q => q.1.zipIdx.all fun r => pos r.1 == (q.2, r.2)
theorem ckp_at {pos : Nat → Nat × Nat} {iss : List (List Nat)} (h : ckp pos iss = true) {i k j : Nat} {is : List Nat} (h1 : iss[i]? = some is) (h2 : is[k]? = some j) : pos j = (i, k) := by
  have h3 := List.all_eq_true.mp h (is, i) (List.mem_zipIdx_iff_getElem?.mpr h1)
  have h4 := List.all_eq_true.mp h3 (j, k) (List.mem_zipIdx_iff_getElem?.mpr h2)
  exact eq_of_beq h4
theorem bn_at {ws : va_W} {L : List va_W} {iss : List (List Nat)} (hs : iss.map (fun is => is.map (fun i => ws[i]?)) = L.map (fun B => B.map some)) {i k : Nat} {B : va_W} {x : Nat × va_E} (h1 : L[i]? = some B) (h2 : B[k]? = some x) : ∃ is j, iss[i]? = some is ∧ is[k]? = some j ∧ ws[j]? = some x := by
  have h3 : (iss.map (fun is => is.map (fun i => ws[i]?)))[i]? = some (B.map some) := by rw [hs, List.getElem?_map, h1]; rfl
  rw [List.getElem?_map] at h3
  cases hi : iss[i]? with
  | none => rw [hi] at h3; cases h3
  | some is =>
    rw [hi] at h3
    have h4 : is.map (fun i => ws[i]?) = B.map some := Option.some.inj h3
    have h5 : (is.map (fun i => ws[i]?))[k]? = some (some x) := by rw [h4, List.getElem?_map, h2]; rfl
    rw [List.getElem?_map] at h5
    cases hk : is[k]? with
    | none => rw [hk] at h5; cases h5
    | some j => rw [hk] at h5; exact ⟨is, j, rfl, hk, Option.some.inj h5⟩
theorem bn_splitP {D : va_G} {cl : List vw_C} {ws : va_W} {H : Heap} (hP : va_P D cl ws H) {L : List va_W} (iss : List (List Nat)) (hs : iss.map (fun is => is.map (fun i => ws[i]?)) = L.map (fun B => B.map some)) : bw_P D cl L H := by
  intro i B hB k x hx
  obtain ⟨is, j, -, -, h3⟩ := bn_at hs hB hx
  exact hP j x h3
theorem bn_splitN {A : Nat → Prop} {ws : va_W} (hD : va_D A ws) {L : List va_W} (pos : Nat → Nat × Nat) (iss : List (List Nat)) (hp : ckp pos iss = true) (hs : iss.map (fun is => is.map (fun i => ws[i]?)) = L.map (fun B => B.map some)) : bw_N A (bw_ad L) := by
  have key : ∀ (i k : Nat) (X : List Nat) (a : Nat), (bw_ad L)[i]? = some X → X[k]? = some a → ∃ (j : Nat) (e : va_E), ws[j]? = some (a, e) ∧ pos j = (i, k) := by
    intro i k X a hX hk
    obtain ⟨B, hB, rfl⟩ := bw_at_ad hX
    obtain ⟨e, he⟩ := bw_fst' hk
    obtain ⟨is, j, h1, h2, h3⟩ := bn_at hs hB he
    exact ⟨j, e, h3, ckp_at hp h1 h2⟩
  refine ⟨fun i j k k' X Y a hX hY hk hk' => ?_, fun i k X a hX hk => ?_⟩
  · obtain ⟨j1, e1, w1, p1⟩ := key i k X a hX hk
    obtain ⟨j2, e2, w2, p2⟩ := key j k' Y a hY hk'
    have h := hD.1 j1 j2 _ _ w1 w2 rfl
    subst h
    have h2 := p1.symm.trans p2
    exact ⟨congrArg Prod.fst h2, congrArg Prod.snd h2⟩
  · obtain ⟨j1, e1, w1, -⟩ := key i k X a hX hk
    exact hD.2 j1 _ w1
theorem flat_mem {L : List va_W} {j k : Nat} {Y : va_W} {x : Nat × va_E} (h1 : L[j]? = some Y) (h2 : Y[k]? = some x) : ∃ n : Nat, L.flatten[n]? = some x :=
  List.getElem?_of_mem (List.mem_flatten.mpr ⟨Y, List.mem_of_getElem? h1, List.mem_of_getElem? h2⟩)
theorem bn_flatP {D : va_G} {cl : List vw_C} {L : List va_W} {H : Heap} (hP : va_P D cl L.flatten H) : bw_P D cl L H := by
  intro i B hB k x hx
  obtain ⟨n, hn⟩ := flat_mem hB hx
  exact hP n x hn
theorem bn_flatN {A : Nat → Prop} : ∀ {L : List va_W}, va_D A L.flatten → bw_N A (bw_ad L)
  | [], _ => ⟨fun i j k k' X Y a hX => by simp [bw_ad] at hX, fun i k X a hX => by simp [bw_ad] at hX⟩
  | B :: L, hD => by
    have hfl : (B :: L).flatten = B ++ L.flatten := rfl
    rw [hfl] at hD
    have hB : va_D A B := ⟨fun i j x y hx hy e => hD.1 i j x y (by rw [List.getElem?_append_left (List.getElem?_eq_some_iff.mp hx).1]; exact hx) (by rw [List.getElem?_append_left (List.getElem?_eq_some_iff.mp hy).1]; exact hy) e, fun k x hx => hD.2 k x (by rw [List.getElem?_append_left (List.getElem?_eq_some_iff.mp hx).1]; exact hx)⟩
    have rt : ∀ (n : Nat) (x : Nat × va_E), L.flatten[n]? = some x → (B ++ L.flatten)[B.length + n]? = some x := fun n x h => by
      rw [List.getElem?_append_right (Nat.le_add_right _ _), Nat.add_sub_cancel_left]; exact h
    have hL : va_D A L.flatten := ⟨fun i j x y hx hy e => by have := hD.1 _ _ x y (rt i x hx) (rt j y hy) e; omega, fun k x hx => hD.2 _ x (rt k x hx)⟩
    have ih := bn_flatN hL
    have apart : ∀ (k j k' : Nat) (Y : List Nat) (a : Nat), (B.map (·.1))[k]? = some a → (bw_ad L)[j]? = some Y → Y[k']? = some a → False := by
      intro k j k' Y a h1 h2 h3
      obtain ⟨e1, q1⟩ := bw_fst' h1
      obtain ⟨Y0, hY, rfl⟩ := bw_at_ad h2
      obtain ⟨e2, q2⟩ := bw_fst' h3
      obtain ⟨n, hn⟩ := flat_mem hY q2
      have hk := (List.getElem?_eq_some_iff.mp q1).1
      have := hD.1 k _ (a, e1) (a, e2) (by rw [List.getElem?_append_left hk]; exact q1) (rt n _ hn) rfl
      omega
    refine ⟨fun i j k k' X Y a hX hY hk hk' => ?_, fun i k X a hX hk => ?_⟩
    · rcases i with _ | i <;> rcases j with _ | j
      · have hX : some (B.map (·.1)) = some X := hX
        have hY : some (B.map (·.1)) = some Y := hY
        cases hX
        cases hY
        obtain ⟨e1, q1⟩ := bw_fst' hk
        obtain ⟨e2, q2⟩ := bw_fst' hk'
        exact ⟨rfl, hB.1 k k' _ _ q1 q2 rfl⟩
      · have hX : some (B.map (·.1)) = some X := hX
        cases hX
        exact (apart k j k' Y a hk hY hk').elim
      · have hY : some (B.map (·.1)) = some Y := hY
        cases hY
        exact (apart k' i k X a hk' hX hk).elim
      · obtain ⟨e1, e2⟩ := ih.1 i j k k' X Y a hX hY hk hk'
        exact ⟨by rw [e1], e2⟩
    · rcases i with _ | i
      · have hX : some (B.map (·.1)) = some X := hX
        cases hX
        obtain ⟨e1, q1⟩ := bw_fst' hk
        exact hB.2 k _ q1
      · exact ih.2 i k X a hX hk
