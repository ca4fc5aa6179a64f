/-! THE TEXT "whdxyz": old cells that no method of ours writes -/
def sxS (q qv : Nat) (A : Nat → Prop) (U : State) (H : Heap) : Prop := vk_S 1 [6] [[119, 104, 100, 120, 121, 122]] (fun _ => q) (fun _ => qv) A U H
theorem bw_free {A : Nat → Prop} {AL ALc : List (List Nat)} {H0 H : Heap} {locs : List Loc} (hN : bw_N A AL) (hS : va_S A H0 H locs) (hA : ∀ q : Nat, H0.size ≤ q → A q) (isC : List Nat) (hC : isC.map (fun i => AL[i]?) = ALc.map some) : ∀ q, bw_A ALc H.size q → A q := by
  intro q hq
  rcases hq with ⟨i, k, X, hX, hk⟩ | hq
  · have h3 : (isC.map (fun i => AL[i]?))[i]? = some (some X) := by rw [hC, List.getElem?_map, hX]; rfl
    rw [List.getElem?_map] at h3
    cases hi : isC[i]? with
    | none => rw [hi] at h3; cases h3
    | some i' =>
      rw [hi] at h3
      exact hN.2 i' k _ q (Option.some.inj h3) hk
  · exact hA q (Nat.le_trans hS.1 hq)
