/-! THE TEXT "whdxyz": old cells that no method of ours writes -/
def sxS (q qv : Nat) (A : Nat → Prop) (U : State) (H : Heap) : Prop := vk_S 1 [6] [[119, 104, 100, 120, 121, 122]] (fun _ => q) (fun _ => qv) A U H ∧ va_Z "java/lang/String" "COMPACT_STRINGS" "Z" (.int 1) A U H
theorem sxS.moved {q qv : Nat} {A : Nat → Prop} {u U : State} {H : Heap} (hvm : u.vm.Alike U.vm) (h : sxS q qv A u H) : sxS q qv A U H := ⟨h.1.moved hvm, h.2.moved hvm⟩
theorem sxS.kept {q qv : Nat} {A : Nat → Prop} {U : State} {H H1 : Heap} (h : sxS q qv A U H) (hq : ∀ a : Nat, a < H.size → ¬ A a → H1[a]? = H[a]?) : sxS q qv A U H1 := ⟨h.1.kept hq, h.2.kept hq⟩
theorem sxS.narrow {q qv : Nat} {A B : Nat → Prop} {U : State} {H : Heap} (h : sxS q qv A U H) (hAB : ∀ q, B q → A q) : sxS q qv B U H := ⟨h.1.narrow hAB, h.2.narrow hAB⟩
theorem bw_free {A : Nat → Prop} {AL ALc : List (List Nat)} {H0 H : Heap} {locs : List Loc} (hN : bw_N A AL) (hS : va_S A H0 H locs) (hA : ∀ q : Nat, H0.size ≤ q → A q) (isC : List Nat) (hC : isC.map (fun i => AL[i]?) = ALc.map some) : ∀ q, bw_A ALc H.size q → A q := by
  intro q hq
  rcases hq with ⟨i, k, X, hX, hk⟩ | hq
  · have h3 : (isC.map (fun i => AL[i]?))[i]? = some (some X) := by rw [hC, List.getElem?_map, hX]; rfl
    rw [List.getElem?_map] at h3
    cases hi : isC[i]? with
    | none => rw [hi] at h3; cases h3
    | some i' =>
      rw [hi] at h3
      exact hN.2 i' k _ q (Option.some.inj h3) hk
  · exact hA q (Nat.le_trans hS.1 hq)
/-- the text's cells are old, and apart from what may change -/
def sx (A : Nat → Prop) (U : State) : Prop := ∃ q qv : Nat, vk_R R_Reader 99 "whdxyz" q U ∧ sxS q qv A U U.heap
def nxs (A : Nat → Prop) (U : State) : Prop := nx U ∧ sx A U
theorem sx_call {s U : State} {A : Nat → Prop} {AL ALc : List (List Nat)} {H : Heap} {locs : List Loc} (h : sx A s) (hS : va_S A s.heap H locs) (hN : bw_N A AL) (hA : ∀ q : Nat, s.heap.size ≤ q → A q) (isC : List Nat) (hC : isC.map (fun i => AL[i]?) = ALc.map some) (hU : U.heap = H) (hW : s.WarmedH U.vm) : sx (bw_A ALc H.size) U := by
  obtain ⟨q, qv, h1, h2⟩ := h
  refine ⟨q, qv, h1.warm hW, ?_⟩
  rw [hU]
  exact ((h2.kept (fun a ha hn => hS.2.1 a ha hn)).moved hW.alike).narrow (bw_free hN hS hA isC hC)
theorem nxs_call {A : Nat → Prop} (a : Array Value) (U : State) (g : JFrame) (mk : MethodId) (h : nxs A U) : nxs A (U.calling g mk a) := by
  obtain ⟨h1, q, qv, h2, h3⟩ := h
  exact ⟨nx_call a U g mk h1, q, qv, vk_R.same (u := U) (U := U.calling g mk a) rfl h2, sxS.moved (u := U) (U := U.calling g mk a) (Vm.Alike.refl U.vm) h3⟩
/-- a JDK method's start: its arguments, and the text -/
def strP (av : List Value) (q qv : Nat) : Array Value → State → Prop := fun v U => v = av.toArray ∧ sxS q qv (fun _ => False) U U.heap
theorem str_blind {av : List Value} {q qv : Nat} : FrameBlind (strP av q qv) := by
  intro a U g mk h
  exact ⟨h.1, sxS.moved (u := U) (U := U.calling g mk a) (Vm.Alike.refl U.vm) h.2⟩
theorem str_fact {av : List Value} {q qv : Nat} {s : State} (h : sxS q qv (fun _ => False) s s.heap) : ∀ U : State, U.heap = s.heap → s.WarmedH U.vm → strP av q qv av.toArray U := fun U hU hW => ⟨rfl, by rw [hU]; exact h.moved hW.alike⟩
theorem strX_pre {q qv : Nat} {s : State} {A : Nat → Prop} {H : Heap} {locs : List Loc} {As : List Value} (h : sxS q qv A s s.heap) (hS : va_S A s.heap H locs) : PreV s H "java/lang/String" q (strP (.ref q :: As) q qv) As := by
  refine ⟨str_blind, vk_recv (i := 0) h.1 (by decide) hS, fun U hU hW => ⟨rfl, ?_⟩⟩
  rw [hU]
  exact ((h.kept (fun a ha hn => hS.2.1 a ha hn)).moved hW.alike).narrow (fun _ z => z.elim)
def idxB (c : Int32) : Int32 := if 119 = c then 0 else if 104 = c then 1 else if 100 = c then 2 else if 120 = c then 3 else if 121 = c then 4 else if 122 = c then 5 else -1
def idxOf (x : Int32) : Int32 := if x < 0 then -1 else if 255 < x then -1 else idxB (i2b x)
