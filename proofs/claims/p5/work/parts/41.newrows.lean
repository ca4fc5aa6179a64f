/-! CONSTRUCTORS: flat worlds; the object's own cell first, what it makes behind it -/
def ob0 : Ob := (fun _ _ => 0, fun _ _ => 0)
/-- the start of a constructor: its object is there, its fields are 0 and null -/
def bn_Pc (h0 : Nat) (e0 : va_E) (ct dC : Nat → ClassId) (dI : Nat → Nat → Nat) (sz : Nat) : Array Value → State → Prop := fun v U =>
  v = [Value.ref h0].toArray ∧ U.heap.size = sz ∧ va_P (dC, dI) vwCl [(h0, e0)] U.heap ∧ va_K (dC, dI) vwCl (tyA ct) U ∧ nx U ∧ va_AO "PartFormulas$Cells" U
/-- its end: the cells F u, all of them its object or new -/
def bn_B (ct dC : Nat → ClassId) (dI : Nat → Nat → Nat) (F : (Nat → Nat → Nat) → va_W) (A : Nat → Prop) : (Nat → Nat → Nat) → State → Prop := fun u t =>
  va_P (dC, dI) vwCl (F u) t.heap ∧ va_D A (F u)
def bn_Q (h0 : Nat) (ct dC : Nat → ClassId) (dI : Nat → Nat → Nat) (F : (Nat → Nat → Nat) → va_W) (A : Nat → Prop) : Array Value → State → Outcome → State → Prop :=
  va_Qv (fun u : Nat → Nat → Nat => u 0 0 = h0) (bn_B ct dC dI F A) A
theorem bn_blind {h0 : Nat} {e0 : va_E} {ct dC : Nat → ClassId} {dI : Nat → Nat → Nat} {sz : Nat} : FrameBlind (bn_Pc h0 e0 ct dC dI sz) := by
  intro a U g mk h
  obtain ⟨h1, h2, h3, h4, h5, h6⟩ := h
  exact ⟨h1, h2, h3, va_K.moved (u := U) (U := U.calling g mk a) (Vm.Alike.refl U.vm) h4, nx_call a U g mk h5, va_AO.moved (u := U) (U := U.calling g mk a) (Vm.Alike.refl U.vm) h6⟩
theorem bn_pre {s : State} {H : Heap} {q : Nat} {e0 : va_E} {ct dC : Nat → ClassId} {dI : Nat → Nat → Nat} {wr : va_W} (hP : va_P (dC, dI) vwCl (wr ++ [(q, e0)]) H) (hK : va_K (dC, dI) vwCl (tyA ct) s) (hnx : nx s) (hao : va_AO "PartFormulas$Cells" s) : PreS s H (bn_Pc q e0 ct dC dI H.size) [.ref q] := by
  refine ⟨bn_blind, fun U hU hW => ⟨rfl, by rw [hU], ?_, va_K.moved hW.alike hK, nx_warm hW hnx, va_AO.moved hW.alike hao⟩⟩
  rw [hU]
  intro k x hx
  have hk : k < 1 := (List.getElem?_eq_some_iff.mp hx).1
  rw [show k = 0 by omega] at hx
  exact hP wr.length x (by rw [List.getElem?_append_right (Nat.le_refl _), Nat.sub_self]; exact hx)
theorem bn_D1 {A : Nat → Prop} {q : Nat} {e0 : va_E} (h : A q) : va_D A [(q, e0)] := by
  refine ⟨fun i j x y hx hy _ => ?_, fun k x hx => ?_⟩
  · have hi : i < 1 := (List.getElem?_eq_some_iff.mp hx).1
    have hj : j < 1 := (List.getElem?_eq_some_iff.mp hy).1
    omega
  · have hk : k < 1 := (List.getElem?_eq_some_iff.mp hx).1
    rw [show k = 0 by omega] at hx
    have e1 : (q, e0) = x := Option.some.inj hx
    rw [← e1]
    exact h
theorem bn_join {A : Nat → Prop} {D : va_G} {cl : List vw_C} {wr w1 : va_W} {q : Nat} {e0 : va_E} {H H1 : Heap} (hP : va_P D cl (wr ++ [(q, e0)]) H) (hD : va_D A (wr ++ [(q, e0)])) (hk : ∀ x : Nat, x < H.size → ¬ va_A [(q, e0)] H.size x → H1[x]? = H[x]?) (hF : ∀ x, va_A [(q, e0)] H.size x → A x) (hP1 : va_P D cl w1 H1) (hD1 : va_D (va_A [(q, e0)] H.size) w1) : va_P D cl (wr ++ w1) H1 ∧ va_D A (wr ++ w1) := by
  have inl : ∀ (k : Nat) (x : Nat × va_E), wr[k]? = some x → (wr ++ [(q, e0)])[k]? = some x := fun k x h => by
    rw [List.getElem?_append_left (List.getElem?_eq_some_iff.mp h).1]; exact h
  have inq : (wr ++ [(q, e0)])[wr.length]? = some (q, e0) := by simp
  have nA : ∀ (k : Nat) (x : Nat × va_E), wr[k]? = some x → ¬ va_A [(q, e0)] H.size x.1 := by
    intro k x h hA
    have hlt := (hP k x (inl k x h)).lt
    rcases hA with ⟨j, e, hj⟩ | hA
    · have hj0 : j < 1 := (List.getElem?_eq_some_iff.mp hj).1
      rw [show j = 0 by omega] at hj
      have e1 : (q, e0) = (x.1, e) := Option.some.inj hj
      have h1 := hD.1 k wr.length x (q, e0) (inl k x h) inq (congrArg Prod.fst e1).symm
      have h2 := (List.getElem?_eq_some_iff.mp h).1
      omega
    · omega
  refine ⟨va_P.app (fun k x h => (hP k x (inl k x h)).kept (hk x.1 (hP k x (inl k x h)).lt (nA k x h))) hP1, va_D.app ⟨fun i j x y hx hy e => hD.1 i j x y (inl i x hx) (inl j y hy) e, fun k x h => hD.2 k x (inl k x h)⟩ (hD1.weaken (fun k x _ h => hF x.1 h)) (fun i j x y hx hy e => nA i x hx (by rw [e]; exact hD1.2 j y hy))⟩
theorem bn_free {A : Nat → Prop} {wr : va_W} {q : Nat} {e0 : va_E} {H H0 : Heap} {locs : List Loc} (hD : va_D A (wr ++ [(q, e0)])) (hS : va_S A H0 H locs) (hA : ∀ x : Nat, H0.size ≤ x → A x) : ∀ x, va_A [(q, e0)] H.size x → A x := by
  intro x hx
  rcases hx with ⟨j, e, hj⟩ | hx
  · have hj0 : j < 1 := (List.getElem?_eq_some_iff.mp hj).1
    rw [show j = 0 by omega] at hj
    have e1 : (q, e0) = (x, e) := Option.some.inj hj
    have h1 := hD.2 wr.length (q, e0) (by simp)
    have e2 : q = x := congrArg Prod.fst e1
    rw [← e2]
    exact h1
  · exact hA x (Nat.le_trans hS.1 hx)
/-- an array of references, seen only inside -/
theorem bn_q {D : va_G} {cl : List vw_C} {ws : va_W} {H : Heap} (k : Nat) {a n : Nat} {cA : ClassId} {f : Nat → Option Nat} (g : Nat → Option Nat) (hP : va_P D cl ws H) (hk : ws[k]? = some (a, .inl (cA, n, .inr (.inr (.inr (.inr f)))))) (hfg : ∀ j, j < n → f j = g j) : va_P D cl (ws.set k (a, .inl (cA, n, .inr (.inr (.inr (.inr g)))))) H := by
  have hl := (List.getElem?_eq_some_iff.mp hk).1
  intro j x hx
  by_cases hj : j = k
  · subst hj
    rw [List.getElem?_set_self hl] at hx
    cases hx
    have h1 : H[a]? = some (vp_cell cA (n, .inr (.inr (.inr (.inr f))))) := hP j _ hk
    show H[a]? = some (vp_cell cA (n, .inr (.inr (.inr (.inr g)))))
    rw [h1, vp_cell_q, vp_cell_q]
    have e1 : arrV cA n (fun j => va_rf (f j)) = arrV cA n (fun j => va_rf (g j)) := by
      unfold arrV
      congr 2
      funext z
      show va_rf (f z.val) = va_rf (g z.val)
      rw [hfg z.val z.isLt]
    rw [e1]
  · rw [List.getElem?_set_ne (Ne.symm hj)] at hx
    exact hP j x hx
section BNR
variable {p : Program} {l : Launch} {e : Env} {R : Room} {s : State} {m : MethodId} {args : Array Value} {below : List Frame} {meth : Method} {c : Code} {H : Heap} {locs : List Loc} {cells slots : Nat} {Q : State → Prop}
variable {cc : ByteArray} {pc : Nat} {ls : Array Slot} {rest : List Value} {D : va_G} {cl : List vw_C} {A : Nat → Prop} {ws wr : va_W} {H0 : Heap}
theorem bn_newa (hexec : p.tables.exec = Jvm.exec) (hb : c.code = cc) {atype : ArrayType} (harr : (Cond.arrayClass (newarray.typeOf atype)).before args s = true) {cT : ClassId} (hcT : s.vm.findClass ("[" ++ (newarray.typeOf atype).toString) = some cT) (hP : va_P D cl ws H) (hD : va_D A ws) (hS : va_S A H0 H locs) (hA : ∀ q : Nat, H0.size ≤ q → A q)
    {n : Int32} {N' : Nat} {a0 : vp_A} (ha : vp_cell cT a0 = arrV cT N' (fun _ => defaultValue (newarray.typeOf atype))) (hn : ¬ n < 0) (hN : n.toNatClampNeg = N') (hbytes : N' * componentBytes (newarray.typeOf atype) ≤ 536870912) (hcells : cells + 1 ≤ R.cells) (hslots : slots + N' ≤ R.slots) (hdg : decode cc pc = .ok (.newarray atype, 2))
    (kk : ∀ (q : Nat) (H1 : Heap), va_P D cl (ws ++ [(q, .inl (cT, a0))]) H1 → va_D A (ws ++ [(q, .inl (cT, a0))]) → va_S A H0 H1 locs →
      W p l e R s m args below meth c H1 locs (cells + 1) (slots + N') Q (F0 m (pc + 2) ls (.ref q :: rest))) : W p l e R s m args below meth c H locs cells slots Q (F0 m pc ls (.int n :: rest)) := by
  refine va_newaK hexec hb harr rfl hdg rfl hn hN hbytes hcells hslots rfl fun H1 cA e1 z1 o1 hAr hNm => ?_
  have hcc : cA = cT := Option.some.inj (hNm.symm.trans hcT)
  subst hcc
  have hk : ∀ (k : Nat) (x : Nat × va_E), ws[k]? = some x → H1[x.1]? = H[x.1]? := fun k x hx => o1 x.1 ((hP k x hx).lt)
  refine kk H.size H1 ((hP.kept hk).app (fun k x hx => ?_)) (hD.push hP rfl (hA _ hS.1)) ⟨Nat.le_trans hS.1 (by omega), fun x h1 h2 => (o1 x (Nat.lt_of_lt_of_le h1 hS.1)).trans (hS.2.1 x h1 h2), hS.2.2⟩
  have hz : k < 1 := (List.getElem?_eq_some_iff.mp hx).1
  rw [show k = 0 by omega] at hx
  cases hx
  show H1[H.size]? = some (vp_cell _ _)
  rw [ha]
  exact e1
/-- a constructor's call, right behind its new -/
theorem bn_call {ct dC : Nat → ClassId} {dI : Nat → Nat → Nat} {st0 : List Value} {F : (Nat → Nat → Nat) → va_W} {q : Nat} {e0 : va_E} {a : Array Value} {mc ms : Nat} (hr : va_Run p l e R s m args below meth c H locs cells slots mc ms (F0 m pc ls st0) rest (bn_Q q ct dC dI F (va_A [(q, e0)] H.size) a) (va_A [(q, e0)] H.size))
    (hP : va_P (dC, dI) vwCl (wr ++ [(q, e0)]) H) (hD : va_D A (wr ++ [(q, e0)])) (hS : va_S A H0 H locs) (hA : ∀ x : Nat, H0.size ≤ x → A x)
    (kk : ∀ (u : Nat → Nat → Nat) (H1 : Heap) (locs1 : List Loc), u 0 0 = q → va_P (dC, dI) vwCl (wr ++ F u) H1 → va_D A (wr ++ F u) → va_S A H0 H1 locs1 → W p l e R s m args below meth c H1 locs1 (cells + mc) (slots + ms) Q (F0 m (pc + 3) ls rest)) : W p l e R s m args below meth c H locs cells slots Q (F0 m pc ls st0) := by
  have hF := bn_free hD hS hA
  refine va_callv hr hS (fun x _ h => hF x h) hF (fun u t H1 locs1 ht _ h5 hB _ hk1 hS1 => ?_)
  obtain ⟨hP1, hD1⟩ := hB
  rw [ht] at hP1
  obtain ⟨hP2, hD2⟩ := bn_join hP hD hk1 hF hP1 hD1
  exact kk u H1 locs1 h5 hP2 hD2 hS1
/-- an array of references: its class is the tables' -/
theorem bn_newq (hexec : p.tables.exec = Jvm.exec) (hb : c.code = cc) {own C : String} {index : Nat} (hown : s.vm.findClass own = some m.cls) (hclink : (Cond.classLink own index C).before args s = true) (hover : va_AO C s) {tys : List (ClassId × FieldType)} (hK : va_K D cl tys s) {cT : ClassId} (hcT : s.vm.findClass ("[" ++ (FieldType.object C).toString) = some cT) (hP : va_P D cl ws H) (hD : va_D A ws) (hS : va_S A H0 H locs) (hA : ∀ q : Nat, H0.size ≤ q → A q)
    {n : Int32} {N' : Nat} (hn : ¬ n < 0) (hN : n.toNatClampNeg = N') (hbytes : N' * 4 ≤ 536870912) (hcells : cells + 1 ≤ R.cells) (hslots : slots + N' ≤ R.slots) (hdg : decode cc pc = .ok (.anewarray index, 3))
    (kk : ∀ (q : Nat) (H1 : Heap), va_P D cl (ws ++ [(q, .inl (cT, N', .inr (.inr (.inr (.inr (fun _ => none))))))]) H1 → va_D A (ws ++ [(q, .inl (cT, N', .inr (.inr (.inr (.inr (fun _ => none))))))]) → va_S A H0 H1 locs →
      W p l e R s m args below meth c H1 locs (cells + 1) (slots + N') Q (F0 m (pc + 3) ls (.ref q :: rest))) : W p l e R s m args below meth c H locs cells slots Q (F0 m pc ls (.int n :: rest)) := by
  refine va_newq hexec hb hown hclink hover hK hP hD hS hA hn hN hbytes hcells hslots hdg fun q cA H1 hK1 hP1 hD1 hS1 => ?_
  have h1 := (hK1.2 tys.length (cA, .object C) (by simp)).2
  obtain ⟨_, _, _, _, _, h2⟩ := h1
  have hcc : cA = cT := Option.some.inj (h2.symm.trans hcT)
  subst hcc
  exact kk q H1 hP1 hD1 hS1
end BNR
theorem app_at {α : Type} (l : List α) (x : α) (t : List α) : (l ++ x :: t)[l.length]? = some x := by
  rw [List.getElem?_append_right (Nat.le_refl _), Nat.sub_self]; rfl
