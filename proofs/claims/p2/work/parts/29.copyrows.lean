/-! Cells.copyFrom: System.arraycopy between the rows of two blocks -/
section BWC
variable {p : Program} {l : Launch} {e : Env} {R : Room} {s : State} {m : MethodId} {args : Array Value} {below : List Frame} {meth : Method} {c : Code} {H : Heap} {locs : List Loc} {cells slots : Nat} {Q : State → Prop}
variable {cc : ByteArray} {pc : Nat} {ls : Array Slot} {rest : List Value} {D : va_G} {cl : List vw_C} {A : Nat → Prop} {a : Nat} {tys : List (ClassId × FieldType)} {X Y : va_W} {H0 : Heap}
theorem bw_two {H : Heap} (h : bw_P D cl [X, Y] H) : va_P D cl (X ++ Y) H := (h 0 X rfl).app (h 1 Y rfl)
theorem bw_twoD (h : bw_N A (bw_ad [X, Y])) : va_D A (X ++ Y) := by
  refine va_D.app (h.D (i := 0) rfl) (h.D (i := 1) rfl) (fun i j x y hx hy e => ?_)
  have := (h.1 0 1 i j _ _ x.1 (bw_ad_at (L := [X, Y]) (i := 0) rfl) (bw_ad_at (L := [X, Y]) (i := 1) rfl) (bw_fst hx) (by rw [e]; exact bw_fst hy)).1
  cases this
theorem bw_unTwo {X' : va_W} {H : Heap} (h : va_P D cl (X' ++ Y) H) : bw_P D cl [X', Y] H := by
  have hX : va_P D cl X' H := fun k q hk => h k q (by rw [List.getElem?_append_left (List.getElem?_eq_some_iff.mp hk).1]; exact hk)
  have hY : va_P D cl Y H := fun k q hk => h (X'.length + k) q (by rw [List.getElem?_append_right (Nat.le_add_right _ _), Nat.add_sub_cancel_left]; exact hk)
  intro i B hB
  match i, hB with
  | 0, hB => cases hB; exact hX
  | 1, hB => cases hB; exact hY
  | i + 2, hB => simp at hB
theorem bw_copyi (hexec : p.tables.exec = Jvm.exec) (hb : c.code = cc) (hml : c.maxLocals = ls.size) {own : String} {index : Nat} (hown : s.vm.findClass own = some m.cls) (hlink : (Cond.methodLink own index arraycopyName).before args s = true) (hnat : (Cond.native arraycopyName).before args s = true) (hstat : (Cond.static arraycopyName).before args s = true) (hini : (Cond.initialized "java/lang/System").before args s = true)
    (hK : va_K D cl tys s) (hP : bw_P D cl [X, Y] H) (hN : bw_N A (bw_ad [X, Y])) (hS : va_S A H0 H locs) (q0 q1 t0 : Nat) {a0 : Nat} {c0 : ClassId} {n0 : Nat} {f g : Nat → Int32} (ha0 : Y[q0]? = some (a0, .inl (c0, n0, .inl f))) (ha1 : X[q1]? = some (a, .inl (c0, n0, .inl g))) (ht0 : tys[t0]? = some (c0, .int))
    {n : Int32} (h3 : ¬ n < 0) (h4 : n.toNatClampNeg ≤ n0) (hframes : 1 ≤ R.frames) (hlocals : (rest.map fun v => v.category).sum + (nativeFrameWords "java/lang/System" "arraycopy" 5 + 11) ≤ R.locals) (hdg : decode cc pc = .ok (.invokestatic index, 3))
    (kk : ∀ (H1 : Heap) (locs1 : List Loc), bw_P D cl [X.set q1 (a, .inl (c0, n0, .inl (va_cpy f g 0 0 n.toNatClampNeg))), Y] H1 → va_S A H0 H1 locs1 → W p l e R s m args below meth c H1 locs1 cells slots Q (F0 m (pc + 3) ls rest)) : W p l e R s m args below meth c H locs cells slots Q (F0 m pc ls (.int n :: .int 0 :: .ref a :: .int 0 :: .ref a0 :: rest)) := by
  have hlt : q1 < X.length := (List.getElem?_eq_some_iff.mp ha1).1
  refine va_copyi (f := f) (g := g) hexec hb hml hown hlink hnat hstat hini hK (bw_two hP) (bw_twoD hN) hS (X.length + q0) q1 t0 t0 (by rw [List.getElem?_append_right (Nat.le_add_right _ _), Nat.add_sub_cancel_left]; exact ha0) (by rw [List.getElem?_append_left hlt]; exact ha1) ht0 ht0 rfl (by decide) (by decide) h3 (by rw [show (0 : Int32).toNatClampNeg = 0 from by decide]; omega) (by rw [show (0 : Int32).toNatClampNeg = 0 from by decide]; omega) (fun _ _ => rfl) hframes hlocals hdg (fun H1 locs1 hP1 _ hS1 => ?_)
  rw [List.set_append_left _ _ hlt, show (0 : Int32).toNatClampNeg = 0 from by decide] at hP1
  exact kk H1 locs1 (bw_unTwo hP1) hS1
theorem bw_copyl (hexec : p.tables.exec = Jvm.exec) (hb : c.code = cc) (hml : c.maxLocals = ls.size) {own : String} {index : Nat} (hown : s.vm.findClass own = some m.cls) (hlink : (Cond.methodLink own index arraycopyName).before args s = true) (hnat : (Cond.native arraycopyName).before args s = true) (hstat : (Cond.static arraycopyName).before args s = true) (hini : (Cond.initialized "java/lang/System").before args s = true)
    (hK : va_K D cl tys s) (hP : bw_P D cl [X, Y] H) (hN : bw_N A (bw_ad [X, Y])) (hS : va_S A H0 H locs) (q0 q1 t0 : Nat) {a0 : Nat} {c0 : ClassId} {n0 : Nat} {f g : Nat → Int64} (ha0 : Y[q0]? = some (a0, .inl (c0, n0, .inr (.inl f)))) (ha1 : X[q1]? = some (a, .inl (c0, n0, .inr (.inl g)))) (ht0 : tys[t0]? = some (c0, .long))
    {n : Int32} (h3 : ¬ n < 0) (h4 : n.toNatClampNeg ≤ n0) (hframes : 1 ≤ R.frames) (hlocals : (rest.map fun v => v.category).sum + (nativeFrameWords "java/lang/System" "arraycopy" 5 + 11) ≤ R.locals) (hdg : decode cc pc = .ok (.invokestatic index, 3))
    (kk : ∀ (H1 : Heap) (locs1 : List Loc), bw_P D cl [X.set q1 (a, .inl (c0, n0, .inr (.inl (va_cpy f g 0 0 n.toNatClampNeg)))), Y] H1 → va_S A H0 H1 locs1 → W p l e R s m args below meth c H1 locs1 cells slots Q (F0 m (pc + 3) ls rest)) : W p l e R s m args below meth c H locs cells slots Q (F0 m pc ls (.int n :: .int 0 :: .ref a :: .int 0 :: .ref a0 :: rest)) := by
  have hlt : q1 < X.length := (List.getElem?_eq_some_iff.mp ha1).1
  refine va_copyl (f := f) (g := g) hexec hb hml hown hlink hnat hstat hini hK (bw_two hP) (bw_twoD hN) hS (X.length + q0) q1 t0 t0 (by rw [List.getElem?_append_right (Nat.le_add_right _ _), Nat.add_sub_cancel_left]; exact ha0) (by rw [List.getElem?_append_left hlt]; exact ha1) ht0 ht0 rfl (by decide) (by decide) h3 (by rw [show (0 : Int32).toNatClampNeg = 0 from by decide]; omega) (by rw [show (0 : Int32).toNatClampNeg = 0 from by decide]; omega) (fun _ _ => rfl) hframes hlocals hdg (fun H1 locs1 hP1 _ hS1 => ?_)
  rw [List.set_append_left _ _ hlt, show (0 : Int32).toNatClampNeg = 0 from by decide] at hP1
  exact kk H1 locs1 (bw_unTwo hP1) hS1
end BWC
