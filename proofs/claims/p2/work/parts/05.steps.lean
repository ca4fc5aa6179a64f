/-! 05.steps -/
abbrev b_Steps_clear : ByteArray := prog_5_method_2_code
def y_Steps_clear : MethodName := ⟨R_Steps, "clear", "()V"⟩
abbrev b_Steps_add : ByteArray := prog_5_method_3_code
def y_Steps_add : MethodName := ⟨R_Steps, "add", "(III)V"⟩
abbrev b_Steps_endExpression : ByteArray := prog_5_method_4_code
def y_Steps_endExpression : MethodName := ⟨R_Steps, "endExpression", "(C)V"⟩
theorem fl_Steps_21 : Cond.fieldLink "PartFormulas$Steps" 21 "PartFormulas$Steps" "count" "I" ∈ wsAll := wa_of 127 (by decide +kernel) (by decide +kernel)
theorem fl_Steps_32 : Cond.fieldLink "PartFormulas$Steps" 32 "PartFormulas$Steps" "expressions" "I" ∈ wsAll := wa_of 132 (by decide +kernel) (by decide +kernel)
theorem fl_Steps_25 : Cond.fieldLink "PartFormulas$Steps" 25 "PartFormulas$Steps" "start" "[I" ∈ wsAll := wa_of 128 (by decide +kernel) (by decide +kernel)
theorem fl_Steps_9 : Cond.fieldLink "PartFormulas$Steps" 9 "PartFormulas$Steps" "kind" "[I" ∈ wsAll := wa_of 121 (by decide +kernel) (by decide +kernel)
theorem fl_Steps_15 : Cond.fieldLink "PartFormulas$Steps" 15 "PartFormulas$Steps" "first" "[I" ∈ wsAll := wa_of 123 (by decide +kernel) (by decide +kernel)
theorem fl_Steps_18 : Cond.fieldLink "PartFormulas$Steps" 18 "PartFormulas$Steps" "second" "[I" ∈ wsAll := wa_of 125 (by decide +kernel) (by decide +kernel)
theorem fl_Steps_28 : Cond.fieldLink "PartFormulas$Steps" 28 "PartFormulas$Steps" "signBehind" "[C" ∈ wsAll := wa_of 130 (by decide +kernel) (by decide +kernel)
theorem d_Steps_add_0 : decode b_Steps_add 0 = .ok (.aload_n 0, 1) := by decide +kernel
theorem d_Steps_add_1 : decode b_Steps_add 1 = .ok (.getfield 21, 3) := by decide +kernel
theorem d_Steps_add_4 : decode b_Steps_add 4 = .ok (.sipush 400, 3) := by decide +kernel
theorem d_Steps_add_7 : decode b_Steps_add 7 = .ok (.if_icmp .ge 43, 3) := by decide +kernel
theorem d_Steps_add_10 : decode b_Steps_add 10 = .ok (.aload_n 0, 1) := by decide +kernel
theorem d_Steps_add_11 : decode b_Steps_add 11 = .ok (.getfield 9, 3) := by decide +kernel
theorem d_Steps_add_14 : decode b_Steps_add 14 = .ok (.aload_n 0, 1) := by decide +kernel
theorem d_Steps_add_15 : decode b_Steps_add 15 = .ok (.getfield 21, 3) := by decide +kernel
theorem d_Steps_add_18 : decode b_Steps_add 18 = .ok (.iload_n 1, 1) := by decide +kernel
theorem d_Steps_add_19 : decode b_Steps_add 19 = .ok (.iastore, 1) := by decide +kernel
theorem d_Steps_add_20 : decode b_Steps_add 20 = .ok (.aload_n 0, 1) := by decide +kernel
theorem d_Steps_add_21 : decode b_Steps_add 21 = .ok (.getfield 15, 3) := by decide +kernel
theorem d_Steps_add_24 : decode b_Steps_add 24 = .ok (.aload_n 0, 1) := by decide +kernel
theorem d_Steps_add_25 : decode b_Steps_add 25 = .ok (.getfield 21, 3) := by decide +kernel
theorem d_Steps_add_28 : decode b_Steps_add 28 = .ok (.iload_n 2, 1) := by decide +kernel
theorem d_Steps_add_29 : decode b_Steps_add 29 = .ok (.iastore, 1) := by decide +kernel
theorem d_Steps_add_30 : decode b_Steps_add 30 = .ok (.aload_n 0, 1) := by decide +kernel
theorem d_Steps_add_31 : decode b_Steps_add 31 = .ok (.getfield 18, 3) := by decide +kernel
theorem d_Steps_add_34 : decode b_Steps_add 34 = .ok (.aload_n 0, 1) := by decide +kernel
theorem d_Steps_add_35 : decode b_Steps_add 35 = .ok (.getfield 21, 3) := by decide +kernel
theorem d_Steps_add_38 : decode b_Steps_add 38 = .ok (.iload_n 3, 1) := by decide +kernel
theorem d_Steps_add_39 : decode b_Steps_add 39 = .ok (.iastore, 1) := by decide +kernel
theorem d_Steps_add_40 : decode b_Steps_add 40 = .ok (.aload_n 0, 1) := by decide +kernel
theorem d_Steps_add_41 : decode b_Steps_add 41 = .ok (.dup, 1) := by decide +kernel
theorem d_Steps_add_42 : decode b_Steps_add 42 = .ok (.getfield 21, 3) := by decide +kernel
theorem d_Steps_add_45 : decode b_Steps_add 45 = .ok (.iconst 1, 1) := by decide +kernel
theorem d_Steps_add_46 : decode b_Steps_add 46 = .ok (.iadd, 1) := by decide +kernel
theorem d_Steps_add_47 : decode b_Steps_add 47 = .ok (.putfield 21, 3) := by decide +kernel
theorem d_Steps_add_50 : decode b_Steps_add 50 = .ok (.return_, 1) := by decide +kernel
theorem d_Steps_clear_0 : decode b_Steps_clear 0 = .ok (.aload_n 0, 1) := by decide +kernel
theorem d_Steps_clear_1 : decode b_Steps_clear 1 = .ok (.iconst 0, 1) := by decide +kernel
theorem d_Steps_clear_2 : decode b_Steps_clear 2 = .ok (.putfield 21, 3) := by decide +kernel
theorem d_Steps_clear_5 : decode b_Steps_clear 5 = .ok (.aload_n 0, 1) := by decide +kernel
theorem d_Steps_clear_6 : decode b_Steps_clear 6 = .ok (.iconst 0, 1) := by decide +kernel
theorem d_Steps_clear_7 : decode b_Steps_clear 7 = .ok (.putfield 32, 3) := by decide +kernel
theorem d_Steps_clear_10 : decode b_Steps_clear 10 = .ok (.aload_n 0, 1) := by decide +kernel
theorem d_Steps_clear_11 : decode b_Steps_clear 11 = .ok (.getfield 25, 3) := by decide +kernel
theorem d_Steps_clear_14 : decode b_Steps_clear 14 = .ok (.iconst 0, 1) := by decide +kernel
theorem d_Steps_clear_15 : decode b_Steps_clear 15 = .ok (.iconst 0, 1) := by decide +kernel
theorem d_Steps_clear_16 : decode b_Steps_clear 16 = .ok (.iastore, 1) := by decide +kernel
theorem d_Steps_clear_17 : decode b_Steps_clear 17 = .ok (.return_, 1) := by decide +kernel
theorem d_Steps_endExpression_0 : decode b_Steps_endExpression 0 = .ok (.aload_n 0, 1) := by decide +kernel
theorem d_Steps_endExpression_1 : decode b_Steps_endExpression 1 = .ok (.getfield 32, 3) := by decide +kernel
theorem d_Steps_endExpression_4 : decode b_Steps_endExpression 4 = .ok (.sipush 400, 3) := by decide +kernel
theorem d_Steps_endExpression_7 : decode b_Steps_endExpression 7 = .ok (.if_icmp .ge 36, 3) := by decide +kernel
theorem d_Steps_endExpression_10 : decode b_Steps_endExpression 10 = .ok (.aload_n 0, 1) := by decide +kernel
theorem d_Steps_endExpression_11 : decode b_Steps_endExpression 11 = .ok (.getfield 28, 3) := by decide +kernel
theorem d_Steps_endExpression_14 : decode b_Steps_endExpression 14 = .ok (.aload_n 0, 1) := by decide +kernel
theorem d_Steps_endExpression_15 : decode b_Steps_endExpression 15 = .ok (.getfield 32, 3) := by decide +kernel
theorem d_Steps_endExpression_18 : decode b_Steps_endExpression 18 = .ok (.iload_n 1, 1) := by decide +kernel
theorem d_Steps_endExpression_19 : decode b_Steps_endExpression 19 = .ok (.castore, 1) := by decide +kernel
theorem d_Steps_endExpression_20 : decode b_Steps_endExpression 20 = .ok (.aload_n 0, 1) := by decide +kernel
theorem d_Steps_endExpression_21 : decode b_Steps_endExpression 21 = .ok (.dup, 1) := by decide +kernel
theorem d_Steps_endExpression_22 : decode b_Steps_endExpression 22 = .ok (.getfield 32, 3) := by decide +kernel
theorem d_Steps_endExpression_25 : decode b_Steps_endExpression 25 = .ok (.iconst 1, 1) := by decide +kernel
theorem d_Steps_endExpression_26 : decode b_Steps_endExpression 26 = .ok (.iadd, 1) := by decide +kernel
theorem d_Steps_endExpression_27 : decode b_Steps_endExpression 27 = .ok (.putfield 32, 3) := by decide +kernel
theorem d_Steps_endExpression_30 : decode b_Steps_endExpression 30 = .ok (.aload_n 0, 1) := by decide +kernel
theorem d_Steps_endExpression_31 : decode b_Steps_endExpression 31 = .ok (.getfield 25, 3) := by decide +kernel
theorem d_Steps_endExpression_34 : decode b_Steps_endExpression 34 = .ok (.aload_n 0, 1) := by decide +kernel
theorem d_Steps_endExpression_35 : decode b_Steps_endExpression 35 = .ok (.getfield 32, 3) := by decide +kernel
theorem d_Steps_endExpression_38 : decode b_Steps_endExpression 38 = .ok (.aload_n 0, 1) := by decide +kernel
theorem d_Steps_endExpression_39 : decode b_Steps_endExpression 39 = .ok (.getfield 21, 3) := by decide +kernel
theorem d_Steps_endExpression_42 : decode b_Steps_endExpression 42 = .ok (.iastore, 1) := by decide +kernel
theorem d_Steps_endExpression_43 : decode b_Steps_endExpression 43 = .ok (.return_, 1) := by decide +kernel
def F_Steps_clear  (o0 : Ob) : Option (Ob) :=
  chk (inb (0 : Int32) 401) (some (s32 (s32 (s32 o0 3 0 (0 : Int32)) 6 0 (0 : Int32)) 4 (Int32.toNatClampNeg (0 : Int32)) (0 : Int32)))
abbrev ws_Steps_clear : List Cond := Cond.code y_Steps_clear b_Steps_clear 1 (none : Option Jvm.ClassFile.FieldType) :: wsAll
abbrev rm_Steps_clear : Room := { frames := 0, cells := 0, slots := 0, locals := 0 }
set_option maxHeartbeats 4000000 in
set_option maxRecDepth 100000 in
theorem c_Steps_clear (l : Launch) (ct dC : Nat → ClassId) (dI : Nat → Nat → Nat) (a0 : Nat → Nat)  (sz : Nat)  (o0 : Ob) (n0 : Ob) (hF : F_Steps_clear o0 = some n0) : Met l y_Steps_clear ws_Steps_clear rm_Steps_clear (bw_Pc [.ref (a0 0)] (dC, dI) vwCl (tyA ct) [wSteps ct a0 o0] sz nx) (bw_Q (dC, dI) vwCl none [wSteps ct a0 n0] (bw_A [adSteps a0] sz)) 0 0 (bw_A [adSteps a0] sz) := by
  refine Met.ofW (cc := b_Steps_clear) (maxL := 1) (ret := (none : Option Jvm.ClassFile.FieldType)) (by decide) rfl ?_
  intro p e s m args below meth c s₁ B hml hv
  obtain ⟨rfl, hsz, hP, hK, hN0, hnx⟩ := hv
  have hx := B.exec
  have hb := B.bytes
  have hr := B.returns
  have hts : ∀ w ∈ wsAll, w.before [.ref (a0 0)].toArray s = true := fun w h9 => atoms_spec (ws := ws_Steps_clear) B.pre w (List.mem_cons_of_mem _ h9)
  have hown : s.vm.findClass R_Steps = some m.cls := findClass_of_methodNamed B.named
  have hlocks := B.notSynchronized
  subst hsz
  have hN : bw_N (bw_A [adSteps a0] s.heap.size) [adSteps a0] := hN0.self s.heap.size
  generalize hAe : bw_A [adSteps a0] s.heap.size = A at hN ⊢
  have hA : ∀ q : Nat, s.heap.size ≤ q → A q := fun q h => by rw [← hAe]; exact Or.inr h
  have hS : va_S A s.heap s.heap [] := va_S.rf
  have hl := lv_entry ([.ref (a0 0)]) (n := 1) (Nat.le_of_ble_eq_true rfl)
  rw [lg_entry_eq]
  generalize (lg_sl ([.ref (a0 0)]) ++ List.replicate (1 - (lg_sl ([.ref (a0 0)])).length) Slot.unset).toArray = ls at hl ⊢
  have hl : lv_has ls 1 [(0, .ref (a0 0))] := hl
  have C0 : cx wsAll vwCl nx p s m [.ref (a0 0)].toArray meth c (dC, dI) (tyA ct) b_Steps_clear 1 (none : Option Jvm.ClassFile.FieldType) R_Steps A [adSteps a0] := ⟨hx, hb, hr, hml, hown, hlocks, hts, hK, hN, hA, hnx⟩
  have h := hF
  rw [F_Steps_clear] at h
  refine lv_aload_n hx hb d_Steps_clear_0 rfl (lv_at hl 0 rfl) ?_
  refine lv_iconst (v := 0) hx hb d_Steps_clear_1 (by decide) ?_
  refine pt_Steps_3 hx hb hts hown hK hP hN hS 0 rfl (hts _ fl_Steps_21) d_Steps_clear_2 (fun H locs hP hS => ?_)
  have hP : bw_P (dC, dI) vwCl [wSteps ct a0 (s32 o0 3 0 (0 : Int32))] H := hP
  refine lv_aload_n hx hb d_Steps_clear_5 rfl (lv_at hl 0 rfl) ?_
  refine lv_iconst (v := 0) hx hb d_Steps_clear_6 (by decide) ?_
  refine pt_Steps_6 hx hb hts hown hK hP hN hS 0 rfl (hts _ fl_Steps_32) d_Steps_clear_7 (fun H locs hP hS => ?_)
  have hP : bw_P (dC, dI) vwCl [wSteps ct a0 (s32 (s32 o0 3 0 (0 : Int32)) 6 0 (0 : Int32))] H := hP
  refine lv_aload_n hx hb d_Steps_clear_10 rfl (lv_at hl 0 rfl) ?_
  refine va_get (D := (dC, dI)) (ci := 0) (v := .ref (a0 4)) (C := R_Steps) (T := T_Steps) (N := 7) hx hb hts in_Steps hown hK (hP 0 _ rfl) 0 rfl rfl 4 (by decide) (hts _ fl_Steps_25) (fun _ h9 => h9) rfl d_Steps_clear_11 ?_
  refine lv_iconst (v := 0) hx hb d_Steps_clear_14 (by decide) ?_
  refine lv_iconst (v := 0) hx hb d_Steps_clear_15 (by decide) ?_
  obtain ⟨hi1, h⟩ := chk_some h
  refine st_Steps_4 hx hb hK hP hN hS 0 rfl (inb_in hi1) d_Steps_clear_16 (fun H locs hP hS => ?_)
  have hP : bw_P (dC, dI) vwCl [wSteps ct a0 (s32 (s32 (s32 o0 3 0 (0 : Int32)) 6 0 (0 : Int32)) 4 (Int32.toNatClampNeg (0 : Int32)) (0 : Int32))] H := hP
  obtain rfl := res1 h
  exact W.vret hx hb hr (fun t ht hW => ⟨rfl, by rw [ht]; exact hP, hS.F ht⟩) hS.2.2 d_Steps_clear_17
def F_Steps_add (x1 : Int32) (x2 : Int32) (x3 : Int32) (o0 : Ob) : Option (Ob) :=
  if (400 : Int32) ≤ (g32 o0 3 0) then (some o0) else (chk (inb (g32 o0 3 0) 400) (some (s32 (s32 (s32 (s32 o0 0 (Int32.toNatClampNeg (g32 o0 3 0)) x1) 1 (Int32.toNatClampNeg (g32 o0 3 0)) x2) 2 (Int32.toNatClampNeg (g32 o0 3 0)) x3) 3 0 ((g32 o0 3 0) + (1 : Int32)))))
abbrev ws_Steps_add : List Cond := Cond.code y_Steps_add b_Steps_add 4 (none : Option Jvm.ClassFile.FieldType) :: wsAll
abbrev rm_Steps_add : Room := { frames := 0, cells := 0, slots := 0, locals := 0 }
set_option maxHeartbeats 4000000 in
set_option maxRecDepth 100000 in
theorem c_Steps_add (l : Launch) (ct dC : Nat → ClassId) (dI : Nat → Nat → Nat) (a0 : Nat → Nat)  (sz : Nat) (x1 : Int32) (x2 : Int32) (x3 : Int32) (o0 : Ob) (n0 : Ob) (hF : F_Steps_add x1 x2 x3 o0 = some n0) : Met l y_Steps_add ws_Steps_add rm_Steps_add (bw_Pc [.ref (a0 0), .int x1, .int x2, .int x3] (dC, dI) vwCl (tyA ct) [wSteps ct a0 o0] sz nx) (bw_Q (dC, dI) vwCl none [wSteps ct a0 n0] (bw_A [adSteps a0] sz)) 0 0 (bw_A [adSteps a0] sz) := by
  refine Met.ofW (cc := b_Steps_add) (maxL := 4) (ret := (none : Option Jvm.ClassFile.FieldType)) (by decide) rfl ?_
  intro p e s m args below meth c s₁ B hml hv
  obtain ⟨rfl, hsz, hP, hK, hN0, hnx⟩ := hv
  have hx := B.exec
  have hb := B.bytes
  have hr := B.returns
  have hts : ∀ w ∈ wsAll, w.before [.ref (a0 0), .int x1, .int x2, .int x3].toArray s = true := fun w h9 => atoms_spec (ws := ws_Steps_add) B.pre w (List.mem_cons_of_mem _ h9)
  have hown : s.vm.findClass R_Steps = some m.cls := findClass_of_methodNamed B.named
  have hlocks := B.notSynchronized
  subst hsz
  have hN : bw_N (bw_A [adSteps a0] s.heap.size) [adSteps a0] := hN0.self s.heap.size
  generalize hAe : bw_A [adSteps a0] s.heap.size = A at hN ⊢
  have hA : ∀ q : Nat, s.heap.size ≤ q → A q := fun q h => by rw [← hAe]; exact Or.inr h
  have hS : va_S A s.heap s.heap [] := va_S.rf
  have hl := lv_entry ([.ref (a0 0), .int x1, .int x2, .int x3]) (n := 4) (Nat.le_of_ble_eq_true rfl)
  rw [lg_entry_eq]
  generalize (lg_sl ([.ref (a0 0), .int x1, .int x2, .int x3]) ++ List.replicate (4 - (lg_sl ([.ref (a0 0), .int x1, .int x2, .int x3])).length) Slot.unset).toArray = ls at hl ⊢
  have hl : lv_has ls 4 [(0, .ref (a0 0)), (1, .int x1), (2, .int x2), (3, .int x3)] := hl
  have C0 : cx wsAll vwCl nx p s m [.ref (a0 0), .int x1, .int x2, .int x3].toArray meth c (dC, dI) (tyA ct) b_Steps_add 4 (none : Option Jvm.ClassFile.FieldType) R_Steps A [adSteps a0] := ⟨hx, hb, hr, hml, hown, hlocks, hts, hK, hN, hA, hnx⟩
  have h := hF
  rw [F_Steps_add] at h
  refine lv_aload_n hx hb d_Steps_add_0 rfl (lv_at hl 0 rfl) ?_
  refine va_get (D := (dC, dI)) (ci := 0) (v := .int (g32 o0 3 0)) (C := R_Steps) (T := T_Steps) (N := 7) hx hb hts in_Steps hown hK (hP 0 _ rfl) 0 rfl rfl 3 (by decide) (hts _ fl_Steps_21) (fun _ h9 => h9) rfl d_Steps_add_1 ?_
  refine lv_sipush (v := 400) hx hb d_Steps_add_4 (by decide) ?_
  refine lv_icmp_ge (tgt := 50) hx hb d_Steps_add_7 (by decide) (fun c1 => ?_) (fun c1 => ?_)
  · have h := ite_t c1 h
    obtain rfl := res1 h
    exact W.vret hx hb hr (fun t ht hW => ⟨rfl, by rw [ht]; exact hP, hS.F ht⟩) hS.2.2 d_Steps_add_50
  · have h := ite_f c1 h
    refine lv_aload_n hx hb d_Steps_add_10 rfl (lv_at hl 0 rfl) ?_
    refine va_get (D := (dC, dI)) (ci := 0) (v := .ref (a0 1)) (C := R_Steps) (T := T_Steps) (N := 7) hx hb hts in_Steps hown hK (hP 0 _ rfl) 0 rfl rfl 0 (by decide) (hts _ fl_Steps_9) (fun _ h9 => h9) rfl d_Steps_add_11 ?_
    refine lv_aload_n hx hb d_Steps_add_14 rfl (lv_at hl 0 rfl) ?_
    refine va_get (D := (dC, dI)) (ci := 0) (v := .int (g32 o0 3 0)) (C := R_Steps) (T := T_Steps) (N := 7) hx hb hts in_Steps hown hK (hP 0 _ rfl) 0 rfl rfl 3 (by decide) (hts _ fl_Steps_21) (fun _ h9 => h9) rfl d_Steps_add_15 ?_
    refine lv_iload_n hx hb d_Steps_add_18 rfl (lv_at hl 1 rfl) ?_
    obtain ⟨hi2, h⟩ := chk_some h
    refine st_Steps_0 hx hb hK hP hN hS 0 rfl (inb_in hi2) d_Steps_add_19 (fun H locs hP hS => ?_)
    have hP : bw_P (dC, dI) vwCl [wSteps ct a0 (s32 o0 0 (Int32.toNatClampNeg (g32 o0 3 0)) x1)] H := hP
    refine lv_aload_n hx hb d_Steps_add_20 rfl (lv_at hl 0 rfl) ?_
    refine va_get (D := (dC, dI)) (ci := 0) (v := .ref (a0 2)) (C := R_Steps) (T := T_Steps) (N := 7) hx hb hts in_Steps hown hK (hP 0 _ rfl) 0 rfl rfl 1 (by decide) (hts _ fl_Steps_15) (fun _ h9 => h9) rfl d_Steps_add_21 ?_
    refine lv_aload_n hx hb d_Steps_add_24 rfl (lv_at hl 0 rfl) ?_
    refine va_get (D := (dC, dI)) (ci := 0) (v := .int (g32 o0 3 0)) (C := R_Steps) (T := T_Steps) (N := 7) hx hb hts in_Steps hown hK (hP 0 _ rfl) 0 rfl rfl 3 (by decide) (hts _ fl_Steps_21) (fun _ h9 => h9) rfl d_Steps_add_25 ?_
    refine lv_iload_n hx hb d_Steps_add_28 rfl (lv_at hl 2 rfl) ?_
    refine st_Steps_1 hx hb hK hP hN hS 0 rfl (inb_in hi2) d_Steps_add_29 (fun H locs hP hS => ?_)
    have hP : bw_P (dC, dI) vwCl [wSteps ct a0 (s32 (s32 o0 0 (Int32.toNatClampNeg (g32 o0 3 0)) x1) 1 (Int32.toNatClampNeg (g32 o0 3 0)) x2)] H := hP
    refine lv_aload_n hx hb d_Steps_add_30 rfl (lv_at hl 0 rfl) ?_
    refine va_get (D := (dC, dI)) (ci := 0) (v := .ref (a0 3)) (C := R_Steps) (T := T_Steps) (N := 7) hx hb hts in_Steps hown hK (hP 0 _ rfl) 0 rfl rfl 2 (by decide) (hts _ fl_Steps_18) (fun _ h9 => h9) rfl d_Steps_add_31 ?_
    refine lv_aload_n hx hb d_Steps_add_34 rfl (lv_at hl 0 rfl) ?_
    refine va_get (D := (dC, dI)) (ci := 0) (v := .int (g32 o0 3 0)) (C := R_Steps) (T := T_Steps) (N := 7) hx hb hts in_Steps hown hK (hP 0 _ rfl) 0 rfl rfl 3 (by decide) (hts _ fl_Steps_21) (fun _ h9 => h9) rfl d_Steps_add_35 ?_
    refine lv_iload_n hx hb d_Steps_add_38 rfl (lv_at hl 3 rfl) ?_
    refine st_Steps_2 hx hb hK hP hN hS 0 rfl (inb_in hi2) d_Steps_add_39 (fun H locs hP hS => ?_)
    have hP : bw_P (dC, dI) vwCl [wSteps ct a0 (s32 (s32 (s32 o0 0 (Int32.toNatClampNeg (g32 o0 3 0)) x1) 1 (Int32.toNatClampNeg (g32 o0 3 0)) x2) 2 (Int32.toNatClampNeg (g32 o0 3 0)) x3)] H := hP
    refine lv_aload_n hx hb d_Steps_add_40 rfl (lv_at hl 0 rfl) ?_
    refine lv_dup hx hb d_Steps_add_41 rfl ?_
    refine va_get (D := (dC, dI)) (ci := 0) (v := .int (g32 o0 3 0)) (C := R_Steps) (T := T_Steps) (N := 7) hx hb hts in_Steps hown hK (hP 0 _ rfl) 0 rfl rfl 3 (by decide) (hts _ fl_Steps_21) (fun _ h9 => h9) rfl d_Steps_add_42 ?_
    refine lv_iconst (v := 1) hx hb d_Steps_add_45 (by decide) ?_
    refine lv_iadd hx hb d_Steps_add_46 ?_
    refine pt_Steps_3 hx hb hts hown hK hP hN hS 0 rfl (hts _ fl_Steps_21) d_Steps_add_47 (fun H locs hP hS => ?_)
    have hP : bw_P (dC, dI) vwCl [wSteps ct a0 (s32 (s32 (s32 (s32 o0 0 (Int32.toNatClampNeg (g32 o0 3 0)) x1) 1 (Int32.toNatClampNeg (g32 o0 3 0)) x2) 2 (Int32.toNatClampNeg (g32 o0 3 0)) x3) 3 0 ((g32 o0 3 0) + (1 : Int32)))] H := hP
    obtain rfl := res1 h
    exact W.vret hx hb hr (fun t ht hW => ⟨rfl, by rw [ht]; exact hP, hS.F ht⟩) hS.2.2 d_Steps_add_50
def F_Steps_endExpression (x1 : Int32) (o0 : Ob) : Option (Ob) :=
  if (400 : Int32) ≤ (g32 o0 6 0) then (some o0) else (chk (inb (g32 o0 6 0) 401) (chk (inb ((g32 o0 6 0) + (1 : Int32)) 401) (some (s32 (s32 (s32 o0 5 (Int32.toNatClampNeg (g32 o0 6 0)) (vp_nar .char x1)) 6 0 ((g32 o0 6 0) + (1 : Int32))) 4 (Int32.toNatClampNeg ((g32 o0 6 0) + (1 : Int32))) (g32 o0 3 0)))))
abbrev ws_Steps_endExpression : List Cond := Cond.code y_Steps_endExpression b_Steps_endExpression 2 (none : Option Jvm.ClassFile.FieldType) :: wsAll
abbrev rm_Steps_endExpression : Room := { frames := 0, cells := 0, slots := 0, locals := 0 }
set_option maxHeartbeats 4000000 in
set_option maxRecDepth 100000 in
theorem c_Steps_endExpression (l : Launch) (ct dC : Nat → ClassId) (dI : Nat → Nat → Nat) (a0 : Nat → Nat)  (sz : Nat) (x1 : Int32) (o0 : Ob) (n0 : Ob) (hF : F_Steps_endExpression x1 o0 = some n0) : Met l y_Steps_endExpression ws_Steps_endExpression rm_Steps_endExpression (bw_Pc [.ref (a0 0), .int x1] (dC, dI) vwCl (tyA ct) [wSteps ct a0 o0] sz nx) (bw_Q (dC, dI) vwCl none [wSteps ct a0 n0] (bw_A [adSteps a0] sz)) 0 0 (bw_A [adSteps a0] sz) := by
  refine Met.ofW (cc := b_Steps_endExpression) (maxL := 2) (ret := (none : Option Jvm.ClassFile.FieldType)) (by decide) rfl ?_
  intro p e s m args below meth c s₁ B hml hv
  obtain ⟨rfl, hsz, hP, hK, hN0, hnx⟩ := hv
  have hx := B.exec
  have hb := B.bytes
  have hr := B.returns
  have hts : ∀ w ∈ wsAll, w.before [.ref (a0 0), .int x1].toArray s = true := fun w h9 => atoms_spec (ws := ws_Steps_endExpression) B.pre w (List.mem_cons_of_mem _ h9)
  have hown : s.vm.findClass R_Steps = some m.cls := findClass_of_methodNamed B.named
  have hlocks := B.notSynchronized
  subst hsz
  have hN : bw_N (bw_A [adSteps a0] s.heap.size) [adSteps a0] := hN0.self s.heap.size
  generalize hAe : bw_A [adSteps a0] s.heap.size = A at hN ⊢
  have hA : ∀ q : Nat, s.heap.size ≤ q → A q := fun q h => by rw [← hAe]; exact Or.inr h
  have hS : va_S A s.heap s.heap [] := va_S.rf
  have hl := lv_entry ([.ref (a0 0), .int x1]) (n := 2) (Nat.le_of_ble_eq_true rfl)
  rw [lg_entry_eq]
  generalize (lg_sl ([.ref (a0 0), .int x1]) ++ List.replicate (2 - (lg_sl ([.ref (a0 0), .int x1])).length) Slot.unset).toArray = ls at hl ⊢
  have hl : lv_has ls 2 [(0, .ref (a0 0)), (1, .int x1)] := hl
  have C0 : cx wsAll vwCl nx p s m [.ref (a0 0), .int x1].toArray meth c (dC, dI) (tyA ct) b_Steps_endExpression 2 (none : Option Jvm.ClassFile.FieldType) R_Steps A [adSteps a0] := ⟨hx, hb, hr, hml, hown, hlocks, hts, hK, hN, hA, hnx⟩
  have h := hF
  rw [F_Steps_endExpression] at h
  refine lv_aload_n hx hb d_Steps_endExpression_0 rfl (lv_at hl 0 rfl) ?_
  refine va_get (D := (dC, dI)) (ci := 0) (v := .int (g32 o0 6 0)) (C := R_Steps) (T := T_Steps) (N := 7) hx hb hts in_Steps hown hK (hP 0 _ rfl) 0 rfl rfl 6 (by decide) (hts _ fl_Steps_32) (fun _ h9 => h9) rfl d_Steps_endExpression_1 ?_
  refine lv_sipush (v := 400) hx hb d_Steps_endExpression_4 (by decide) ?_
  refine lv_icmp_ge (tgt := 43) hx hb d_Steps_endExpression_7 (by decide) (fun c1 => ?_) (fun c1 => ?_)
  · have h := ite_t c1 h
    obtain rfl := res1 h
    exact W.vret hx hb hr (fun t ht hW => ⟨rfl, by rw [ht]; exact hP, hS.F ht⟩) hS.2.2 d_Steps_endExpression_43
  · have h := ite_f c1 h
    refine lv_aload_n hx hb d_Steps_endExpression_10 rfl (lv_at hl 0 rfl) ?_
    refine va_get (D := (dC, dI)) (ci := 0) (v := .ref (a0 5)) (C := R_Steps) (T := T_Steps) (N := 7) hx hb hts in_Steps hown hK (hP 0 _ rfl) 0 rfl rfl 5 (by decide) (hts _ fl_Steps_28) (fun _ h9 => h9) rfl d_Steps_endExpression_11 ?_
    refine lv_aload_n hx hb d_Steps_endExpression_14 rfl (lv_at hl 0 rfl) ?_
    refine va_get (D := (dC, dI)) (ci := 0) (v := .int (g32 o0 6 0)) (C := R_Steps) (T := T_Steps) (N := 7) hx hb hts in_Steps hown hK (hP 0 _ rfl) 0 rfl rfl 6 (by decide) (hts _ fl_Steps_32) (fun _ h9 => h9) rfl d_Steps_endExpression_15 ?_
    refine lv_iload_n hx hb d_Steps_endExpression_18 rfl (lv_at hl 1 rfl) ?_
    obtain ⟨hi2, h⟩ := chk_some h
    refine st_Steps_5 hx hb hK hP hN hS 0 rfl (inb_in hi2) d_Steps_endExpression_19 (fun H locs hP hS => ?_)
    have hP : bw_P (dC, dI) vwCl [wSteps ct a0 (s32 o0 5 (Int32.toNatClampNeg (g32 o0 6 0)) (vp_nar .char x1))] H := hP
    refine lv_aload_n hx hb d_Steps_endExpression_20 rfl (lv_at hl 0 rfl) ?_
    refine lv_dup hx hb d_Steps_endExpression_21 rfl ?_
    refine va_get (D := (dC, dI)) (ci := 0) (v := .int (g32 o0 6 0)) (C := R_Steps) (T := T_Steps) (N := 7) hx hb hts in_Steps hown hK (hP 0 _ rfl) 0 rfl rfl 6 (by decide) (hts _ fl_Steps_32) (fun _ h9 => h9) rfl d_Steps_endExpression_22 ?_
    refine lv_iconst (v := 1) hx hb d_Steps_endExpression_25 (by decide) ?_
    refine lv_iadd hx hb d_Steps_endExpression_26 ?_
    refine pt_Steps_6 hx hb hts hown hK hP hN hS 0 rfl (hts _ fl_Steps_32) d_Steps_endExpression_27 (fun H locs hP hS => ?_)
    have hP : bw_P (dC, dI) vwCl [wSteps ct a0 (s32 (s32 o0 5 (Int32.toNatClampNeg (g32 o0 6 0)) (vp_nar .char x1)) 6 0 ((g32 o0 6 0) + (1 : Int32)))] H := hP
    refine lv_aload_n hx hb d_Steps_endExpression_30 rfl (lv_at hl 0 rfl) ?_
    refine va_get (D := (dC, dI)) (ci := 0) (v := .ref (a0 4)) (C := R_Steps) (T := T_Steps) (N := 7) hx hb hts in_Steps hown hK (hP 0 _ rfl) 0 rfl rfl 4 (by decide) (hts _ fl_Steps_25) (fun _ h9 => h9) rfl d_Steps_endExpression_31 ?_
    refine lv_aload_n hx hb d_Steps_endExpression_34 rfl (lv_at hl 0 rfl) ?_
    refine va_get (D := (dC, dI)) (ci := 0) (v := .int ((g32 o0 6 0) + (1 : Int32))) (C := R_Steps) (T := T_Steps) (N := 7) hx hb hts in_Steps hown hK (hP 0 _ rfl) 0 rfl rfl 6 (by decide) (hts _ fl_Steps_32) (fun _ h9 => h9) rfl d_Steps_endExpression_35 ?_
    refine lv_aload_n hx hb d_Steps_endExpression_38 rfl (lv_at hl 0 rfl) ?_
    refine va_get (D := (dC, dI)) (ci := 0) (v := .int (g32 o0 3 0)) (C := R_Steps) (T := T_Steps) (N := 7) hx hb hts in_Steps hown hK (hP 0 _ rfl) 0 rfl rfl 3 (by decide) (hts _ fl_Steps_21) (fun _ h9 => h9) rfl d_Steps_endExpression_39 ?_
    obtain ⟨hi3, h⟩ := chk_some h
    refine st_Steps_4 hx hb hK hP hN hS 0 rfl (inb_in hi3) d_Steps_endExpression_42 (fun H locs hP hS => ?_)
    have hP : bw_P (dC, dI) vwCl [wSteps ct a0 (s32 (s32 (s32 o0 5 (Int32.toNatClampNeg (g32 o0 6 0)) (vp_nar .char x1)) 6 0 ((g32 o0 6 0) + (1 : Int32))) 4 (Int32.toNatClampNeg ((g32 o0 6 0) + (1 : Int32))) (g32 o0 3 0))] H := hP
    obtain rfl := res1 h
    exact W.vret hx hb hr (fun t ht hW => ⟨rfl, by rw [ht]; exact hP, hS.F ht⟩) hS.2.2 d_Steps_endExpression_43
