/-! CONSTRUCTORS -/
abbrev b_Steps_init : ByteArray := prog_5_method_1_code
def y_Steps_init : MethodName := ⟨R_Steps, "<init>", "()V"⟩
theorem df_Steps : ∀ j, j < 7 → defaultValue (ty_Steps j) = vp_V [.null, .null, .null, .int 0, .null, .null, .int 0] j := by decide +kernel
theorem ml_Steps_3 : Cond.methodLink "PartFormulas$Steps" 3 ⟨"java/lang/Object", "<init>", "()V"⟩ ∈ wsAll := wa_of 120 (by decide +kernel) (by decide +kernel)
theorem im_Object_init : Cond.instanceMethod ⟨"java/lang/Object", "<init>", "()V"⟩ ∈ wsAll := wa_of 101 (by decide +kernel) (by decide +kernel)
theorem cd_Object_init : Cond.code ⟨"java/lang/Object", "<init>", "()V"⟩ object_method_1_code 1 (none : Option Jvm.ClassFile.FieldType) ∈ wsAll := wa_of 102 (by decide +kernel) (by decide +kernel)
theorem ac_int : Cond.arrayClass .int ∈ wsAll := wa_of 152 (by decide +kernel) (by decide +kernel)
theorem ac_char : Cond.arrayClass .char ∈ wsAll := wa_of 150 (by decide +kernel) (by decide +kernel)
theorem d_Steps_init_0 : decode b_Steps_init 0 = .ok (.aload_n 0, 1) := by decide +kernel
theorem d_Steps_init_1 : decode b_Steps_init 1 = .ok (.invokespecial 3, 3) := by decide +kernel
theorem d_Steps_init_4 : decode b_Steps_init 4 = .ok (.aload_n 0, 1) := by decide +kernel
theorem d_Steps_init_5 : decode b_Steps_init 5 = .ok (.sipush 400, 3) := by decide +kernel
theorem d_Steps_init_8 : decode b_Steps_init 8 = .ok (.newarray .int, 2) := by decide +kernel
theorem d_Steps_init_10 : decode b_Steps_init 10 = .ok (.putfield 9, 3) := by decide +kernel
theorem d_Steps_init_13 : decode b_Steps_init 13 = .ok (.aload_n 0, 1) := by decide +kernel
theorem d_Steps_init_14 : decode b_Steps_init 14 = .ok (.sipush 400, 3) := by decide +kernel
theorem d_Steps_init_17 : decode b_Steps_init 17 = .ok (.newarray .int, 2) := by decide +kernel
theorem d_Steps_init_19 : decode b_Steps_init 19 = .ok (.putfield 15, 3) := by decide +kernel
theorem d_Steps_init_22 : decode b_Steps_init 22 = .ok (.aload_n 0, 1) := by decide +kernel
theorem d_Steps_init_23 : decode b_Steps_init 23 = .ok (.sipush 400, 3) := by decide +kernel
theorem d_Steps_init_26 : decode b_Steps_init 26 = .ok (.newarray .int, 2) := by decide +kernel
theorem d_Steps_init_28 : decode b_Steps_init 28 = .ok (.putfield 18, 3) := by decide +kernel
theorem d_Steps_init_31 : decode b_Steps_init 31 = .ok (.aload_n 0, 1) := by decide +kernel
theorem d_Steps_init_32 : decode b_Steps_init 32 = .ok (.iconst 0, 1) := by decide +kernel
theorem d_Steps_init_33 : decode b_Steps_init 33 = .ok (.putfield 21, 3) := by decide +kernel
theorem d_Steps_init_36 : decode b_Steps_init 36 = .ok (.aload_n 0, 1) := by decide +kernel
theorem d_Steps_init_37 : decode b_Steps_init 37 = .ok (.sipush 401, 3) := by decide +kernel
theorem d_Steps_init_40 : decode b_Steps_init 40 = .ok (.newarray .int, 2) := by decide +kernel
theorem d_Steps_init_42 : decode b_Steps_init 42 = .ok (.putfield 25, 3) := by decide +kernel
theorem d_Steps_init_45 : decode b_Steps_init 45 = .ok (.aload_n 0, 1) := by decide +kernel
theorem d_Steps_init_46 : decode b_Steps_init 46 = .ok (.sipush 401, 3) := by decide +kernel
theorem d_Steps_init_49 : decode b_Steps_init 49 = .ok (.newarray .char, 2) := by decide +kernel
theorem d_Steps_init_51 : decode b_Steps_init 51 = .ok (.putfield 28, 3) := by decide +kernel
theorem d_Steps_init_54 : decode b_Steps_init 54 = .ok (.aload_n 0, 1) := by decide +kernel
theorem d_Steps_init_55 : decode b_Steps_init 55 = .ok (.iconst 0, 1) := by decide +kernel
theorem d_Steps_init_56 : decode b_Steps_init 56 = .ok (.putfield 32, 3) := by decide +kernel
theorem d_Steps_init_59 : decode b_Steps_init 59 = .ok (.return_, 1) := by decide +kernel
abbrev ws_Steps_init : List Cond := Cond.code y_Steps_init b_Steps_init 1 none :: wsAll
abbrev rm_Steps_init : Room := { frames := 1, cells := 5, slots := 2002, locals := 30 }
set_option maxHeartbeats 4000000 in
set_option maxRecDepth 100000 in
theorem c_Steps_init (l : Launch) (ct dC : Nat → ClassId) (dI : Nat → Nat → Nat) (h0 sz : Nat) : Met l y_Steps_init ws_Steps_init rm_Steps_init (bn_Pc h0 (.inr (0, [.null, .null, .null, .int 0, .null, .null, .int 0])) ct dC dI sz) (bn_Q h0 ct dC dI (fun u => wSteps ct (u 0) ob0) (va_A [(h0, .inr (0, [.null, .null, .null, .int 0, .null, .null, .int 0]))] sz)) 5 2002 (va_A [(h0, .inr (0, [.null, .null, .null, .int 0, .null, .null, .int 0]))] sz) := by
  refine Met.ofW (cc := b_Steps_init) (maxL := 1) (ret := none) (by decide) rfl ?_
  intro p e s m args below meth c s₁ B hml hv
  obtain ⟨rfl, hsz, hP, hK, hnx, hao⟩ := hv
  have hx := B.exec
  have hb := B.bytes
  have hr := B.returns
  have hts : ∀ w ∈ wsAll, w.before [Value.ref h0].toArray s = true := fun w h9 => atoms_spec (ws := ws_Steps_init) B.pre w (List.mem_cons_of_mem _ h9)
  have hown : s.vm.findClass R_Steps = some m.cls := findClass_of_methodNamed B.named
  have hlocks := B.notSynchronized
  have hin : meth.name = "<init>" := (name_of_methodNamed B.named B.method).1
  subst hsz
  have hD : va_D (va_A [(h0, .inr (0, [.null, .null, .null, .int 0, .null, .null, .int 0]))] s.heap.size) [(h0, .inr (0, [.null, .null, .null, .int 0, .null, .null, .int 0]))] := bn_D1 (Or.inl ⟨0, _, rfl⟩)
  generalize hAe : va_A [(h0, .inr (0, [.null, .null, .null, .int 0, .null, .null, .int 0]))] s.heap.size = A at hD ⊢
  have hA : ∀ q : Nat, s.heap.size ≤ q → A q := fun q h => by rw [← hAe]; exact Or.inr h
  have hS : va_S A s.heap s.heap [] := va_S.rf
  have hl := lv_entry ([.ref h0]) (n := 1) (Nat.le_of_ble_eq_true rfl)
  rw [lg_entry_eq]
  generalize (lg_sl ([.ref h0]) ++ List.replicate (1 - (lg_sl ([.ref h0])).length) Slot.unset).toArray = ls at hl ⊢
  have hl : lv_has ls 1 [(0, .ref h0)] := hl
  refine lv_aload_n hx hb d_Steps_init_0 rfl (lv_at hl 0 rfl) ?_
  refine W.objInit hx hb hown (hts _ ml_Steps_3) (hts _ im_Object_init) (hts _ cd_Object_init) rfl (by rw [hml]; exact hl.1) rfl d_Steps_init_1 (Nat.le_of_ble_eq_true rfl) (Nat.le_of_ble_eq_true rfl) ?_
  refine W.eq (g2 := F0 m 4 ls []) rfl ?_
  refine lv_aload_n hx hb d_Steps_init_4 rfl (lv_at hl 0 rfl) ?_
  refine lv_sipush (v := 400) hx hb d_Steps_init_5 (by decide) ?_
  refine bn_newa (atype := .int) (cT := ct 0) (a0 := (400, .inl (fun _ => 0))) (N' := 400) hx hb (hts _ ac_int) (hK.2 0 _ rfl).2 hP hD hS hA rfl (by decide +kernel) (by decide +kernel) (by decide +kernel) (Nat.le_of_ble_eq_true rfl) (Nat.le_of_ble_eq_true rfl) d_Steps_init_8 (fun q5 H hP1 hD1 hS1 => ?_)
  clear hP hD hS
  have hP : va_P (dC, dI) vwCl [(h0, .inr (0, [.null, .null, .null, .int 0, .null, .null, .int 0])), (q5, .inl (ct 0, 400, .inl (fun _ => 0)))] H := hP1
  have hD : va_D A [(h0, .inr (0, [.null, .null, .null, .int 0, .null, .null, .int 0])), (q5, .inl (ct 0, 400, .inl (fun _ => 0)))] := hD1
  have hS := hS1
  clear hP1 hD1 hS1
  refine va_putF (D := (dC, dI)) (ci := 0) (v := .ref q5) (ty := .array .int) (C := R_Steps) (T := T_Steps) (N := 7) hx hb hts in_Steps ty_Steps tyok_Steps nm_Steps hown hK hP hD hS 0 rfl rfl 0 (by decide) (hts _ fl_Steps_9) (fun _ h9 => h9) rfl hin rfl (by decide +kernel) rfl rfl (Nat.le_of_ble_eq_true rfl) d_Steps_init_10 (fun H locs hP1 hD1 hS1 => ?_)
  clear hP hD hS
  have hP : va_P (dC, dI) vwCl [(h0, .inr (0, [.ref q5, .null, .null, .int 0, .null, .null, .int 0])), (q5, .inl (ct 0, 400, .inl (fun _ => 0)))] H := hP1
  have hD : va_D A [(h0, .inr (0, [.ref q5, .null, .null, .int 0, .null, .null, .int 0])), (q5, .inl (ct 0, 400, .inl (fun _ => 0)))] := hD1
  have hS := hS1
  clear hP1 hD1 hS1
  refine lv_aload_n hx hb d_Steps_init_13 rfl (lv_at hl 0 rfl) ?_
  refine lv_sipush (v := 400) hx hb d_Steps_init_14 (by decide) ?_
  refine bn_newa (atype := .int) (cT := ct 0) (a0 := (400, .inl (fun _ => 0))) (N' := 400) hx hb (hts _ ac_int) (hK.2 0 _ rfl).2 hP hD hS hA rfl (by decide +kernel) (by decide +kernel) (by decide +kernel) (Nat.le_of_ble_eq_true rfl) (Nat.le_of_ble_eq_true rfl) d_Steps_init_17 (fun q9 H hP1 hD1 hS1 => ?_)
  clear hP hD hS
  have hP : va_P (dC, dI) vwCl [(h0, .inr (0, [.ref q5, .null, .null, .int 0, .null, .null, .int 0])), (q5, .inl (ct 0, 400, .inl (fun _ => 0))), (q9, .inl (ct 0, 400, .inl (fun _ => 0)))] H := hP1
  have hD : va_D A [(h0, .inr (0, [.ref q5, .null, .null, .int 0, .null, .null, .int 0])), (q5, .inl (ct 0, 400, .inl (fun _ => 0))), (q9, .inl (ct 0, 400, .inl (fun _ => 0)))] := hD1
  have hS := hS1
  clear hP1 hD1 hS1
  refine va_putF (D := (dC, dI)) (ci := 0) (v := .ref q9) (ty := .array .int) (C := R_Steps) (T := T_Steps) (N := 7) hx hb hts in_Steps ty_Steps tyok_Steps nm_Steps hown hK hP hD hS 0 rfl rfl 1 (by decide) (hts _ fl_Steps_15) (fun _ h9 => h9) rfl hin rfl (by decide +kernel) rfl rfl (Nat.le_of_ble_eq_true rfl) d_Steps_init_19 (fun H locs hP1 hD1 hS1 => ?_)
  clear hP hD hS
  have hP : va_P (dC, dI) vwCl [(h0, .inr (0, [.ref q5, .ref q9, .null, .int 0, .null, .null, .int 0])), (q5, .inl (ct 0, 400, .inl (fun _ => 0))), (q9, .inl (ct 0, 400, .inl (fun _ => 0)))] H := hP1
  have hD : va_D A [(h0, .inr (0, [.ref q5, .ref q9, .null, .int 0, .null, .null, .int 0])), (q5, .inl (ct 0, 400, .inl (fun _ => 0))), (q9, .inl (ct 0, 400, .inl (fun _ => 0)))] := hD1
  have hS := hS1
  clear hP1 hD1 hS1
  refine lv_aload_n hx hb d_Steps_init_22 rfl (lv_at hl 0 rfl) ?_
  refine lv_sipush (v := 400) hx hb d_Steps_init_23 (by decide) ?_
  refine bn_newa (atype := .int) (cT := ct 0) (a0 := (400, .inl (fun _ => 0))) (N' := 400) hx hb (hts _ ac_int) (hK.2 0 _ rfl).2 hP hD hS hA rfl (by decide +kernel) (by decide +kernel) (by decide +kernel) (Nat.le_of_ble_eq_true rfl) (Nat.le_of_ble_eq_true rfl) d_Steps_init_26 (fun q13 H hP1 hD1 hS1 => ?_)
  clear hP hD hS
  have hP : va_P (dC, dI) vwCl [(h0, .inr (0, [.ref q5, .ref q9, .null, .int 0, .null, .null, .int 0])), (q5, .inl (ct 0, 400, .inl (fun _ => 0))), (q9, .inl (ct 0, 400, .inl (fun _ => 0))), (q13, .inl (ct 0, 400, .inl (fun _ => 0)))] H := hP1
  have hD : va_D A [(h0, .inr (0, [.ref q5, .ref q9, .null, .int 0, .null, .null, .int 0])), (q5, .inl (ct 0, 400, .inl (fun _ => 0))), (q9, .inl (ct 0, 400, .inl (fun _ => 0))), (q13, .inl (ct 0, 400, .inl (fun _ => 0)))] := hD1
  have hS := hS1
  clear hP1 hD1 hS1
  refine va_putF (D := (dC, dI)) (ci := 0) (v := .ref q13) (ty := .array .int) (C := R_Steps) (T := T_Steps) (N := 7) hx hb hts in_Steps ty_Steps tyok_Steps nm_Steps hown hK hP hD hS 0 rfl rfl 2 (by decide) (hts _ fl_Steps_18) (fun _ h9 => h9) rfl hin rfl (by decide +kernel) rfl rfl (Nat.le_of_ble_eq_true rfl) d_Steps_init_28 (fun H locs hP1 hD1 hS1 => ?_)
  clear hP hD hS
  have hP : va_P (dC, dI) vwCl [(h0, .inr (0, [.ref q5, .ref q9, .ref q13, .int 0, .null, .null, .int 0])), (q5, .inl (ct 0, 400, .inl (fun _ => 0))), (q9, .inl (ct 0, 400, .inl (fun _ => 0))), (q13, .inl (ct 0, 400, .inl (fun _ => 0)))] H := hP1
  have hD : va_D A [(h0, .inr (0, [.ref q5, .ref q9, .ref q13, .int 0, .null, .null, .int 0])), (q5, .inl (ct 0, 400, .inl (fun _ => 0))), (q9, .inl (ct 0, 400, .inl (fun _ => 0))), (q13, .inl (ct 0, 400, .inl (fun _ => 0)))] := hD1
  have hS := hS1
  clear hP1 hD1 hS1
  refine lv_aload_n hx hb d_Steps_init_31 rfl (lv_at hl 0 rfl) ?_
  refine lv_iconst (v := 0) hx hb d_Steps_init_32 (by decide) ?_
  refine va_put (D := (dC, dI)) (ci := 0) (v := .int (0 : Int32)) (ty := .int) (C := R_Steps) (T := T_Steps) (N := 7) hx hb hts in_Steps ty_Steps tyok_Steps nm_Steps hown hK hP hD hS 0 rfl rfl 3 (by decide) (hts _ fl_Steps_21) (fun _ h9 => h9) rfl (by decide +kernel) rfl rfl (Nat.le_of_ble_eq_true rfl) d_Steps_init_33 (fun H locs hP1 hD1 hS1 => ?_)
  clear hP hD hS
  have hP : va_P (dC, dI) vwCl [(h0, .inr (0, [.ref q5, .ref q9, .ref q13, .int (0 : Int32), .null, .null, .int 0])), (q5, .inl (ct 0, 400, .inl (fun _ => 0))), (q9, .inl (ct 0, 400, .inl (fun _ => 0))), (q13, .inl (ct 0, 400, .inl (fun _ => 0)))] H := hP1
  have hD : va_D A [(h0, .inr (0, [.ref q5, .ref q9, .ref q13, .int (0 : Int32), .null, .null, .int 0])), (q5, .inl (ct 0, 400, .inl (fun _ => 0))), (q9, .inl (ct 0, 400, .inl (fun _ => 0))), (q13, .inl (ct 0, 400, .inl (fun _ => 0)))] := hD1
  have hS := hS1
  clear hP1 hD1 hS1
  refine lv_aload_n hx hb d_Steps_init_36 rfl (lv_at hl 0 rfl) ?_
  refine lv_sipush (v := 401) hx hb d_Steps_init_37 (by decide) ?_
  refine bn_newa (atype := .int) (cT := ct 0) (a0 := (401, .inl (fun _ => 0))) (N' := 401) hx hb (hts _ ac_int) (hK.2 0 _ rfl).2 hP hD hS hA rfl (by decide +kernel) (by decide +kernel) (by decide +kernel) (Nat.le_of_ble_eq_true rfl) (Nat.le_of_ble_eq_true rfl) d_Steps_init_40 (fun q20 H hP1 hD1 hS1 => ?_)
  clear hP hD hS
  have hP : va_P (dC, dI) vwCl [(h0, .inr (0, [.ref q5, .ref q9, .ref q13, .int (0 : Int32), .null, .null, .int 0])), (q5, .inl (ct 0, 400, .inl (fun _ => 0))), (q9, .inl (ct 0, 400, .inl (fun _ => 0))), (q13, .inl (ct 0, 400, .inl (fun _ => 0))), (q20, .inl (ct 0, 401, .inl (fun _ => 0)))] H := hP1
  have hD : va_D A [(h0, .inr (0, [.ref q5, .ref q9, .ref q13, .int (0 : Int32), .null, .null, .int 0])), (q5, .inl (ct 0, 400, .inl (fun _ => 0))), (q9, .inl (ct 0, 400, .inl (fun _ => 0))), (q13, .inl (ct 0, 400, .inl (fun _ => 0))), (q20, .inl (ct 0, 401, .inl (fun _ => 0)))] := hD1
  have hS := hS1
  clear hP1 hD1 hS1
  refine va_putF (D := (dC, dI)) (ci := 0) (v := .ref q20) (ty := .array .int) (C := R_Steps) (T := T_Steps) (N := 7) hx hb hts in_Steps ty_Steps tyok_Steps nm_Steps hown hK hP hD hS 0 rfl rfl 4 (by decide) (hts _ fl_Steps_25) (fun _ h9 => h9) rfl hin rfl (by decide +kernel) rfl rfl (Nat.le_of_ble_eq_true rfl) d_Steps_init_42 (fun H locs hP1 hD1 hS1 => ?_)
  clear hP hD hS
  have hP : va_P (dC, dI) vwCl [(h0, .inr (0, [.ref q5, .ref q9, .ref q13, .int (0 : Int32), .ref q20, .null, .int 0])), (q5, .inl (ct 0, 400, .inl (fun _ => 0))), (q9, .inl (ct 0, 400, .inl (fun _ => 0))), (q13, .inl (ct 0, 400, .inl (fun _ => 0))), (q20, .inl (ct 0, 401, .inl (fun _ => 0)))] H := hP1
  have hD : va_D A [(h0, .inr (0, [.ref q5, .ref q9, .ref q13, .int (0 : Int32), .ref q20, .null, .int 0])), (q5, .inl (ct 0, 400, .inl (fun _ => 0))), (q9, .inl (ct 0, 400, .inl (fun _ => 0))), (q13, .inl (ct 0, 400, .inl (fun _ => 0))), (q20, .inl (ct 0, 401, .inl (fun _ => 0)))] := hD1
  have hS := hS1
  clear hP1 hD1 hS1
  refine lv_aload_n hx hb d_Steps_init_45 rfl (lv_at hl 0 rfl) ?_
  refine lv_sipush (v := 401) hx hb d_Steps_init_46 (by decide) ?_
  refine bn_newa (atype := .char) (cT := ct 2) (a0 := (401, .inl (fun _ => 0))) (N' := 401) hx hb (hts _ ac_char) (hK.2 2 _ rfl).2 hP hD hS hA rfl (by decide +kernel) (by decide +kernel) (by decide +kernel) (Nat.le_of_ble_eq_true rfl) (Nat.le_of_ble_eq_true rfl) d_Steps_init_49 (fun q24 H hP1 hD1 hS1 => ?_)
  clear hP hD hS
  have hP : va_P (dC, dI) vwCl [(h0, .inr (0, [.ref q5, .ref q9, .ref q13, .int (0 : Int32), .ref q20, .null, .int 0])), (q5, .inl (ct 0, 400, .inl (fun _ => 0))), (q9, .inl (ct 0, 400, .inl (fun _ => 0))), (q13, .inl (ct 0, 400, .inl (fun _ => 0))), (q20, .inl (ct 0, 401, .inl (fun _ => 0))), (q24, .inl (ct 2, 401, .inl (fun _ => 0)))] H := hP1
  have hD : va_D A [(h0, .inr (0, [.ref q5, .ref q9, .ref q13, .int (0 : Int32), .ref q20, .null, .int 0])), (q5, .inl (ct 0, 400, .inl (fun _ => 0))), (q9, .inl (ct 0, 400, .inl (fun _ => 0))), (q13, .inl (ct 0, 400, .inl (fun _ => 0))), (q20, .inl (ct 0, 401, .inl (fun _ => 0))), (q24, .inl (ct 2, 401, .inl (fun _ => 0)))] := hD1
  have hS := hS1
  clear hP1 hD1 hS1
  refine va_putF (D := (dC, dI)) (ci := 0) (v := .ref q24) (ty := .array .char) (C := R_Steps) (T := T_Steps) (N := 7) hx hb hts in_Steps ty_Steps tyok_Steps nm_Steps hown hK hP hD hS 0 rfl rfl 5 (by decide) (hts _ fl_Steps_28) (fun _ h9 => h9) rfl hin rfl (by decide +kernel) rfl rfl (Nat.le_of_ble_eq_true rfl) d_Steps_init_51 (fun H locs hP1 hD1 hS1 => ?_)
  clear hP hD hS
  have hP : va_P (dC, dI) vwCl [(h0, .inr (0, [.ref q5, .ref q9, .ref q13, .int (0 : Int32), .ref q20, .ref q24, .int 0])), (q5, .inl (ct 0, 400, .inl (fun _ => 0))), (q9, .inl (ct 0, 400, .inl (fun _ => 0))), (q13, .inl (ct 0, 400, .inl (fun _ => 0))), (q20, .inl (ct 0, 401, .inl (fun _ => 0))), (q24, .inl (ct 2, 401, .inl (fun _ => 0)))] H := hP1
  have hD : va_D A [(h0, .inr (0, [.ref q5, .ref q9, .ref q13, .int (0 : Int32), .ref q20, .ref q24, .int 0])), (q5, .inl (ct 0, 400, .inl (fun _ => 0))), (q9, .inl (ct 0, 400, .inl (fun _ => 0))), (q13, .inl (ct 0, 400, .inl (fun _ => 0))), (q20, .inl (ct 0, 401, .inl (fun _ => 0))), (q24, .inl (ct 2, 401, .inl (fun _ => 0)))] := hD1
  have hS := hS1
  clear hP1 hD1 hS1
  refine lv_aload_n hx hb d_Steps_init_54 rfl (lv_at hl 0 rfl) ?_
  refine lv_iconst (v := 0) hx hb d_Steps_init_55 (by decide) ?_
  refine va_put (D := (dC, dI)) (ci := 0) (v := .int (0 : Int32)) (ty := .int) (C := R_Steps) (T := T_Steps) (N := 7) hx hb hts in_Steps ty_Steps tyok_Steps nm_Steps hown hK hP hD hS 0 rfl rfl 6 (by decide) (hts _ fl_Steps_32) (fun _ h9 => h9) rfl (by decide +kernel) rfl rfl (Nat.le_of_ble_eq_true rfl) d_Steps_init_56 (fun H locs hP1 hD1 hS1 => ?_)
  clear hP hD hS
  have hP : va_P (dC, dI) vwCl [(h0, .inr (0, [.ref q5, .ref q9, .ref q13, .int (0 : Int32), .ref q20, .ref q24, .int (0 : Int32)])), (q5, .inl (ct 0, 400, .inl (fun _ => 0))), (q9, .inl (ct 0, 400, .inl (fun _ => 0))), (q13, .inl (ct 0, 400, .inl (fun _ => 0))), (q20, .inl (ct 0, 401, .inl (fun _ => 0))), (q24, .inl (ct 2, 401, .inl (fun _ => 0)))] H := hP1
  have hD : va_D A [(h0, .inr (0, [.ref q5, .ref q9, .ref q13, .int (0 : Int32), .ref q20, .ref q24, .int (0 : Int32)])), (q5, .inl (ct 0, 400, .inl (fun _ => 0))), (q9, .inl (ct 0, 400, .inl (fun _ => 0))), (q13, .inl (ct 0, 400, .inl (fun _ => 0))), (q20, .inl (ct 0, 401, .inl (fun _ => 0))), (q24, .inl (ct 2, 401, .inl (fun _ => 0)))] := hD1
  have hS := hS1
  clear hP1 hD1 hS1
  have hP9 : va_P (dC, dI) vwCl ((fun u => wSteps ct (u 0) ob0) (fun j => [(fun i => [h0, q5, q9, q13, q20, q24].getD i 0)].getD j (fun _ => 0))) H := hP.sub [0, 1, 2, 3, 4, 5] rfl
  have hD9 : va_D A ((fun u => wSteps ct (u 0) ob0) (fun j => [(fun i => [h0, q5, q9, q13, q20, q24].getD i 0)].getD j (fun _ => 0))) := hD.sub [0, 1, 2, 3, 4, 5] (by decide) rfl
  exact W.vret hx hb hr (fun t ht hW => ⟨⟨(fun j => [(fun i => [h0, q5, q9, q13, q20, q24].getD i 0)].getD j (fun _ => 0)), rfl, rfl, by rw [ht]; exact hP9, hD9⟩, hS.F ht⟩) hS.2.2 d_Steps_init_59
