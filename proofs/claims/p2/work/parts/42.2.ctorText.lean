/-! CONSTRUCTORS -/
abbrev b_Text_init : ByteArray := prog_6_method_1_code
def y_Text_init : MethodName := ⟨R_Text, "<init>", "()V"⟩
theorem df_Text : ∀ j, j < 12 → defaultValue (ty_Text j) = vp_V [.null, .int 0, .null, .int 0, .null, .null, .null, .null, .null, .null, .null, .int 0] j := by decide +kernel
theorem ml_Text_3 : Cond.methodLink "PartFormulas$Text" 3 ⟨"java/lang/Object", "<init>", "()V"⟩ ∈ wsAll := wa_of 114 (by decide +kernel) (by decide +kernel)
theorem fl_Text_9 : Cond.fieldLink "PartFormulas$Text" 9 "PartFormulas$Text" "printed" "[C" ∈ wsAll := wa_of 153 (by decide +kernel) (by decide +kernel)
theorem cl_Text_19 : Cond.classLink "PartFormulas$Text" 19 "PartFormulas$Steps" ∈ wsAll := wa_of 115 (by decide +kernel) (by decide +kernel)
theorem ins_Steps : Cond.instantiable "PartFormulas$Steps" 7 ∈ wsAll := wa_of 116 (by decide +kernel) (by decide +kernel)
theorem cd_Steps_init : Cond.code ⟨"PartFormulas$Steps", "<init>", "()V"⟩ prog_5_method_1_code 1 (none : Option Jvm.ClassFile.FieldType) ∈ wsAll := wa_of 119 (by decide +kernel) (by decide +kernel)
theorem im_Steps_init : Cond.instanceMethod ⟨"PartFormulas$Steps", "<init>", "()V"⟩ ∈ wsAll := wa_of 118 (by decide +kernel) (by decide +kernel)
theorem d_Text_init_0 : decode b_Text_init 0 = .ok (.aload_n 0, 1) := by decide +kernel
theorem d_Text_init_1 : decode b_Text_init 1 = .ok (.invokespecial 3, 3) := by decide +kernel
theorem d_Text_init_4 : decode b_Text_init 4 = .ok (.aload_n 0, 1) := by decide +kernel
theorem d_Text_init_5 : decode b_Text_init 5 = .ok (.sipush 400, 3) := by decide +kernel
theorem d_Text_init_8 : decode b_Text_init 8 = .ok (.newarray .char, 2) := by decide +kernel
theorem d_Text_init_10 : decode b_Text_init 10 = .ok (.putfield 9, 3) := by decide +kernel
theorem d_Text_init_13 : decode b_Text_init 13 = .ok (.aload_n 0, 1) := by decide +kernel
theorem d_Text_init_14 : decode b_Text_init 14 = .ok (.iconst 0, 1) := by decide +kernel
theorem d_Text_init_15 : decode b_Text_init 15 = .ok (.putfield 15, 3) := by decide +kernel
theorem d_Text_init_18 : decode b_Text_init 18 = .ok (.aload_n 0, 1) := by decide +kernel
theorem d_Text_init_19 : decode b_Text_init 19 = .ok (.new 19, 3) := by decide +kernel
theorem d_Text_init_22 : decode b_Text_init 22 = .ok (.dup, 1) := by decide +kernel
theorem d_Text_init_23 : decode b_Text_init 23 = .ok (.invokespecial 21, 3) := by decide +kernel
theorem d_Text_init_26 : decode b_Text_init 26 = .ok (.putfield 22, 3) := by decide +kernel
theorem d_Text_init_29 : decode b_Text_init 29 = .ok (.aload_n 0, 1) := by decide +kernel
theorem d_Text_init_30 : decode b_Text_init 30 = .ok (.iconst 0, 1) := by decide +kernel
theorem d_Text_init_31 : decode b_Text_init 31 = .ok (.putfield 26, 3) := by decide +kernel
theorem d_Text_init_34 : decode b_Text_init 34 = .ok (.aload_n 0, 1) := by decide +kernel
theorem d_Text_init_35 : decode b_Text_init 35 = .ok (.bipush 24, 2) := by decide +kernel
theorem d_Text_init_37 : decode b_Text_init 37 = .ok (.newarray .int, 2) := by decide +kernel
theorem d_Text_init_39 : decode b_Text_init 39 = .ok (.putfield 29, 3) := by decide +kernel
theorem d_Text_init_42 : decode b_Text_init 42 = .ok (.aload_n 0, 1) := by decide +kernel
theorem d_Text_init_43 : decode b_Text_init 43 = .ok (.bipush 24, 2) := by decide +kernel
theorem d_Text_init_45 : decode b_Text_init 45 = .ok (.newarray .int, 2) := by decide +kernel
theorem d_Text_init_47 : decode b_Text_init 47 = .ok (.putfield 33, 3) := by decide +kernel
theorem d_Text_init_50 : decode b_Text_init 50 = .ok (.aload_n 0, 1) := by decide +kernel
theorem d_Text_init_51 : decode b_Text_init 51 = .ok (.bipush 24, 2) := by decide +kernel
theorem d_Text_init_53 : decode b_Text_init 53 = .ok (.newarray .int, 2) := by decide +kernel
theorem d_Text_init_55 : decode b_Text_init 55 = .ok (.putfield 36, 3) := by decide +kernel
theorem d_Text_init_58 : decode b_Text_init 58 = .ok (.aload_n 0, 1) := by decide +kernel
theorem d_Text_init_59 : decode b_Text_init 59 = .ok (.bipush 60, 2) := by decide +kernel
theorem d_Text_init_61 : decode b_Text_init 61 = .ok (.newarray .int, 2) := by decide +kernel
theorem d_Text_init_63 : decode b_Text_init 63 = .ok (.putfield 39, 3) := by decide +kernel
theorem d_Text_init_66 : decode b_Text_init 66 = .ok (.aload_n 0, 1) := by decide +kernel
theorem d_Text_init_67 : decode b_Text_init 67 = .ok (.bipush 60, 2) := by decide +kernel
theorem d_Text_init_69 : decode b_Text_init 69 = .ok (.newarray .long, 2) := by decide +kernel
theorem d_Text_init_71 : decode b_Text_init 71 = .ok (.putfield 42, 3) := by decide +kernel
theorem d_Text_init_74 : decode b_Text_init 74 = .ok (.aload_n 0, 1) := by decide +kernel
theorem d_Text_init_75 : decode b_Text_init 75 = .ok (.bipush 60, 2) := by decide +kernel
theorem d_Text_init_77 : decode b_Text_init 77 = .ok (.newarray .int, 2) := by decide +kernel
theorem d_Text_init_79 : decode b_Text_init 79 = .ok (.putfield 46, 3) := by decide +kernel
theorem d_Text_init_82 : decode b_Text_init 82 = .ok (.aload_n 0, 1) := by decide +kernel
theorem d_Text_init_83 : decode b_Text_init 83 = .ok (.bipush 24, 2) := by decide +kernel
theorem d_Text_init_85 : decode b_Text_init 85 = .ok (.newarray .int, 2) := by decide +kernel
theorem d_Text_init_87 : decode b_Text_init 87 = .ok (.putfield 49, 3) := by decide +kernel
theorem d_Text_init_90 : decode b_Text_init 90 = .ok (.aload_n 0, 1) := by decide +kernel
theorem d_Text_init_91 : decode b_Text_init 91 = .ok (.iconst 0, 1) := by decide +kernel
theorem d_Text_init_92 : decode b_Text_init 92 = .ok (.putfield 52, 3) := by decide +kernel
theorem d_Text_init_95 : decode b_Text_init 95 = .ok (.return_, 1) := by decide +kernel
abbrev ws_Text_init : List Cond := Cond.code y_Text_init b_Text_init 1 none :: wsAll
abbrev rm_Text_init : Room := { frames := 2, cells := 14, slots := 2685, locals := 50 }
set_option maxHeartbeats 4000000 in
set_option maxRecDepth 100000 in
theorem c_Text_init (l : Launch) (ct dC : Nat → ClassId) (dI : Nat → Nat → Nat) (h0 sz : Nat) : Met l y_Text_init ws_Text_init rm_Text_init (bn_Pc h0 (.inr (2, [.null, .int 0, .null, .int 0, .null, .null, .null, .null, .null, .null, .null, .int 0])) ct dC dI sz) (bn_Q h0 ct dC dI (fun u => (wText ct (u 0) (u 1 0) ob0) ++ (wSteps ct (u 1) ob0)) (va_A [(h0, .inr (2, [.null, .int 0, .null, .int 0, .null, .null, .null, .null, .null, .null, .null, .int 0]))] sz)) 14 2685 (va_A [(h0, .inr (2, [.null, .int 0, .null, .int 0, .null, .null, .null, .null, .null, .null, .null, .int 0]))] sz) := by
  refine Met.ofW (cc := b_Text_init) (maxL := 1) (ret := none) (by decide) rfl ?_
  intro p e s m args below meth c s₁ B hml hv
  obtain ⟨rfl, hsz, hP, hK, hnx, hao⟩ := hv
  have hx := B.exec
  have hb := B.bytes
  have hr := B.returns
  have hts : ∀ w ∈ wsAll, w.before [Value.ref h0].toArray s = true := fun w h9 => atoms_spec (ws := ws_Text_init) B.pre w (List.mem_cons_of_mem _ h9)
  have hown : s.vm.findClass R_Text = some m.cls := findClass_of_methodNamed B.named
  have hlocks := B.notSynchronized
  have hin : meth.name = "<init>" := (name_of_methodNamed B.named B.method).1
  subst hsz
  have hD : va_D (va_A [(h0, .inr (2, [.null, .int 0, .null, .int 0, .null, .null, .null, .null, .null, .null, .null, .int 0]))] s.heap.size) [(h0, .inr (2, [.null, .int 0, .null, .int 0, .null, .null, .null, .null, .null, .null, .null, .int 0]))] := bn_D1 (Or.inl ⟨0, _, rfl⟩)
  generalize hAe : va_A [(h0, .inr (2, [.null, .int 0, .null, .int 0, .null, .null, .null, .null, .null, .null, .null, .int 0]))] s.heap.size = A at hD ⊢
  have hA : ∀ q : Nat, s.heap.size ≤ q → A q := fun q h => by rw [← hAe]; exact Or.inr h
  have hS : va_S A s.heap s.heap [] := va_S.rf
  have hl := lv_entry ([.ref h0]) (n := 1) (Nat.le_of_ble_eq_true rfl)
  rw [lg_entry_eq]
  generalize (lg_sl ([.ref h0]) ++ List.replicate (1 - (lg_sl ([.ref h0])).length) Slot.unset).toArray = ls at hl ⊢
  have hl : lv_has ls 1 [(0, .ref h0)] := hl
  refine lv_aload_n hx hb d_Text_init_0 rfl (lv_at hl 0 rfl) ?_
  refine W.objInit hx hb hown (hts _ ml_Text_3) (hts _ im_Object_init) (hts _ cd_Object_init) rfl (by rw [hml]; exact hl.1) rfl d_Text_init_1 (Nat.le_of_ble_eq_true rfl) (Nat.le_of_ble_eq_true rfl) ?_
  refine W.eq (g2 := F0 m 4 ls []) rfl ?_
  refine lv_aload_n hx hb d_Text_init_4 rfl (lv_at hl 0 rfl) ?_
  refine lv_sipush (v := 400) hx hb d_Text_init_5 (by decide) ?_
  refine bn_newa (atype := .char) (cT := ct 2) (a0 := (400, .inl (fun _ => 0))) (N' := 400) hx hb (hts _ ac_char) (hK.2 2 _ rfl).2 hP hD hS hA rfl (by decide +kernel) (by decide +kernel) (by decide +kernel) (Nat.le_of_ble_eq_true rfl) (Nat.le_of_ble_eq_true rfl) d_Text_init_8 (fun q5 H hP1 hD1 hS1 => ?_)
  clear hP hD hS
  have hP : va_P (dC, dI) vwCl [(h0, .inr (2, [.null, .int 0, .null, .int 0, .null, .null, .null, .null, .null, .null, .null, .int 0])), (q5, .inl (ct 2, 400, .inl (fun _ => 0)))] H := hP1
  have hD : va_D A [(h0, .inr (2, [.null, .int 0, .null, .int 0, .null, .null, .null, .null, .null, .null, .null, .int 0])), (q5, .inl (ct 2, 400, .inl (fun _ => 0)))] := hD1
  have hS := hS1
  clear hP1 hD1 hS1
  refine va_putF (D := (dC, dI)) (ci := 2) (v := .ref q5) (ty := .array .char) (C := R_Text) (T := T_Text) (N := 12) hx hb hts in_Text ty_Text tyok_Text nm_Text hown hK hP hD hS 0 rfl rfl 0 (by decide) (hts _ fl_Text_9) (fun _ h9 => h9) rfl hin rfl (by decide +kernel) rfl rfl (Nat.le_of_ble_eq_true rfl) d_Text_init_10 (fun H locs hP1 hD1 hS1 => ?_)
  clear hP hD hS
  have hP : va_P (dC, dI) vwCl [(h0, .inr (2, [.ref q5, .int 0, .null, .int 0, .null, .null, .null, .null, .null, .null, .null, .int 0])), (q5, .inl (ct 2, 400, .inl (fun _ => 0)))] H := hP1
  have hD : va_D A [(h0, .inr (2, [.ref q5, .int 0, .null, .int 0, .null, .null, .null, .null, .null, .null, .null, .int 0])), (q5, .inl (ct 2, 400, .inl (fun _ => 0)))] := hD1
  have hS := hS1
  clear hP1 hD1 hS1
  refine lv_aload_n hx hb d_Text_init_13 rfl (lv_at hl 0 rfl) ?_
  refine lv_iconst (v := 0) hx hb d_Text_init_14 (by decide) ?_
  refine va_put (D := (dC, dI)) (ci := 2) (v := .int (0 : Int32)) (ty := .int) (C := R_Text) (T := T_Text) (N := 12) hx hb hts in_Text ty_Text tyok_Text nm_Text hown hK hP hD hS 0 rfl rfl 1 (by decide) (hts _ fl_Text_15) (fun _ h9 => h9) rfl (by decide +kernel) rfl rfl (Nat.le_of_ble_eq_true rfl) d_Text_init_15 (fun H locs hP1 hD1 hS1 => ?_)
  clear hP hD hS
  have hP : va_P (dC, dI) vwCl [(h0, .inr (2, [.ref q5, .int (0 : Int32), .null, .int 0, .null, .null, .null, .null, .null, .null, .null, .int 0])), (q5, .inl (ct 2, 400, .inl (fun _ => 0)))] H := hP1
  have hD : va_D A [(h0, .inr (2, [.ref q5, .int (0 : Int32), .null, .int 0, .null, .null, .null, .null, .null, .null, .null, .int 0])), (q5, .inl (ct 2, 400, .inl (fun _ => 0)))] := hD1
  have hS := hS1
  clear hP1 hD1 hS1
  refine lv_aload_n hx hb d_Text_init_18 rfl (lv_at hl 0 rfl) ?_
  refine va_new (ci := 0) (fs := [.null, .null, .null, .int 0, .null, .null, .int 0]) (C := R_Steps) (T := T_Steps) (N := 7) hx hb hts in_Steps ty_Steps tyok_Steps hown (hts _ cl_Text_19) (hts _ ins_Steps) (hts _ ini_Steps) hK hP hD hS hA rfl df_Steps (Nat.le_of_ble_eq_true rfl) (Nat.le_of_ble_eq_true rfl) d_Text_init_19 (fun q11 H hP1 hD1 hS1 => ?_)
  clear hP hD hS
  have hP := hP1
  have hD := hD1
  have hS := hS1
  clear hP1 hD1 hS1
  refine lv_dup hx hb d_Text_init_22 rfl ?_
  refine bn_call (wr := [(h0, .inr (2, [.ref q5, .int (0 : Int32), .null, .int 0, .null, .null, .null, .null, .null, .null, .null, .int 0])), (q5, .inl (ct 2, 400, .inl (fun _ => 0)))]) (F := (fun u => wSteps ct (u 0) ob0)) (va_runIN (As := []) (rest := [.ref q11, .ref h0]) ⟨hx, hb, hml, hown, hts⟩ (c_Steps_init l ct dC dI q11 H.size) ⟨va_cnB 0 hts (gd_C cd_Steps_init) rfl rfl rfl hnx.2.2.1 (hts _ ini_Steps) (by decide +kernel) ⟨Nat.le_of_ble_eq_true rfl, Nat.le_of_ble_eq_true rfl⟩, rfl, hts _ im_Steps_init⟩ (bn_pre hP hK hnx hao) rfl rfl hl.1 rfl (Nat.le_of_ble_eq_true rfl) d_Text_init_23 ⟨Nat.le_of_ble_eq_true rfl, Nat.le_of_ble_eq_true rfl⟩) hP hD hS hA (fun u13 H locs hu hP1 hD1 hS1 => ?_)
  clear hP hD hS
  subst hu
  have hP := hP1
  have hD := hD1
  have hS := hS1
  clear hP hD hS
  have hP : va_P (dC, dI) vwCl ([(h0, .inr (2, [.ref q5, .int (0 : Int32), .null, .int 0, .null, .null, .null, .null, .null, .null, .null, .int 0])), (q5, .inl (ct 2, 400, .inl (fun _ => 0)))] ++ (wSteps ct (u13 0) ob0)) H := hP1
  have hD : va_D A ([(h0, .inr (2, [.ref q5, .int (0 : Int32), .null, .int 0, .null, .null, .null, .null, .null, .null, .null, .int 0])), (q5, .inl (ct 2, 400, .inl (fun _ => 0)))] ++ (wSteps ct (u13 0) ob0)) := hD1
  have hS := hS1
  clear hP1 hD1 hS1
  obtain ⟨Z1, hZ1⟩ : ∃ z : va_W, z = (wSteps ct (u13 0) ob0) := ⟨_, rfl⟩
  rw [← hZ1] at hP hD
  refine va_putF (D := (dC, dI)) (ci := 2) (v := .ref (u13 0 0)) (ty := .object "PartFormulas$Steps") (C := R_Text) (T := T_Text) (N := 12) hx hb hts in_Text ty_Text tyok_Text nm_Text hown hK hP hD hS 0 rfl rfl 2 (by decide) (hts _ fl_Text_22) (fun _ h9 => h9) rfl hin rfl (by decide +kernel) rfl rfl (Nat.le_of_ble_eq_true rfl) d_Text_init_26 (fun H locs hP1 hD1 hS1 => ?_)
  clear hP hD hS
  have hP : va_P (dC, dI) vwCl ([(h0, .inr (2, [.ref q5, .int (0 : Int32), .ref (u13 0 0), .int 0, .null, .null, .null, .null, .null, .null, .null, .int 0])), (q5, .inl (ct 2, 400, .inl (fun _ => 0)))] ++ Z1) H := hP1
  have hD : va_D A ([(h0, .inr (2, [.ref q5, .int (0 : Int32), .ref (u13 0 0), .int 0, .null, .null, .null, .null, .null, .null, .null, .int 0])), (q5, .inl (ct 2, 400, .inl (fun _ => 0)))] ++ Z1) := hD1
  have hS := hS1
  clear hP1 hD1 hS1
  refine lv_aload_n hx hb d_Text_init_29 rfl (lv_at hl 0 rfl) ?_
  refine lv_iconst (v := 0) hx hb d_Text_init_30 (by decide) ?_
  refine va_put (D := (dC, dI)) (ci := 2) (v := .int (0 : Int32)) (ty := .int) (C := R_Text) (T := T_Text) (N := 12) hx hb hts in_Text ty_Text tyok_Text nm_Text hown hK hP hD hS 0 rfl rfl 3 (by decide) (hts _ fl_Text_26) (fun _ h9 => h9) rfl (by decide +kernel) rfl rfl (Nat.le_of_ble_eq_true rfl) d_Text_init_31 (fun H locs hP1 hD1 hS1 => ?_)
  clear hP hD hS
  have hP : va_P (dC, dI) vwCl ([(h0, .inr (2, [.ref q5, .int (0 : Int32), .ref (u13 0 0), .int (0 : Int32), .null, .null, .null, .null, .null, .null, .null, .int 0])), (q5, .inl (ct 2, 400, .inl (fun _ => 0)))] ++ Z1) H := hP1
  have hD : va_D A ([(h0, .inr (2, [.ref q5, .int (0 : Int32), .ref (u13 0 0), .int (0 : Int32), .null, .null, .null, .null, .null, .null, .null, .int 0])), (q5, .inl (ct 2, 400, .inl (fun _ => 0)))] ++ Z1) := hD1
  have hS := hS1
  clear hP1 hD1 hS1
  refine lv_aload_n hx hb d_Text_init_34 rfl (lv_at hl 0 rfl) ?_
  refine lv_bipush (v := 24) hx hb d_Text_init_35 (by decide) ?_
  refine bn_newa (atype := .int) (cT := ct 0) (a0 := (24, .inl (fun _ => 0))) (N' := 24) hx hb (hts _ ac_int) (hK.2 0 _ rfl).2 hP hD hS hA rfl (by decide +kernel) (by decide +kernel) (by decide +kernel) (Nat.le_of_ble_eq_true rfl) (Nat.le_of_ble_eq_true rfl) d_Text_init_37 (fun q20 H hP1 hD1 hS1 => ?_)
  clear hP hD hS
  have hP : va_P (dC, dI) vwCl ([(h0, .inr (2, [.ref q5, .int (0 : Int32), .ref (u13 0 0), .int (0 : Int32), .null, .null, .null, .null, .null, .null, .null, .int 0])), (q5, .inl (ct 2, 400, .inl (fun _ => 0))), (q20, .inl (ct 0, 24, .inl (fun _ => 0)))] ++ Z1) H := hP1.swap
  have hD : va_D A ([(h0, .inr (2, [.ref q5, .int (0 : Int32), .ref (u13 0 0), .int (0 : Int32), .null, .null, .null, .null, .null, .null, .null, .int 0])), (q5, .inl (ct 2, 400, .inl (fun _ => 0))), (q20, .inl (ct 0, 24, .inl (fun _ => 0)))] ++ Z1) := hD1.swap
  have hS := hS1
  clear hP1 hD1 hS1
  refine va_putF (D := (dC, dI)) (ci := 2) (v := .ref q20) (ty := .array .int) (C := R_Text) (T := T_Text) (N := 12) hx hb hts in_Text ty_Text tyok_Text nm_Text hown hK hP hD hS 0 rfl rfl 4 (by decide) (hts _ fl_Text_29) (fun _ h9 => h9) rfl hin rfl (by decide +kernel) rfl rfl (Nat.le_of_ble_eq_true rfl) d_Text_init_39 (fun H locs hP1 hD1 hS1 => ?_)
  clear hP hD hS
  have hP : va_P (dC, dI) vwCl ([(h0, .inr (2, [.ref q5, .int (0 : Int32), .ref (u13 0 0), .int (0 : Int32), .ref q20, .null, .null, .null, .null, .null, .null, .int 0])), (q5, .inl (ct 2, 400, .inl (fun _ => 0))), (q20, .inl (ct 0, 24, .inl (fun _ => 0)))] ++ Z1) H := hP1
  have hD : va_D A ([(h0, .inr (2, [.ref q5, .int (0 : Int32), .ref (u13 0 0), .int (0 : Int32), .ref q20, .null, .null, .null, .null, .null, .null, .int 0])), (q5, .inl (ct 2, 400, .inl (fun _ => 0))), (q20, .inl (ct 0, 24, .inl (fun _ => 0)))] ++ Z1) := hD1
  have hS := hS1
  clear hP1 hD1 hS1
  refine lv_aload_n hx hb d_Text_init_42 rfl (lv_at hl 0 rfl) ?_
  refine lv_bipush (v := 24) hx hb d_Text_init_43 (by decide) ?_
  refine bn_newa (atype := .int) (cT := ct 0) (a0 := (24, .inl (fun _ => 0))) (N' := 24) hx hb (hts _ ac_int) (hK.2 0 _ rfl).2 hP hD hS hA rfl (by decide +kernel) (by decide +kernel) (by decide +kernel) (Nat.le_of_ble_eq_true rfl) (Nat.le_of_ble_eq_true rfl) d_Text_init_45 (fun q24 H hP1 hD1 hS1 => ?_)
  clear hP hD hS
  have hP : va_P (dC, dI) vwCl ([(h0, .inr (2, [.ref q5, .int (0 : Int32), .ref (u13 0 0), .int (0 : Int32), .ref q20, .null, .null, .null, .null, .null, .null, .int 0])), (q5, .inl (ct 2, 400, .inl (fun _ => 0))), (q20, .inl (ct 0, 24, .inl (fun _ => 0))), (q24, .inl (ct 0, 24, .inl (fun _ => 0)))] ++ Z1) H := hP1.swap
  have hD : va_D A ([(h0, .inr (2, [.ref q5, .int (0 : Int32), .ref (u13 0 0), .int (0 : Int32), .ref q20, .null, .null, .null, .null, .null, .null, .int 0])), (q5, .inl (ct 2, 400, .inl (fun _ => 0))), (q20, .inl (ct 0, 24, .inl (fun _ => 0))), (q24, .inl (ct 0, 24, .inl (fun _ => 0)))] ++ Z1) := hD1.swap
  have hS := hS1
  clear hP1 hD1 hS1
  refine va_putF (D := (dC, dI)) (ci := 2) (v := .ref q24) (ty := .array .int) (C := R_Text) (T := T_Text) (N := 12) hx hb hts in_Text ty_Text tyok_Text nm_Text hown hK hP hD hS 0 rfl rfl 5 (by decide) (hts _ fl_Text_33) (fun _ h9 => h9) rfl hin rfl (by decide +kernel) rfl rfl (Nat.le_of_ble_eq_true rfl) d_Text_init_47 (fun H locs hP1 hD1 hS1 => ?_)
  clear hP hD hS
  have hP : va_P (dC, dI) vwCl ([(h0, .inr (2, [.ref q5, .int (0 : Int32), .ref (u13 0 0), .int (0 : Int32), .ref q20, .ref q24, .null, .null, .null, .null, .null, .int 0])), (q5, .inl (ct 2, 400, .inl (fun _ => 0))), (q20, .inl (ct 0, 24, .inl (fun _ => 0))), (q24, .inl (ct 0, 24, .inl (fun _ => 0)))] ++ Z1) H := hP1
  have hD : va_D A ([(h0, .inr (2, [.ref q5, .int (0 : Int32), .ref (u13 0 0), .int (0 : Int32), .ref q20, .ref q24, .null, .null, .null, .null, .null, .int 0])), (q5, .inl (ct 2, 400, .inl (fun _ => 0))), (q20, .inl (ct 0, 24, .inl (fun _ => 0))), (q24, .inl (ct 0, 24, .inl (fun _ => 0)))] ++ Z1) := hD1
  have hS := hS1
  clear hP1 hD1 hS1
  refine lv_aload_n hx hb d_Text_init_50 rfl (lv_at hl 0 rfl) ?_
  refine lv_bipush (v := 24) hx hb d_Text_init_51 (by decide) ?_
  refine bn_newa (atype := .int) (cT := ct 0) (a0 := (24, .inl (fun _ => 0))) (N' := 24) hx hb (hts _ ac_int) (hK.2 0 _ rfl).2 hP hD hS hA rfl (by decide +kernel) (by decide +kernel) (by decide +kernel) (Nat.le_of_ble_eq_true rfl) (Nat.le_of_ble_eq_true rfl) d_Text_init_53 (fun q28 H hP1 hD1 hS1 => ?_)
  clear hP hD hS
  have hP : va_P (dC, dI) vwCl ([(h0, .inr (2, [.ref q5, .int (0 : Int32), .ref (u13 0 0), .int (0 : Int32), .ref q20, .ref q24, .null, .null, .null, .null, .null, .int 0])), (q5, .inl (ct 2, 400, .inl (fun _ => 0))), (q20, .inl (ct 0, 24, .inl (fun _ => 0))), (q24, .inl (ct 0, 24, .inl (fun _ => 0))), (q28, .inl (ct 0, 24, .inl (fun _ => 0)))] ++ Z1) H := hP1.swap
  have hD : va_D A ([(h0, .inr (2, [.ref q5, .int (0 : Int32), .ref (u13 0 0), .int (0 : Int32), .ref q20, .ref q24, .null, .null, .null, .null, .null, .int 0])), (q5, .inl (ct 2, 400, .inl (fun _ => 0))), (q20, .inl (ct 0, 24, .inl (fun _ => 0))), (q24, .inl (ct 0, 24, .inl (fun _ => 0))), (q28, .inl (ct 0, 24, .inl (fun _ => 0)))] ++ Z1) := hD1.swap
  have hS := hS1
  clear hP1 hD1 hS1
  refine va_putF (D := (dC, dI)) (ci := 2) (v := .ref q28) (ty := .array .int) (C := R_Text) (T := T_Text) (N := 12) hx hb hts in_Text ty_Text tyok_Text nm_Text hown hK hP hD hS 0 rfl rfl 6 (by decide) (hts _ fl_Text_36) (fun _ h9 => h9) rfl hin rfl (by decide +kernel) rfl rfl (Nat.le_of_ble_eq_true rfl) d_Text_init_55 (fun H locs hP1 hD1 hS1 => ?_)
  clear hP hD hS
  have hP : va_P (dC, dI) vwCl ([(h0, .inr (2, [.ref q5, .int (0 : Int32), .ref (u13 0 0), .int (0 : Int32), .ref q20, .ref q24, .ref q28, .null, .null, .null, .null, .int 0])), (q5, .inl (ct 2, 400, .inl (fun _ => 0))), (q20, .inl (ct 0, 24, .inl (fun _ => 0))), (q24, .inl (ct 0, 24, .inl (fun _ => 0))), (q28, .inl (ct 0, 24, .inl (fun _ => 0)))] ++ Z1) H := hP1
  have hD : va_D A ([(h0, .inr (2, [.ref q5, .int (0 : Int32), .ref (u13 0 0), .int (0 : Int32), .ref q20, .ref q24, .ref q28, .null, .null, .null, .null, .int 0])), (q5, .inl (ct 2, 400, .inl (fun _ => 0))), (q20, .inl (ct 0, 24, .inl (fun _ => 0))), (q24, .inl (ct 0, 24, .inl (fun _ => 0))), (q28, .inl (ct 0, 24, .inl (fun _ => 0)))] ++ Z1) := hD1
  have hS := hS1
  clear hP1 hD1 hS1
  refine lv_aload_n hx hb d_Text_init_58 rfl (lv_at hl 0 rfl) ?_
  refine lv_bipush (v := 60) hx hb d_Text_init_59 (by decide) ?_
  refine bn_newa (atype := .int) (cT := ct 0) (a0 := (60, .inl (fun _ => 0))) (N' := 60) hx hb (hts _ ac_int) (hK.2 0 _ rfl).2 hP hD hS hA rfl (by decide +kernel) (by decide +kernel) (by decide +kernel) (Nat.le_of_ble_eq_true rfl) (Nat.le_of_ble_eq_true rfl) d_Text_init_61 (fun q32 H hP1 hD1 hS1 => ?_)
  clear hP hD hS
  have hP : va_P (dC, dI) vwCl ([(h0, .inr (2, [.ref q5, .int (0 : Int32), .ref (u13 0 0), .int (0 : Int32), .ref q20, .ref q24, .ref q28, .null, .null, .null, .null, .int 0])), (q5, .inl (ct 2, 400, .inl (fun _ => 0))), (q20, .inl (ct 0, 24, .inl (fun _ => 0))), (q24, .inl (ct 0, 24, .inl (fun _ => 0))), (q28, .inl (ct 0, 24, .inl (fun _ => 0))), (q32, .inl (ct 0, 60, .inl (fun _ => 0)))] ++ Z1) H := hP1.swap
  have hD : va_D A ([(h0, .inr (2, [.ref q5, .int (0 : Int32), .ref (u13 0 0), .int (0 : Int32), .ref q20, .ref q24, .ref q28, .null, .null, .null, .null, .int 0])), (q5, .inl (ct 2, 400, .inl (fun _ => 0))), (q20, .inl (ct 0, 24, .inl (fun _ => 0))), (q24, .inl (ct 0, 24, .inl (fun _ => 0))), (q28, .inl (ct 0, 24, .inl (fun _ => 0))), (q32, .inl (ct 0, 60, .inl (fun _ => 0)))] ++ Z1) := hD1.swap
  have hS := hS1
  clear hP1 hD1 hS1
  refine va_putF (D := (dC, dI)) (ci := 2) (v := .ref q32) (ty := .array .int) (C := R_Text) (T := T_Text) (N := 12) hx hb hts in_Text ty_Text tyok_Text nm_Text hown hK hP hD hS 0 rfl rfl 7 (by decide) (hts _ fl_Text_39) (fun _ h9 => h9) rfl hin rfl (by decide +kernel) rfl rfl (Nat.le_of_ble_eq_true rfl) d_Text_init_63 (fun H locs hP1 hD1 hS1 => ?_)
  clear hP hD hS
  have hP : va_P (dC, dI) vwCl ([(h0, .inr (2, [.ref q5, .int (0 : Int32), .ref (u13 0 0), .int (0 : Int32), .ref q20, .ref q24, .ref q28, .ref q32, .null, .null, .null, .int 0])), (q5, .inl (ct 2, 400, .inl (fun _ => 0))), (q20, .inl (ct 0, 24, .inl (fun _ => 0))), (q24, .inl (ct 0, 24, .inl (fun _ => 0))), (q28, .inl (ct 0, 24, .inl (fun _ => 0))), (q32, .inl (ct 0, 60, .inl (fun _ => 0)))] ++ Z1) H := hP1
  have hD : va_D A ([(h0, .inr (2, [.ref q5, .int (0 : Int32), .ref (u13 0 0), .int (0 : Int32), .ref q20, .ref q24, .ref q28, .ref q32, .null, .null, .null, .int 0])), (q5, .inl (ct 2, 400, .inl (fun _ => 0))), (q20, .inl (ct 0, 24, .inl (fun _ => 0))), (q24, .inl (ct 0, 24, .inl (fun _ => 0))), (q28, .inl (ct 0, 24, .inl (fun _ => 0))), (q32, .inl (ct 0, 60, .inl (fun _ => 0)))] ++ Z1) := hD1
  have hS := hS1
  clear hP1 hD1 hS1
  refine lv_aload_n hx hb d_Text_init_66 rfl (lv_at hl 0 rfl) ?_
  refine lv_bipush (v := 60) hx hb d_Text_init_67 (by decide) ?_
  refine bn_newa (atype := .long) (cT := ct 1) (a0 := (60, .inr (.inl (fun _ => 0)))) (N' := 60) hx hb (hts _ ac_long) (hK.2 1 _ rfl).2 hP hD hS hA rfl (by decide +kernel) (by decide +kernel) (by decide +kernel) (Nat.le_of_ble_eq_true rfl) (Nat.le_of_ble_eq_true rfl) d_Text_init_69 (fun q36 H hP1 hD1 hS1 => ?_)
  clear hP hD hS
  have hP : va_P (dC, dI) vwCl ([(h0, .inr (2, [.ref q5, .int (0 : Int32), .ref (u13 0 0), .int (0 : Int32), .ref q20, .ref q24, .ref q28, .ref q32, .null, .null, .null, .int 0])), (q5, .inl (ct 2, 400, .inl (fun _ => 0))), (q20, .inl (ct 0, 24, .inl (fun _ => 0))), (q24, .inl (ct 0, 24, .inl (fun _ => 0))), (q28, .inl (ct 0, 24, .inl (fun _ => 0))), (q32, .inl (ct 0, 60, .inl (fun _ => 0))), (q36, .inl (ct 1, 60, .inr (.inl (fun _ => 0))))] ++ Z1) H := hP1.swap
  have hD : va_D A ([(h0, .inr (2, [.ref q5, .int (0 : Int32), .ref (u13 0 0), .int (0 : Int32), .ref q20, .ref q24, .ref q28, .ref q32, .null, .null, .null, .int 0])), (q5, .inl (ct 2, 400, .inl (fun _ => 0))), (q20, .inl (ct 0, 24, .inl (fun _ => 0))), (q24, .inl (ct 0, 24, .inl (fun _ => 0))), (q28, .inl (ct 0, 24, .inl (fun _ => 0))), (q32, .inl (ct 0, 60, .inl (fun _ => 0))), (q36, .inl (ct 1, 60, .inr (.inl (fun _ => 0))))] ++ Z1) := hD1.swap
  have hS := hS1
  clear hP1 hD1 hS1
  refine va_putF (D := (dC, dI)) (ci := 2) (v := .ref q36) (ty := .array .long) (C := R_Text) (T := T_Text) (N := 12) hx hb hts in_Text ty_Text tyok_Text nm_Text hown hK hP hD hS 0 rfl rfl 8 (by decide) (hts _ fl_Text_42) (fun _ h9 => h9) rfl hin rfl (by decide +kernel) rfl rfl (Nat.le_of_ble_eq_true rfl) d_Text_init_71 (fun H locs hP1 hD1 hS1 => ?_)
  clear hP hD hS
  have hP : va_P (dC, dI) vwCl ([(h0, .inr (2, [.ref q5, .int (0 : Int32), .ref (u13 0 0), .int (0 : Int32), .ref q20, .ref q24, .ref q28, .ref q32, .ref q36, .null, .null, .int 0])), (q5, .inl (ct 2, 400, .inl (fun _ => 0))), (q20, .inl (ct 0, 24, .inl (fun _ => 0))), (q24, .inl (ct 0, 24, .inl (fun _ => 0))), (q28, .inl (ct 0, 24, .inl (fun _ => 0))), (q32, .inl (ct 0, 60, .inl (fun _ => 0))), (q36, .inl (ct 1, 60, .inr (.inl (fun _ => 0))))] ++ Z1) H := hP1
  have hD : va_D A ([(h0, .inr (2, [.ref q5, .int (0 : Int32), .ref (u13 0 0), .int (0 : Int32), .ref q20, .ref q24, .ref q28, .ref q32, .ref q36, .null, .null, .int 0])), (q5, .inl (ct 2, 400, .inl (fun _ => 0))), (q20, .inl (ct 0, 24, .inl (fun _ => 0))), (q24, .inl (ct 0, 24, .inl (fun _ => 0))), (q28, .inl (ct 0, 24, .inl (fun _ => 0))), (q32, .inl (ct 0, 60, .inl (fun _ => 0))), (q36, .inl (ct 1, 60, .inr (.inl (fun _ => 0))))] ++ Z1) := hD1
  have hS := hS1
  clear hP1 hD1 hS1
  refine lv_aload_n hx hb d_Text_init_74 rfl (lv_at hl 0 rfl) ?_
  refine lv_bipush (v := 60) hx hb d_Text_init_75 (by decide) ?_
  refine bn_newa (atype := .int) (cT := ct 0) (a0 := (60, .inl (fun _ => 0))) (N' := 60) hx hb (hts _ ac_int) (hK.2 0 _ rfl).2 hP hD hS hA rfl (by decide +kernel) (by decide +kernel) (by decide +kernel) (Nat.le_of_ble_eq_true rfl) (Nat.le_of_ble_eq_true rfl) d_Text_init_77 (fun q40 H hP1 hD1 hS1 => ?_)
  clear hP hD hS
  have hP : va_P (dC, dI) vwCl ([(h0, .inr (2, [.ref q5, .int (0 : Int32), .ref (u13 0 0), .int (0 : Int32), .ref q20, .ref q24, .ref q28, .ref q32, .ref q36, .null, .null, .int 0])), (q5, .inl (ct 2, 400, .inl (fun _ => 0))), (q20, .inl (ct 0, 24, .inl (fun _ => 0))), (q24, .inl (ct 0, 24, .inl (fun _ => 0))), (q28, .inl (ct 0, 24, .inl (fun _ => 0))), (q32, .inl (ct 0, 60, .inl (fun _ => 0))), (q36, .inl (ct 1, 60, .inr (.inl (fun _ => 0)))), (q40, .inl (ct 0, 60, .inl (fun _ => 0)))] ++ Z1) H := hP1.swap
  have hD : va_D A ([(h0, .inr (2, [.ref q5, .int (0 : Int32), .ref (u13 0 0), .int (0 : Int32), .ref q20, .ref q24, .ref q28, .ref q32, .ref q36, .null, .null, .int 0])), (q5, .inl (ct 2, 400, .inl (fun _ => 0))), (q20, .inl (ct 0, 24, .inl (fun _ => 0))), (q24, .inl (ct 0, 24, .inl (fun _ => 0))), (q28, .inl (ct 0, 24, .inl (fun _ => 0))), (q32, .inl (ct 0, 60, .inl (fun _ => 0))), (q36, .inl (ct 1, 60, .inr (.inl (fun _ => 0)))), (q40, .inl (ct 0, 60, .inl (fun _ => 0)))] ++ Z1) := hD1.swap
  have hS := hS1
  clear hP1 hD1 hS1
  refine va_putF (D := (dC, dI)) (ci := 2) (v := .ref q40) (ty := .array .int) (C := R_Text) (T := T_Text) (N := 12) hx hb hts in_Text ty_Text tyok_Text nm_Text hown hK hP hD hS 0 rfl rfl 9 (by decide) (hts _ fl_Text_46) (fun _ h9 => h9) rfl hin rfl (by decide +kernel) rfl rfl (Nat.le_of_ble_eq_true rfl) d_Text_init_79 (fun H locs hP1 hD1 hS1 => ?_)
  clear hP hD hS
  have hP : va_P (dC, dI) vwCl ([(h0, .inr (2, [.ref q5, .int (0 : Int32), .ref (u13 0 0), .int (0 : Int32), .ref q20, .ref q24, .ref q28, .ref q32, .ref q36, .ref q40, .null, .int 0])), (q5, .inl (ct 2, 400, .inl (fun _ => 0))), (q20, .inl (ct 0, 24, .inl (fun _ => 0))), (q24, .inl (ct 0, 24, .inl (fun _ => 0))), (q28, .inl (ct 0, 24, .inl (fun _ => 0))), (q32, .inl (ct 0, 60, .inl (fun _ => 0))), (q36, .inl (ct 1, 60, .inr (.inl (fun _ => 0)))), (q40, .inl (ct 0, 60, .inl (fun _ => 0)))] ++ Z1) H := hP1
  have hD : va_D A ([(h0, .inr (2, [.ref q5, .int (0 : Int32), .ref (u13 0 0), .int (0 : Int32), .ref q20, .ref q24, .ref q28, .ref q32, .ref q36, .ref q40, .null, .int 0])), (q5, .inl (ct 2, 400, .inl (fun _ => 0))), (q20, .inl (ct 0, 24, .inl (fun _ => 0))), (q24, .inl (ct 0, 24, .inl (fun _ => 0))), (q28, .inl (ct 0, 24, .inl (fun _ => 0))), (q32, .inl (ct 0, 60, .inl (fun _ => 0))), (q36, .inl (ct 1, 60, .inr (.inl (fun _ => 0)))), (q40, .inl (ct 0, 60, .inl (fun _ => 0)))] ++ Z1) := hD1
  have hS := hS1
  clear hP1 hD1 hS1
  refine lv_aload_n hx hb d_Text_init_82 rfl (lv_at hl 0 rfl) ?_
  refine lv_bipush (v := 24) hx hb d_Text_init_83 (by decide) ?_
  refine bn_newa (atype := .int) (cT := ct 0) (a0 := (24, .inl (fun _ => 0))) (N' := 24) hx hb (hts _ ac_int) (hK.2 0 _ rfl).2 hP hD hS hA rfl (by decide +kernel) (by decide +kernel) (by decide +kernel) (Nat.le_of_ble_eq_true rfl) (Nat.le_of_ble_eq_true rfl) d_Text_init_85 (fun q44 H hP1 hD1 hS1 => ?_)
  clear hP hD hS
  have hP : va_P (dC, dI) vwCl ([(h0, .inr (2, [.ref q5, .int (0 : Int32), .ref (u13 0 0), .int (0 : Int32), .ref q20, .ref q24, .ref q28, .ref q32, .ref q36, .ref q40, .null, .int 0])), (q5, .inl (ct 2, 400, .inl (fun _ => 0))), (q20, .inl (ct 0, 24, .inl (fun _ => 0))), (q24, .inl (ct 0, 24, .inl (fun _ => 0))), (q28, .inl (ct 0, 24, .inl (fun _ => 0))), (q32, .inl (ct 0, 60, .inl (fun _ => 0))), (q36, .inl (ct 1, 60, .inr (.inl (fun _ => 0)))), (q40, .inl (ct 0, 60, .inl (fun _ => 0))), (q44, .inl (ct 0, 24, .inl (fun _ => 0)))] ++ Z1) H := hP1.swap
  have hD : va_D A ([(h0, .inr (2, [.ref q5, .int (0 : Int32), .ref (u13 0 0), .int (0 : Int32), .ref q20, .ref q24, .ref q28, .ref q32, .ref q36, .ref q40, .null, .int 0])), (q5, .inl (ct 2, 400, .inl (fun _ => 0))), (q20, .inl (ct 0, 24, .inl (fun _ => 0))), (q24, .inl (ct 0, 24, .inl (fun _ => 0))), (q28, .inl (ct 0, 24, .inl (fun _ => 0))), (q32, .inl (ct 0, 60, .inl (fun _ => 0))), (q36, .inl (ct 1, 60, .inr (.inl (fun _ => 0)))), (q40, .inl (ct 0, 60, .inl (fun _ => 0))), (q44, .inl (ct 0, 24, .inl (fun _ => 0)))] ++ Z1) := hD1.swap
  have hS := hS1
  clear hP1 hD1 hS1
  refine va_putF (D := (dC, dI)) (ci := 2) (v := .ref q44) (ty := .array .int) (C := R_Text) (T := T_Text) (N := 12) hx hb hts in_Text ty_Text tyok_Text nm_Text hown hK hP hD hS 0 rfl rfl 10 (by decide) (hts _ fl_Text_49) (fun _ h9 => h9) rfl hin rfl (by decide +kernel) rfl rfl (Nat.le_of_ble_eq_true rfl) d_Text_init_87 (fun H locs hP1 hD1 hS1 => ?_)
  clear hP hD hS
  have hP : va_P (dC, dI) vwCl ([(h0, .inr (2, [.ref q5, .int (0 : Int32), .ref (u13 0 0), .int (0 : Int32), .ref q20, .ref q24, .ref q28, .ref q32, .ref q36, .ref q40, .ref q44, .int 0])), (q5, .inl (ct 2, 400, .inl (fun _ => 0))), (q20, .inl (ct 0, 24, .inl (fun _ => 0))), (q24, .inl (ct 0, 24, .inl (fun _ => 0))), (q28, .inl (ct 0, 24, .inl (fun _ => 0))), (q32, .inl (ct 0, 60, .inl (fun _ => 0))), (q36, .inl (ct 1, 60, .inr (.inl (fun _ => 0)))), (q40, .inl (ct 0, 60, .inl (fun _ => 0))), (q44, .inl (ct 0, 24, .inl (fun _ => 0)))] ++ Z1) H := hP1
  have hD : va_D A ([(h0, .inr (2, [.ref q5, .int (0 : Int32), .ref (u13 0 0), .int (0 : Int32), .ref q20, .ref q24, .ref q28, .ref q32, .ref q36, .ref q40, .ref q44, .int 0])), (q5, .inl (ct 2, 400, .inl (fun _ => 0))), (q20, .inl (ct 0, 24, .inl (fun _ => 0))), (q24, .inl (ct 0, 24, .inl (fun _ => 0))), (q28, .inl (ct 0, 24, .inl (fun _ => 0))), (q32, .inl (ct 0, 60, .inl (fun _ => 0))), (q36, .inl (ct 1, 60, .inr (.inl (fun _ => 0)))), (q40, .inl (ct 0, 60, .inl (fun _ => 0))), (q44, .inl (ct 0, 24, .inl (fun _ => 0)))] ++ Z1) := hD1
  have hS := hS1
  clear hP1 hD1 hS1
  refine lv_aload_n hx hb d_Text_init_90 rfl (lv_at hl 0 rfl) ?_
  refine lv_iconst (v := 0) hx hb d_Text_init_91 (by decide) ?_
  refine va_put (D := (dC, dI)) (ci := 2) (v := .int (0 : Int32)) (ty := .int) (C := R_Text) (T := T_Text) (N := 12) hx hb hts in_Text ty_Text tyok_Text nm_Text hown hK hP hD hS 0 rfl rfl 11 (by decide) (hts _ fl_Text_52) (fun _ h9 => h9) rfl (by decide +kernel) rfl rfl (Nat.le_of_ble_eq_true rfl) d_Text_init_92 (fun H locs hP1 hD1 hS1 => ?_)
  clear hP hD hS
  have hP : va_P (dC, dI) vwCl ([(h0, .inr (2, [.ref q5, .int (0 : Int32), .ref (u13 0 0), .int (0 : Int32), .ref q20, .ref q24, .ref q28, .ref q32, .ref q36, .ref q40, .ref q44, .int (0 : Int32)])), (q5, .inl (ct 2, 400, .inl (fun _ => 0))), (q20, .inl (ct 0, 24, .inl (fun _ => 0))), (q24, .inl (ct 0, 24, .inl (fun _ => 0))), (q28, .inl (ct 0, 24, .inl (fun _ => 0))), (q32, .inl (ct 0, 60, .inl (fun _ => 0))), (q36, .inl (ct 1, 60, .inr (.inl (fun _ => 0)))), (q40, .inl (ct 0, 60, .inl (fun _ => 0))), (q44, .inl (ct 0, 24, .inl (fun _ => 0)))] ++ Z1) H := hP1
  have hD : va_D A ([(h0, .inr (2, [.ref q5, .int (0 : Int32), .ref (u13 0 0), .int (0 : Int32), .ref q20, .ref q24, .ref q28, .ref q32, .ref q36, .ref q40, .ref q44, .int (0 : Int32)])), (q5, .inl (ct 2, 400, .inl (fun _ => 0))), (q20, .inl (ct 0, 24, .inl (fun _ => 0))), (q24, .inl (ct 0, 24, .inl (fun _ => 0))), (q28, .inl (ct 0, 24, .inl (fun _ => 0))), (q32, .inl (ct 0, 60, .inl (fun _ => 0))), (q36, .inl (ct 1, 60, .inr (.inl (fun _ => 0)))), (q40, .inl (ct 0, 60, .inl (fun _ => 0))), (q44, .inl (ct 0, 24, .inl (fun _ => 0)))] ++ Z1) := hD1
  have hS := hS1
  clear hP1 hD1 hS1
  subst hZ1
  have hP9 : va_P (dC, dI) vwCl ((fun u => (wText ct (u 0) (u 1 0) ob0) ++ (wSteps ct (u 1) ob0)) (fun j => [(fun i => [h0, q5, q20, q24, q28, q32, q36, q40, q44].getD i 0), (u13 0)].getD j (fun _ => 0))) H := hP
  have hD9 : va_D A ((fun u => (wText ct (u 0) (u 1 0) ob0) ++ (wSteps ct (u 1) ob0)) (fun j => [(fun i => [h0, q5, q20, q24, q28, q32, q36, q40, q44].getD i 0), (u13 0)].getD j (fun _ => 0))) := hD
  exact W.vret hx hb hr (fun t ht hW => ⟨⟨(fun j => [(fun i => [h0, q5, q20, q24, q28, q32, q36, q40, q44].getD i 0), (u13 0)].getD j (fun _ => 0)), rfl, rfl, by rw [ht]; exact hP9, hD9⟩, hS.F ht⟩) hS.2.2 d_Text_init_95
