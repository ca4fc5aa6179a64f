/-! CONSTRUCTORS -/
abbrev b_Reader_init : ByteArray := prog_3_method_1_code
def y_Reader_init : MethodName := ⟨R_Reader, "<init>", "()V"⟩
theorem df_Reader : ∀ j, j < 12 → defaultValue (ty_Reader j) = vp_V [.null, .null, .int 0, .int 0, .null, .null, .int 0, .null, .null, .null, .int 0, .int 0] j := by decide +kernel
theorem ml_Reader_3 : Cond.methodLink "PartFormulas$Reader" 3 ⟨"java/lang/Object", "<init>", "()V"⟩ ∈ wsAll := wa_of 108 (by decide +kernel) (by decide +kernel)
theorem ac_boolean : Cond.arrayClass .boolean ∈ wsAll := wa_of 151 (by decide +kernel) (by decide +kernel)
theorem cl_Reader_26 : Cond.classLink "PartFormulas$Reader" 26 "PartFormulas$Text" ∈ wsAll := wa_of 109 (by decide +kernel) (by decide +kernel)
theorem ins_Text : Cond.instantiable "PartFormulas$Text" 12 ∈ wsAll := wa_of 110 (by decide +kernel) (by decide +kernel)
theorem cd_Text_init : Cond.code ⟨"PartFormulas$Text", "<init>", "()V"⟩ prog_6_method_1_code 1 (none : Option Jvm.ClassFile.FieldType) ∈ wsAll := wa_of 113 (by decide +kernel) (by decide +kernel)
theorem im_Text_init : Cond.instanceMethod ⟨"PartFormulas$Text", "<init>", "()V"⟩ ∈ wsAll := wa_of 112 (by decide +kernel) (by decide +kernel)
theorem d_Reader_init_0 : decode b_Reader_init 0 = .ok (.aload_n 0, 1) := by decide +kernel
theorem d_Reader_init_1 : decode b_Reader_init 1 = .ok (.invokespecial 3, 3) := by decide +kernel
theorem d_Reader_init_4 : decode b_Reader_init 4 = .ok (.aload_n 0, 1) := by decide +kernel
theorem d_Reader_init_5 : decode b_Reader_init 5 = .ok (.sipush 400, 3) := by decide +kernel
theorem d_Reader_init_8 : decode b_Reader_init 8 = .ok (.newarray .char, 2) := by decide +kernel
theorem d_Reader_init_10 : decode b_Reader_init 10 = .ok (.putfield 9, 3) := by decide +kernel
theorem d_Reader_init_13 : decode b_Reader_init 13 = .ok (.aload_n 0, 1) := by decide +kernel
theorem d_Reader_init_14 : decode b_Reader_init 14 = .ok (.sipush 400, 3) := by decide +kernel
theorem d_Reader_init_17 : decode b_Reader_init 17 = .ok (.newarray .boolean, 2) := by decide +kernel
theorem d_Reader_init_19 : decode b_Reader_init 19 = .ok (.putfield 15, 3) := by decide +kernel
theorem d_Reader_init_22 : decode b_Reader_init 22 = .ok (.aload_n 0, 1) := by decide +kernel
theorem d_Reader_init_23 : decode b_Reader_init 23 = .ok (.iconst 0, 1) := by decide +kernel
theorem d_Reader_init_24 : decode b_Reader_init 24 = .ok (.putfield 19, 3) := by decide +kernel
theorem d_Reader_init_27 : decode b_Reader_init 27 = .ok (.aload_n 0, 1) := by decide +kernel
theorem d_Reader_init_28 : decode b_Reader_init 28 = .ok (.iconst 0, 1) := by decide +kernel
theorem d_Reader_init_29 : decode b_Reader_init 29 = .ok (.putfield 23, 3) := by decide +kernel
theorem d_Reader_init_32 : decode b_Reader_init 32 = .ok (.aload_n 0, 1) := by decide +kernel
theorem d_Reader_init_33 : decode b_Reader_init 33 = .ok (.new 26, 3) := by decide +kernel
theorem d_Reader_init_36 : decode b_Reader_init 36 = .ok (.dup, 1) := by decide +kernel
theorem d_Reader_init_37 : decode b_Reader_init 37 = .ok (.invokespecial 28, 3) := by decide +kernel
theorem d_Reader_init_40 : decode b_Reader_init 40 = .ok (.putfield 29, 3) := by decide +kernel
theorem d_Reader_init_43 : decode b_Reader_init 43 = .ok (.aload_n 0, 1) := by decide +kernel
theorem d_Reader_init_44 : decode b_Reader_init 44 = .ok (.sipush 400, 3) := by decide +kernel
theorem d_Reader_init_47 : decode b_Reader_init 47 = .ok (.newarray .int, 2) := by decide +kernel
theorem d_Reader_init_49 : decode b_Reader_init 49 = .ok (.putfield 33, 3) := by decide +kernel
theorem d_Reader_init_52 : decode b_Reader_init 52 = .ok (.aload_n 0, 1) := by decide +kernel
theorem d_Reader_init_53 : decode b_Reader_init 53 = .ok (.iconst 0, 1) := by decide +kernel
theorem d_Reader_init_54 : decode b_Reader_init 54 = .ok (.putfield 37, 3) := by decide +kernel
theorem d_Reader_init_57 : decode b_Reader_init 57 = .ok (.aload_n 0, 1) := by decide +kernel
theorem d_Reader_init_58 : decode b_Reader_init 58 = .ok (.bipush 9, 2) := by decide +kernel
theorem d_Reader_init_60 : decode b_Reader_init 60 = .ok (.newarray .int, 2) := by decide +kernel
theorem d_Reader_init_62 : decode b_Reader_init 62 = .ok (.putfield 40, 3) := by decide +kernel
theorem d_Reader_init_65 : decode b_Reader_init 65 = .ok (.aload_n 0, 1) := by decide +kernel
theorem d_Reader_init_66 : decode b_Reader_init 66 = .ok (.bipush 9, 2) := by decide +kernel
theorem d_Reader_init_68 : decode b_Reader_init 68 = .ok (.newarray .int, 2) := by decide +kernel
theorem d_Reader_init_70 : decode b_Reader_init 70 = .ok (.putfield 43, 3) := by decide +kernel
theorem d_Reader_init_73 : decode b_Reader_init 73 = .ok (.aload_n 0, 1) := by decide +kernel
theorem d_Reader_init_74 : decode b_Reader_init 74 = .ok (.bipush 9, 2) := by decide +kernel
theorem d_Reader_init_76 : decode b_Reader_init 76 = .ok (.newarray .int, 2) := by decide +kernel
theorem d_Reader_init_78 : decode b_Reader_init 78 = .ok (.putfield 46, 3) := by decide +kernel
theorem d_Reader_init_81 : decode b_Reader_init 81 = .ok (.aload_n 0, 1) := by decide +kernel
theorem d_Reader_init_82 : decode b_Reader_init 82 = .ok (.iconst 0, 1) := by decide +kernel
theorem d_Reader_init_83 : decode b_Reader_init 83 = .ok (.putfield 49, 3) := by decide +kernel
theorem d_Reader_init_86 : decode b_Reader_init 86 = .ok (.aload_n 0, 1) := by decide +kernel
theorem d_Reader_init_87 : decode b_Reader_init 87 = .ok (.iconst 0, 1) := by decide +kernel
theorem d_Reader_init_88 : decode b_Reader_init 88 = .ok (.putfield 52, 3) := by decide +kernel
theorem d_Reader_init_91 : decode b_Reader_init 91 = .ok (.return_, 1) := by decide +kernel
abbrev ws_Reader_init : List Cond := Cond.code y_Reader_init b_Reader_init 1 none :: wsAll
abbrev rm_Reader_init : Room := { frames := 3, cells := 21, slots := 3924, locals := 70 }
set_option maxHeartbeats 4000000 in
set_option maxRecDepth 100000 in
theorem c_Reader_init (l : Launch) (ct dC : Nat → ClassId) (dI : Nat → Nat → Nat) (h0 sz : Nat) : Met l y_Reader_init ws_Reader_init rm_Reader_init (bn_Pc h0 (.inr (3, [.null, .null, .int 0, .int 0, .null, .null, .int 0, .null, .null, .null, .int 0, .int 0])) ct dC dI sz) (bn_Q h0 ct dC dI (fun u => (wReader ct (u 0) (u 1 0) ob0) ++ (wText ct (u 1) (u 2 0) ob0) ++ (wSteps ct (u 2) ob0)) (va_A [(h0, .inr (3, [.null, .null, .int 0, .int 0, .null, .null, .int 0, .null, .null, .null, .int 0, .int 0]))] sz)) 21 3924 (va_A [(h0, .inr (3, [.null, .null, .int 0, .int 0, .null, .null, .int 0, .null, .null, .null, .int 0, .int 0]))] sz) := by
  refine Met.ofW (cc := b_Reader_init) (maxL := 1) (ret := none) (by decide) rfl ?_
  intro p e s m args below meth c s₁ B hml hv
  obtain ⟨rfl, hsz, hP, hK, hnx, hao⟩ := hv
  have hx := B.exec
  have hb := B.bytes
  have hr := B.returns
  have hts : ∀ w ∈ wsAll, w.before [Value.ref h0].toArray s = true := fun w h9 => atoms_spec (ws := ws_Reader_init) B.pre w (List.mem_cons_of_mem _ h9)
  have hown : s.vm.findClass R_Reader = some m.cls := findClass_of_methodNamed B.named
  have hlocks := B.notSynchronized
  have hin : meth.name = "<init>" := (name_of_methodNamed B.named B.method).1
  subst hsz
  have hD : va_D (va_A [(h0, .inr (3, [.null, .null, .int 0, .int 0, .null, .null, .int 0, .null, .null, .null, .int 0, .int 0]))] s.heap.size) [(h0, .inr (3, [.null, .null, .int 0, .int 0, .null, .null, .int 0, .null, .null, .null, .int 0, .int 0]))] := bn_D1 (Or.inl ⟨0, _, rfl⟩)
  generalize hAe : va_A [(h0, .inr (3, [.null, .null, .int 0, .int 0, .null, .null, .int 0, .null, .null, .null, .int 0, .int 0]))] s.heap.size = A at hD ⊢
  have hA : ∀ q : Nat, s.heap.size ≤ q → A q := fun q h => by rw [← hAe]; exact Or.inr h
  have hS : va_S A s.heap s.heap [] := va_S.rf
  have hl := lv_entry ([.ref h0]) (n := 1) (Nat.le_of_ble_eq_true rfl)
  rw [lg_entry_eq]
  generalize (lg_sl ([.ref h0]) ++ List.replicate (1 - (lg_sl ([.ref h0])).length) Slot.unset).toArray = ls at hl ⊢
  have hl : lv_has ls 1 [(0, .ref h0)] := hl
  refine lv_aload_n hx hb d_Reader_init_0 rfl (lv_at hl 0 rfl) ?_
  refine W.objInit hx hb hown (hts _ ml_Reader_3) (hts _ im_Object_init) (hts _ cd_Object_init) rfl (by rw [hml]; exact hl.1) rfl d_Reader_init_1 (Nat.le_of_ble_eq_true rfl) (Nat.le_of_ble_eq_true rfl) ?_
  refine W.eq (g2 := F0 m 4 ls []) rfl ?_
  refine lv_aload_n hx hb d_Reader_init_4 rfl (lv_at hl 0 rfl) ?_
  refine lv_sipush (v := 400) hx hb d_Reader_init_5 (by decide) ?_
  refine bn_newa (atype := .char) (cT := ct 2) (a0 := (400, .inl (fun _ => 0))) (N' := 400) hx hb (hts _ ac_char) (hK.2 2 _ rfl).2 hP hD hS hA rfl (by decide +kernel) (by decide +kernel) (by decide +kernel) (Nat.le_of_ble_eq_true rfl) (Nat.le_of_ble_eq_true rfl) d_Reader_init_8 (fun q5 H hP1 hD1 hS1 => ?_)
  clear hP hD hS
  have hP : va_P (dC, dI) vwCl [(h0, .inr (3, [.null, .null, .int 0, .int 0, .null, .null, .int 0, .null, .null, .null, .int 0, .int 0])), (q5, .inl (ct 2, 400, .inl (fun _ => 0)))] H := hP1
  have hD : va_D A [(h0, .inr (3, [.null, .null, .int 0, .int 0, .null, .null, .int 0, .null, .null, .null, .int 0, .int 0])), (q5, .inl (ct 2, 400, .inl (fun _ => 0)))] := hD1
  have hS := hS1
  clear hP1 hD1 hS1
  refine va_putF (D := (dC, dI)) (ci := 3) (v := .ref q5) (ty := .array .char) (C := R_Reader) (T := T_Reader) (N := 12) hx hb hts in_Reader ty_Reader tyok_Reader nm_Reader hown hK hP hD hS 0 rfl rfl 0 (by decide) (hts _ fl_Reader_9) (fun _ h9 => h9) rfl hin rfl (by decide +kernel) rfl rfl (Nat.le_of_ble_eq_true rfl) d_Reader_init_10 (fun H locs hP1 hD1 hS1 => ?_)
  clear hP hD hS
  have hP : va_P (dC, dI) vwCl [(h0, .inr (3, [.ref q5, .null, .int 0, .int 0, .null, .null, .int 0, .null, .null, .null, .int 0, .int 0])), (q5, .inl (ct 2, 400, .inl (fun _ => 0)))] H := hP1
  have hD : va_D A [(h0, .inr (3, [.ref q5, .null, .int 0, .int 0, .null, .null, .int 0, .null, .null, .null, .int 0, .int 0])), (q5, .inl (ct 2, 400, .inl (fun _ => 0)))] := hD1
  have hS := hS1
  clear hP1 hD1 hS1
  refine lv_aload_n hx hb d_Reader_init_13 rfl (lv_at hl 0 rfl) ?_
  refine lv_sipush (v := 400) hx hb d_Reader_init_14 (by decide) ?_
  refine bn_newa (atype := .boolean) (cT := ct 3) (a0 := (400, .inl (fun _ => 0))) (N' := 400) hx hb (hts _ ac_boolean) (hK.2 3 _ rfl).2 hP hD hS hA rfl (by decide +kernel) (by decide +kernel) (by decide +kernel) (Nat.le_of_ble_eq_true rfl) (Nat.le_of_ble_eq_true rfl) d_Reader_init_17 (fun q9 H hP1 hD1 hS1 => ?_)
  clear hP hD hS
  have hP : va_P (dC, dI) vwCl [(h0, .inr (3, [.ref q5, .null, .int 0, .int 0, .null, .null, .int 0, .null, .null, .null, .int 0, .int 0])), (q5, .inl (ct 2, 400, .inl (fun _ => 0))), (q9, .inl (ct 3, 400, .inl (fun _ => 0)))] H := hP1
  have hD : va_D A [(h0, .inr (3, [.ref q5, .null, .int 0, .int 0, .null, .null, .int 0, .null, .null, .null, .int 0, .int 0])), (q5, .inl (ct 2, 400, .inl (fun _ => 0))), (q9, .inl (ct 3, 400, .inl (fun _ => 0)))] := hD1
  have hS := hS1
  clear hP1 hD1 hS1
  refine va_putF (D := (dC, dI)) (ci := 3) (v := .ref q9) (ty := .array .boolean) (C := R_Reader) (T := T_Reader) (N := 12) hx hb hts in_Reader ty_Reader tyok_Reader nm_Reader hown hK hP hD hS 0 rfl rfl 1 (by decide) (hts _ fl_Reader_15) (fun _ h9 => h9) rfl hin rfl (by decide +kernel) rfl rfl (Nat.le_of_ble_eq_true rfl) d_Reader_init_19 (fun H locs hP1 hD1 hS1 => ?_)
  clear hP hD hS
  have hP : va_P (dC, dI) vwCl [(h0, .inr (3, [.ref q5, .ref q9, .int 0, .int 0, .null, .null, .int 0, .null, .null, .null, .int 0, .int 0])), (q5, .inl (ct 2, 400, .inl (fun _ => 0))), (q9, .inl (ct 3, 400, .inl (fun _ => 0)))] H := hP1
  have hD : va_D A [(h0, .inr (3, [.ref q5, .ref q9, .int 0, .int 0, .null, .null, .int 0, .null, .null, .null, .int 0, .int 0])), (q5, .inl (ct 2, 400, .inl (fun _ => 0))), (q9, .inl (ct 3, 400, .inl (fun _ => 0)))] := hD1
  have hS := hS1
  clear hP1 hD1 hS1
  refine lv_aload_n hx hb d_Reader_init_22 rfl (lv_at hl 0 rfl) ?_
  refine lv_iconst (v := 0) hx hb d_Reader_init_23 (by decide) ?_
  refine va_put (D := (dC, dI)) (ci := 3) (v := .int (0 : Int32)) (ty := .int) (C := R_Reader) (T := T_Reader) (N := 12) hx hb hts in_Reader ty_Reader tyok_Reader nm_Reader hown hK hP hD hS 0 rfl rfl 2 (by decide) (hts _ fl_Reader_19) (fun _ h9 => h9) rfl (by decide +kernel) rfl rfl (Nat.le_of_ble_eq_true rfl) d_Reader_init_24 (fun H locs hP1 hD1 hS1 => ?_)
  clear hP hD hS
  have hP : va_P (dC, dI) vwCl [(h0, .inr (3, [.ref q5, .ref q9, .int (0 : Int32), .int 0, .null, .null, .int 0, .null, .null, .null, .int 0, .int 0])), (q5, .inl (ct 2, 400, .inl (fun _ => 0))), (q9, .inl (ct 3, 400, .inl (fun _ => 0)))] H := hP1
  have hD : va_D A [(h0, .inr (3, [.ref q5, .ref q9, .int (0 : Int32), .int 0, .null, .null, .int 0, .null, .null, .null, .int 0, .int 0])), (q5, .inl (ct 2, 400, .inl (fun _ => 0))), (q9, .inl (ct 3, 400, .inl (fun _ => 0)))] := hD1
  have hS := hS1
  clear hP1 hD1 hS1
  refine lv_aload_n hx hb d_Reader_init_27 rfl (lv_at hl 0 rfl) ?_
  refine lv_iconst (v := 0) hx hb d_Reader_init_28 (by decide) ?_
  refine va_put (D := (dC, dI)) (ci := 3) (v := .int (0 : Int32)) (ty := .int) (C := R_Reader) (T := T_Reader) (N := 12) hx hb hts in_Reader ty_Reader tyok_Reader nm_Reader hown hK hP hD hS 0 rfl rfl 3 (by decide) (hts _ fl_Reader_23) (fun _ h9 => h9) rfl (by decide +kernel) rfl rfl (Nat.le_of_ble_eq_true rfl) d_Reader_init_29 (fun H locs hP1 hD1 hS1 => ?_)
  clear hP hD hS
  have hP : va_P (dC, dI) vwCl [(h0, .inr (3, [.ref q5, .ref q9, .int (0 : Int32), .int (0 : Int32), .null, .null, .int 0, .null, .null, .null, .int 0, .int 0])), (q5, .inl (ct 2, 400, .inl (fun _ => 0))), (q9, .inl (ct 3, 400, .inl (fun _ => 0)))] H := hP1
  have hD : va_D A [(h0, .inr (3, [.ref q5, .ref q9, .int (0 : Int32), .int (0 : Int32), .null, .null, .int 0, .null, .null, .null, .int 0, .int 0])), (q5, .inl (ct 2, 400, .inl (fun _ => 0))), (q9, .inl (ct 3, 400, .inl (fun _ => 0)))] := hD1
  have hS := hS1
  clear hP1 hD1 hS1
  refine lv_aload_n hx hb d_Reader_init_32 rfl (lv_at hl 0 rfl) ?_
  refine va_new (ci := 2) (fs := [.null, .int 0, .null, .int 0, .null, .null, .null, .null, .null, .null, .null, .int 0]) (C := R_Text) (T := T_Text) (N := 12) hx hb hts in_Text ty_Text tyok_Text hown (hts _ cl_Reader_26) (hts _ ins_Text) (hts _ ini_Text) hK hP hD hS hA rfl df_Text (Nat.le_of_ble_eq_true rfl) (Nat.le_of_ble_eq_true rfl) d_Reader_init_33 (fun q18 H hP1 hD1 hS1 => ?_)
  clear hP hD hS
  have hP := hP1
  have hD := hD1
  have hS := hS1
  clear hP1 hD1 hS1
  refine lv_dup hx hb d_Reader_init_36 rfl ?_
  refine bn_call (wr := [(h0, .inr (3, [.ref q5, .ref q9, .int (0 : Int32), .int (0 : Int32), .null, .null, .int 0, .null, .null, .null, .int 0, .int 0])), (q5, .inl (ct 2, 400, .inl (fun _ => 0))), (q9, .inl (ct 3, 400, .inl (fun _ => 0)))]) (F := (fun u => (wText ct (u 0) (u 1 0) ob0) ++ (wSteps ct (u 1) ob0))) (va_runIN (As := []) (rest := [.ref q18, .ref h0]) ⟨hx, hb, hml, hown, hts⟩ (c_Text_init l ct dC dI q18 H.size) ⟨va_cnB 0 hts (gd_C cd_Text_init) rfl rfl rfl hnx.2.1 (hts _ ini_Text) (by decide +kernel) ⟨Nat.le_of_ble_eq_true rfl, Nat.le_of_ble_eq_true rfl⟩, rfl, hts _ im_Text_init⟩ (bn_pre hP hK hnx hao) rfl rfl hl.1 rfl (Nat.le_of_ble_eq_true rfl) d_Reader_init_37 ⟨Nat.le_of_ble_eq_true rfl, Nat.le_of_ble_eq_true rfl⟩) hP hD hS hA (fun u20 H locs hu hP1 hD1 hS1 => ?_)
  clear hP hD hS
  subst hu
  have hP := hP1
  have hD := hD1
  have hS := hS1
  clear hP hD hS
  have hP : va_P (dC, dI) vwCl ([(h0, .inr (3, [.ref q5, .ref q9, .int (0 : Int32), .int (0 : Int32), .null, .null, .int 0, .null, .null, .null, .int 0, .int 0])), (q5, .inl (ct 2, 400, .inl (fun _ => 0))), (q9, .inl (ct 3, 400, .inl (fun _ => 0)))] ++ ((wText ct (u20 0) (u20 1 0) ob0) ++ (wSteps ct (u20 1) ob0))) H := hP1
  have hD : va_D A ([(h0, .inr (3, [.ref q5, .ref q9, .int (0 : Int32), .int (0 : Int32), .null, .null, .int 0, .null, .null, .null, .int 0, .int 0])), (q5, .inl (ct 2, 400, .inl (fun _ => 0))), (q9, .inl (ct 3, 400, .inl (fun _ => 0)))] ++ ((wText ct (u20 0) (u20 1 0) ob0) ++ (wSteps ct (u20 1) ob0))) := hD1
  have hS := hS1
  clear hP1 hD1 hS1
  obtain ⟨Z1, hZ1⟩ : ∃ z : va_W, z = ((wText ct (u20 0) (u20 1 0) ob0) ++ (wSteps ct (u20 1) ob0)) := ⟨_, rfl⟩
  rw [← hZ1] at hP hD
  refine va_put (D := (dC, dI)) (ci := 3) (v := .ref (u20 0 0)) (ty := .object "PartFormulas$Text") (C := R_Reader) (T := T_Reader) (N := 12) hx hb hts in_Reader ty_Reader tyok_Reader nm_Reader hown hK hP hD hS 0 rfl rfl 4 (by decide) (hts _ fl_Reader_29) (fun _ h9 => h9) rfl (by decide +kernel) rfl rfl (Nat.le_of_ble_eq_true rfl) d_Reader_init_40 (fun H locs hP1 hD1 hS1 => ?_)
  clear hP hD hS
  have hP : va_P (dC, dI) vwCl ([(h0, .inr (3, [.ref q5, .ref q9, .int (0 : Int32), .int (0 : Int32), .ref (u20 0 0), .null, .int 0, .null, .null, .null, .int 0, .int 0])), (q5, .inl (ct 2, 400, .inl (fun _ => 0))), (q9, .inl (ct 3, 400, .inl (fun _ => 0)))] ++ Z1) H := hP1
  have hD : va_D A ([(h0, .inr (3, [.ref q5, .ref q9, .int (0 : Int32), .int (0 : Int32), .ref (u20 0 0), .null, .int 0, .null, .null, .null, .int 0, .int 0])), (q5, .inl (ct 2, 400, .inl (fun _ => 0))), (q9, .inl (ct 3, 400, .inl (fun _ => 0)))] ++ Z1) := hD1
  have hS := hS1
  clear hP1 hD1 hS1
  refine lv_aload_n hx hb d_Reader_init_43 rfl (lv_at hl 0 rfl) ?_
  refine lv_sipush (v := 400) hx hb d_Reader_init_44 (by decide) ?_
  refine bn_newa (atype := .int) (cT := ct 0) (a0 := (400, .inl (fun _ => 0))) (N' := 400) hx hb (hts _ ac_int) (hK.2 0 _ rfl).2 hP hD hS hA rfl (by decide +kernel) (by decide +kernel) (by decide +kernel) (Nat.le_of_ble_eq_true rfl) (Nat.le_of_ble_eq_true rfl) d_Reader_init_47 (fun q24 H hP1 hD1 hS1 => ?_)
  clear hP hD hS
  have hP : va_P (dC, dI) vwCl ([(h0, .inr (3, [.ref q5, .ref q9, .int (0 : Int32), .int (0 : Int32), .ref (u20 0 0), .null, .int 0, .null, .null, .null, .int 0, .int 0])), (q5, .inl (ct 2, 400, .inl (fun _ => 0))), (q9, .inl (ct 3, 400, .inl (fun _ => 0))), (q24, .inl (ct 0, 400, .inl (fun _ => 0)))] ++ Z1) H := hP1.swap
  have hD : va_D A ([(h0, .inr (3, [.ref q5, .ref q9, .int (0 : Int32), .int (0 : Int32), .ref (u20 0 0), .null, .int 0, .null, .null, .null, .int 0, .int 0])), (q5, .inl (ct 2, 400, .inl (fun _ => 0))), (q9, .inl (ct 3, 400, .inl (fun _ => 0))), (q24, .inl (ct 0, 400, .inl (fun _ => 0)))] ++ Z1) := hD1.swap
  have hS := hS1
  clear hP1 hD1 hS1
  refine va_putF (D := (dC, dI)) (ci := 3) (v := .ref q24) (ty := .array .int) (C := R_Reader) (T := T_Reader) (N := 12) hx hb hts in_Reader ty_Reader tyok_Reader nm_Reader hown hK hP hD hS 0 rfl rfl 5 (by decide) (hts _ fl_Reader_33) (fun _ h9 => h9) rfl hin rfl (by decide +kernel) rfl rfl (Nat.le_of_ble_eq_true rfl) d_Reader_init_49 (fun H locs hP1 hD1 hS1 => ?_)
  clear hP hD hS
  have hP : va_P (dC, dI) vwCl ([(h0, .inr (3, [.ref q5, .ref q9, .int (0 : Int32), .int (0 : Int32), .ref (u20 0 0), .ref q24, .int 0, .null, .null, .null, .int 0, .int 0])), (q5, .inl (ct 2, 400, .inl (fun _ => 0))), (q9, .inl (ct 3, 400, .inl (fun _ => 0))), (q24, .inl (ct 0, 400, .inl (fun _ => 0)))] ++ Z1) H := hP1
  have hD : va_D A ([(h0, .inr (3, [.ref q5, .ref q9, .int (0 : Int32), .int (0 : Int32), .ref (u20 0 0), .ref q24, .int 0, .null, .null, .null, .int 0, .int 0])), (q5, .inl (ct 2, 400, .inl (fun _ => 0))), (q9, .inl (ct 3, 400, .inl (fun _ => 0))), (q24, .inl (ct 0, 400, .inl (fun _ => 0)))] ++ Z1) := hD1
  have hS := hS1
  clear hP1 hD1 hS1
  refine lv_aload_n hx hb d_Reader_init_52 rfl (lv_at hl 0 rfl) ?_
  refine lv_iconst (v := 0) hx hb d_Reader_init_53 (by decide) ?_
  refine va_put (D := (dC, dI)) (ci := 3) (v := .int (0 : Int32)) (ty := .int) (C := R_Reader) (T := T_Reader) (N := 12) hx hb hts in_Reader ty_Reader tyok_Reader nm_Reader hown hK hP hD hS 0 rfl rfl 6 (by decide) (hts _ fl_Reader_37) (fun _ h9 => h9) rfl (by decide +kernel) rfl rfl (Nat.le_of_ble_eq_true rfl) d_Reader_init_54 (fun H locs hP1 hD1 hS1 => ?_)
  clear hP hD hS
  have hP : va_P (dC, dI) vwCl ([(h0, .inr (3, [.ref q5, .ref q9, .int (0 : Int32), .int (0 : Int32), .ref (u20 0 0), .ref q24, .int (0 : Int32), .null, .null, .null, .int 0, .int 0])), (q5, .inl (ct 2, 400, .inl (fun _ => 0))), (q9, .inl (ct 3, 400, .inl (fun _ => 0))), (q24, .inl (ct 0, 400, .inl (fun _ => 0)))] ++ Z1) H := hP1
  have hD : va_D A ([(h0, .inr (3, [.ref q5, .ref q9, .int (0 : Int32), .int (0 : Int32), .ref (u20 0 0), .ref q24, .int (0 : Int32), .null, .null, .null, .int 0, .int 0])), (q5, .inl (ct 2, 400, .inl (fun _ => 0))), (q9, .inl (ct 3, 400, .inl (fun _ => 0))), (q24, .inl (ct 0, 400, .inl (fun _ => 0)))] ++ Z1) := hD1
  have hS := hS1
  clear hP1 hD1 hS1
  refine lv_aload_n hx hb d_Reader_init_57 rfl (lv_at hl 0 rfl) ?_
  refine lv_bipush (v := 9) hx hb d_Reader_init_58 (by decide) ?_
  refine bn_newa (atype := .int) (cT := ct 0) (a0 := (9, .inl (fun _ => 0))) (N' := 9) hx hb (hts _ ac_int) (hK.2 0 _ rfl).2 hP hD hS hA rfl (by decide +kernel) (by decide +kernel) (by decide +kernel) (Nat.le_of_ble_eq_true rfl) (Nat.le_of_ble_eq_true rfl) d_Reader_init_60 (fun q31 H hP1 hD1 hS1 => ?_)
  clear hP hD hS
  have hP : va_P (dC, dI) vwCl ([(h0, .inr (3, [.ref q5, .ref q9, .int (0 : Int32), .int (0 : Int32), .ref (u20 0 0), .ref q24, .int (0 : Int32), .null, .null, .null, .int 0, .int 0])), (q5, .inl (ct 2, 400, .inl (fun _ => 0))), (q9, .inl (ct 3, 400, .inl (fun _ => 0))), (q24, .inl (ct 0, 400, .inl (fun _ => 0))), (q31, .inl (ct 0, 9, .inl (fun _ => 0)))] ++ Z1) H := hP1.swap
  have hD : va_D A ([(h0, .inr (3, [.ref q5, .ref q9, .int (0 : Int32), .int (0 : Int32), .ref (u20 0 0), .ref q24, .int (0 : Int32), .null, .null, .null, .int 0, .int 0])), (q5, .inl (ct 2, 400, .inl (fun _ => 0))), (q9, .inl (ct 3, 400, .inl (fun _ => 0))), (q24, .inl (ct 0, 400, .inl (fun _ => 0))), (q31, .inl (ct 0, 9, .inl (fun _ => 0)))] ++ Z1) := hD1.swap
  have hS := hS1
  clear hP1 hD1 hS1
  refine va_putF (D := (dC, dI)) (ci := 3) (v := .ref q31) (ty := .array .int) (C := R_Reader) (T := T_Reader) (N := 12) hx hb hts in_Reader ty_Reader tyok_Reader nm_Reader hown hK hP hD hS 0 rfl rfl 7 (by decide) (hts _ fl_Reader_40) (fun _ h9 => h9) rfl hin rfl (by decide +kernel) rfl rfl (Nat.le_of_ble_eq_true rfl) d_Reader_init_62 (fun H locs hP1 hD1 hS1 => ?_)
  clear hP hD hS
  have hP : va_P (dC, dI) vwCl ([(h0, .inr (3, [.ref q5, .ref q9, .int (0 : Int32), .int (0 : Int32), .ref (u20 0 0), .ref q24, .int (0 : Int32), .ref q31, .null, .null, .int 0, .int 0])), (q5, .inl (ct 2, 400, .inl (fun _ => 0))), (q9, .inl (ct 3, 400, .inl (fun _ => 0))), (q24, .inl (ct 0, 400, .inl (fun _ => 0))), (q31, .inl (ct 0, 9, .inl (fun _ => 0)))] ++ Z1) H := hP1
  have hD : va_D A ([(h0, .inr (3, [.ref q5, .ref q9, .int (0 : Int32), .int (0 : Int32), .ref (u20 0 0), .ref q24, .int (0 : Int32), .ref q31, .null, .null, .int 0, .int 0])), (q5, .inl (ct 2, 400, .inl (fun _ => 0))), (q9, .inl (ct 3, 400, .inl (fun _ => 0))), (q24, .inl (ct 0, 400, .inl (fun _ => 0))), (q31, .inl (ct 0, 9, .inl (fun _ => 0)))] ++ Z1) := hD1
  have hS := hS1
  clear hP1 hD1 hS1
  refine lv_aload_n hx hb d_Reader_init_65 rfl (lv_at hl 0 rfl) ?_
  refine lv_bipush (v := 9) hx hb d_Reader_init_66 (by decide) ?_
  refine bn_newa (atype := .int) (cT := ct 0) (a0 := (9, .inl (fun _ => 0))) (N' := 9) hx hb (hts _ ac_int) (hK.2 0 _ rfl).2 hP hD hS hA rfl (by decide +kernel) (by decide +kernel) (by decide +kernel) (Nat.le_of_ble_eq_true rfl) (Nat.le_of_ble_eq_true rfl) d_Reader_init_68 (fun q35 H hP1 hD1 hS1 => ?_)
  clear hP hD hS
  have hP : va_P (dC, dI) vwCl ([(h0, .inr (3, [.ref q5, .ref q9, .int (0 : Int32), .int (0 : Int32), .ref (u20 0 0), .ref q24, .int (0 : Int32), .ref q31, .null, .null, .int 0, .int 0])), (q5, .inl (ct 2, 400, .inl (fun _ => 0))), (q9, .inl (ct 3, 400, .inl (fun _ => 0))), (q24, .inl (ct 0, 400, .inl (fun _ => 0))), (q31, .inl (ct 0, 9, .inl (fun _ => 0))), (q35, .inl (ct 0, 9, .inl (fun _ => 0)))] ++ Z1) H := hP1.swap
  have hD : va_D A ([(h0, .inr (3, [.ref q5, .ref q9, .int (0 : Int32), .int (0 : Int32), .ref (u20 0 0), .ref q24, .int (0 : Int32), .ref q31, .null, .null, .int 0, .int 0])), (q5, .inl (ct 2, 400, .inl (fun _ => 0))), (q9, .inl (ct 3, 400, .inl (fun _ => 0))), (q24, .inl (ct 0, 400, .inl (fun _ => 0))), (q31, .inl (ct 0, 9, .inl (fun _ => 0))), (q35, .inl (ct 0, 9, .inl (fun _ => 0)))] ++ Z1) := hD1.swap
  have hS := hS1
  clear hP1 hD1 hS1
  refine va_putF (D := (dC, dI)) (ci := 3) (v := .ref q35) (ty := .array .int) (C := R_Reader) (T := T_Reader) (N := 12) hx hb hts in_Reader ty_Reader tyok_Reader nm_Reader hown hK hP hD hS 0 rfl rfl 8 (by decide) (hts _ fl_Reader_43) (fun _ h9 => h9) rfl hin rfl (by decide +kernel) rfl rfl (Nat.le_of_ble_eq_true rfl) d_Reader_init_70 (fun H locs hP1 hD1 hS1 => ?_)
  clear hP hD hS
  have hP : va_P (dC, dI) vwCl ([(h0, .inr (3, [.ref q5, .ref q9, .int (0 : Int32), .int (0 : Int32), .ref (u20 0 0), .ref q24, .int (0 : Int32), .ref q31, .ref q35, .null, .int 0, .int 0])), (q5, .inl (ct 2, 400, .inl (fun _ => 0))), (q9, .inl (ct 3, 400, .inl (fun _ => 0))), (q24, .inl (ct 0, 400, .inl (fun _ => 0))), (q31, .inl (ct 0, 9, .inl (fun _ => 0))), (q35, .inl (ct 0, 9, .inl (fun _ => 0)))] ++ Z1) H := hP1
  have hD : va_D A ([(h0, .inr (3, [.ref q5, .ref q9, .int (0 : Int32), .int (0 : Int32), .ref (u20 0 0), .ref q24, .int (0 : Int32), .ref q31, .ref q35, .null, .int 0, .int 0])), (q5, .inl (ct 2, 400, .inl (fun _ => 0))), (q9, .inl (ct 3, 400, .inl (fun _ => 0))), (q24, .inl (ct 0, 400, .inl (fun _ => 0))), (q31, .inl (ct 0, 9, .inl (fun _ => 0))), (q35, .inl (ct 0, 9, .inl (fun _ => 0)))] ++ Z1) := hD1
  have hS := hS1
  clear hP1 hD1 hS1
  refine lv_aload_n hx hb d_Reader_init_73 rfl (lv_at hl 0 rfl) ?_
  refine lv_bipush (v := 9) hx hb d_Reader_init_74 (by decide) ?_
  refine bn_newa (atype := .int) (cT := ct 0) (a0 := (9, .inl (fun _ => 0))) (N' := 9) hx hb (hts _ ac_int) (hK.2 0 _ rfl).2 hP hD hS hA rfl (by decide +kernel) (by decide +kernel) (by decide +kernel) (Nat.le_of_ble_eq_true rfl) (Nat.le_of_ble_eq_true rfl) d_Reader_init_76 (fun q39 H hP1 hD1 hS1 => ?_)
  clear hP hD hS
  have hP : va_P (dC, dI) vwCl ([(h0, .inr (3, [.ref q5, .ref q9, .int (0 : Int32), .int (0 : Int32), .ref (u20 0 0), .ref q24, .int (0 : Int32), .ref q31, .ref q35, .null, .int 0, .int 0])), (q5, .inl (ct 2, 400, .inl (fun _ => 0))), (q9, .inl (ct 3, 400, .inl (fun _ => 0))), (q24, .inl (ct 0, 400, .inl (fun _ => 0))), (q31, .inl (ct 0, 9, .inl (fun _ => 0))), (q35, .inl (ct 0, 9, .inl (fun _ => 0))), (q39, .inl (ct 0, 9, .inl (fun _ => 0)))] ++ Z1) H := hP1.swap
  have hD : va_D A ([(h0, .inr (3, [.ref q5, .ref q9, .int (0 : Int32), .int (0 : Int32), .ref (u20 0 0), .ref q24, .int (0 : Int32), .ref q31, .ref q35, .null, .int 0, .int 0])), (q5, .inl (ct 2, 400, .inl (fun _ => 0))), (q9, .inl (ct 3, 400, .inl (fun _ => 0))), (q24, .inl (ct 0, 400, .inl (fun _ => 0))), (q31, .inl (ct 0, 9, .inl (fun _ => 0))), (q35, .inl (ct 0, 9, .inl (fun _ => 0))), (q39, .inl (ct 0, 9, .inl (fun _ => 0)))] ++ Z1) := hD1.swap
  have hS := hS1
  clear hP1 hD1 hS1
  refine va_putF (D := (dC, dI)) (ci := 3) (v := .ref q39) (ty := .array .int) (C := R_Reader) (T := T_Reader) (N := 12) hx hb hts in_Reader ty_Reader tyok_Reader nm_Reader hown hK hP hD hS 0 rfl rfl 9 (by decide) (hts _ fl_Reader_46) (fun _ h9 => h9) rfl hin rfl (by decide +kernel) rfl rfl (Nat.le_of_ble_eq_true rfl) d_Reader_init_78 (fun H locs hP1 hD1 hS1 => ?_)
  clear hP hD hS
  have hP : va_P (dC, dI) vwCl ([(h0, .inr (3, [.ref q5, .ref q9, .int (0 : Int32), .int (0 : Int32), .ref (u20 0 0), .ref q24, .int (0 : Int32), .ref q31, .ref q35, .ref q39, .int 0, .int 0])), (q5, .inl (ct 2, 400, .inl (fun _ => 0))), (q9, .inl (ct 3, 400, .inl (fun _ => 0))), (q24, .inl (ct 0, 400, .inl (fun _ => 0))), (q31, .inl (ct 0, 9, .inl (fun _ => 0))), (q35, .inl (ct 0, 9, .inl (fun _ => 0))), (q39, .inl (ct 0, 9, .inl (fun _ => 0)))] ++ Z1) H := hP1
  have hD : va_D A ([(h0, .inr (3, [.ref q5, .ref q9, .int (0 : Int32), .int (0 : Int32), .ref (u20 0 0), .ref q24, .int (0 : Int32), .ref q31, .ref q35, .ref q39, .int 0, .int 0])), (q5, .inl (ct 2, 400, .inl (fun _ => 0))), (q9, .inl (ct 3, 400, .inl (fun _ => 0))), (q24, .inl (ct 0, 400, .inl (fun _ => 0))), (q31, .inl (ct 0, 9, .inl (fun _ => 0))), (q35, .inl (ct 0, 9, .inl (fun _ => 0))), (q39, .inl (ct 0, 9, .inl (fun _ => 0)))] ++ Z1) := hD1
  have hS := hS1
  clear hP1 hD1 hS1
  refine lv_aload_n hx hb d_Reader_init_81 rfl (lv_at hl 0 rfl) ?_
  refine lv_iconst (v := 0) hx hb d_Reader_init_82 (by decide) ?_
  refine va_put (D := (dC, dI)) (ci := 3) (v := .int (0 : Int32)) (ty := .int) (C := R_Reader) (T := T_Reader) (N := 12) hx hb hts in_Reader ty_Reader tyok_Reader nm_Reader hown hK hP hD hS 0 rfl rfl 10 (by decide) (hts _ fl_Reader_49) (fun _ h9 => h9) rfl (by decide +kernel) rfl rfl (Nat.le_of_ble_eq_true rfl) d_Reader_init_83 (fun H locs hP1 hD1 hS1 => ?_)
  clear hP hD hS
  have hP : va_P (dC, dI) vwCl ([(h0, .inr (3, [.ref q5, .ref q9, .int (0 : Int32), .int (0 : Int32), .ref (u20 0 0), .ref q24, .int (0 : Int32), .ref q31, .ref q35, .ref q39, .int (0 : Int32), .int 0])), (q5, .inl (ct 2, 400, .inl (fun _ => 0))), (q9, .inl (ct 3, 400, .inl (fun _ => 0))), (q24, .inl (ct 0, 400, .inl (fun _ => 0))), (q31, .inl (ct 0, 9, .inl (fun _ => 0))), (q35, .inl (ct 0, 9, .inl (fun _ => 0))), (q39, .inl (ct 0, 9, .inl (fun _ => 0)))] ++ Z1) H := hP1
  have hD : va_D A ([(h0, .inr (3, [.ref q5, .ref q9, .int (0 : Int32), .int (0 : Int32), .ref (u20 0 0), .ref q24, .int (0 : Int32), .ref q31, .ref q35, .ref q39, .int (0 : Int32), .int 0])), (q5, .inl (ct 2, 400, .inl (fun _ => 0))), (q9, .inl (ct 3, 400, .inl (fun _ => 0))), (q24, .inl (ct 0, 400, .inl (fun _ => 0))), (q31, .inl (ct 0, 9, .inl (fun _ => 0))), (q35, .inl (ct 0, 9, .inl (fun _ => 0))), (q39, .inl (ct 0, 9, .inl (fun _ => 0)))] ++ Z1) := hD1
  have hS := hS1
  clear hP1 hD1 hS1
  refine lv_aload_n hx hb d_Reader_init_86 rfl (lv_at hl 0 rfl) ?_
  refine lv_iconst (v := 0) hx hb d_Reader_init_87 (by decide) ?_
  refine va_put (D := (dC, dI)) (ci := 3) (v := .int (0 : Int32)) (ty := .int) (C := R_Reader) (T := T_Reader) (N := 12) hx hb hts in_Reader ty_Reader tyok_Reader nm_Reader hown hK hP hD hS 0 rfl rfl 11 (by decide) (hts _ fl_Reader_52) (fun _ h9 => h9) rfl (by decide +kernel) rfl rfl (Nat.le_of_ble_eq_true rfl) d_Reader_init_88 (fun H locs hP1 hD1 hS1 => ?_)
  clear hP hD hS
  have hP : va_P (dC, dI) vwCl ([(h0, .inr (3, [.ref q5, .ref q9, .int (0 : Int32), .int (0 : Int32), .ref (u20 0 0), .ref q24, .int (0 : Int32), .ref q31, .ref q35, .ref q39, .int (0 : Int32), .int (0 : Int32)])), (q5, .inl (ct 2, 400, .inl (fun _ => 0))), (q9, .inl (ct 3, 400, .inl (fun _ => 0))), (q24, .inl (ct 0, 400, .inl (fun _ => 0))), (q31, .inl (ct 0, 9, .inl (fun _ => 0))), (q35, .inl (ct 0, 9, .inl (fun _ => 0))), (q39, .inl (ct 0, 9, .inl (fun _ => 0)))] ++ Z1) H := hP1
  have hD : va_D A ([(h0, .inr (3, [.ref q5, .ref q9, .int (0 : Int32), .int (0 : Int32), .ref (u20 0 0), .ref q24, .int (0 : Int32), .ref q31, .ref q35, .ref q39, .int (0 : Int32), .int (0 : Int32)])), (q5, .inl (ct 2, 400, .inl (fun _ => 0))), (q9, .inl (ct 3, 400, .inl (fun _ => 0))), (q24, .inl (ct 0, 400, .inl (fun _ => 0))), (q31, .inl (ct 0, 9, .inl (fun _ => 0))), (q35, .inl (ct 0, 9, .inl (fun _ => 0))), (q39, .inl (ct 0, 9, .inl (fun _ => 0)))] ++ Z1) := hD1
  have hS := hS1
  clear hP1 hD1 hS1
  subst hZ1
  have hP9 : va_P (dC, dI) vwCl ((fun u => (wReader ct (u 0) (u 1 0) ob0) ++ (wText ct (u 1) (u 2 0) ob0) ++ (wSteps ct (u 2) ob0)) (fun j => [(fun i => [h0, q5, q9, q24, q31, q35, q39].getD i 0), (u20 0), (u20 1)].getD j (fun _ => 0))) H := hP
  have hD9 : va_D A ((fun u => (wReader ct (u 0) (u 1 0) ob0) ++ (wText ct (u 1) (u 2 0) ob0) ++ (wSteps ct (u 2) ob0)) (fun j => [(fun i => [h0, q5, q9, q24, q31, q35, q39].getD i 0), (u20 0), (u20 1)].getD j (fun _ => 0))) := hD
  exact W.vret hx hb hr (fun t ht hW => ⟨⟨(fun j => [(fun i => [h0, q5, q9, q24, q31, q35, q39].getD i 0), (u20 0), (u20 1)].getD j (fun _ => 0)), rfl, rfl, by rw [ht]; exact hP9, hD9⟩, hS.F ht⟩) hS.2.2 d_Reader_init_91
