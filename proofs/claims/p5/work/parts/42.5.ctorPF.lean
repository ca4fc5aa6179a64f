/-! CONSTRUCTORS -/
abbrev b_PF_init : ByteArray := prog_1_method_1_code
def y_PF_init : MethodName := ⟨R_PF, "<init>", "()V"⟩
theorem df_PF : ∀ j, j < 10 → defaultValue (ty_PF j) = vp_V [.null, .null, .int 0, .int 0, .null, .null, .null, .null, .int 0, .long 0] j := by decide +kernel
theorem ml_PF_3 : Cond.methodLink "PartFormulas" 3 ⟨"java/lang/Object", "<init>", "()V"⟩ ∈ wsAll := wa_of 100 (by decide +kernel) (by decide +kernel)
theorem cl_PF_9 : Cond.classLink "PartFormulas" 9 "PartFormulas$Reader" ∈ wsAll := wa_of 103 (by decide +kernel) (by decide +kernel)
theorem ins_Reader : Cond.instantiable "PartFormulas$Reader" 12 ∈ wsAll := wa_of 104 (by decide +kernel) (by decide +kernel)
theorem cd_Reader_init : Cond.code ⟨"PartFormulas$Reader", "<init>", "()V"⟩ prog_3_method_1_code 1 (none : Option Jvm.ClassFile.FieldType) ∈ wsAll := wa_of 107 (by decide +kernel) (by decide +kernel)
theorem im_Reader_init : Cond.instanceMethod ⟨"PartFormulas$Reader", "<init>", "()V"⟩ ∈ wsAll := wa_of 106 (by decide +kernel) (by decide +kernel)
theorem cl_PF_16 : Cond.classLink "PartFormulas" 16 "PartFormulas$Text" ∈ wsAll := wa_of 246 (by decide +kernel) (by decide +kernel)
theorem cl_PF_30 : Cond.classLink "PartFormulas" 30 "PartFormulas$Reckoner" ∈ wsAll := wa_of 248 (by decide +kernel) (by decide +kernel)
theorem ins_Reckoner : Cond.instantiable "PartFormulas$Reckoner" 6 ∈ wsAll := wa_of 249 (by decide +kernel) (by decide +kernel)
theorem cd_Reckoner_init : Cond.code ⟨"PartFormulas$Reckoner", "<init>", "()V"⟩ prog_4_method_1_code 2 (none : Option Jvm.ClassFile.FieldType) ∈ wsAll := wa_of 252 (by decide +kernel) (by decide +kernel)
theorem im_Reckoner_init : Cond.instanceMethod ⟨"PartFormulas$Reckoner", "<init>", "()V"⟩ ∈ wsAll := wa_of 251 (by decide +kernel) (by decide +kernel)
theorem ml_PF_32 : Cond.methodLink "PartFormulas" 32 ⟨"PartFormulas$Reckoner", "<init>", "()V"⟩ ∈ wsAll := wa_of 250 (by decide +kernel) (by decide +kernel)
theorem cl_PF_37 : Cond.classLink "PartFormulas" 37 "PartFormulas$Cells" ∈ wsAll := wa_of 275 (by decide +kernel) (by decide +kernel)
theorem ins_Cells : Cond.instantiable "PartFormulas$Cells" 4 ∈ wsAll := wa_of 276 (by decide +kernel) (by decide +kernel)
theorem cd_Cells_init : Cond.code ⟨"PartFormulas$Cells", "<init>", "()V"⟩ prog_2_method_1_code 1 (none : Option Jvm.ClassFile.FieldType) ∈ wsAll := wa_of 279 (by decide +kernel) (by decide +kernel)
theorem im_Cells_init : Cond.instanceMethod ⟨"PartFormulas$Cells", "<init>", "()V"⟩ ∈ wsAll := wa_of 278 (by decide +kernel) (by decide +kernel)
theorem d_PF_init_0 : decode b_PF_init 0 = .ok (.aload_n 0, 1) := by decide +kernel
theorem d_PF_init_1 : decode b_PF_init 1 = .ok (.invokespecial 3, 3) := by decide +kernel
theorem d_PF_init_4 : decode b_PF_init 4 = .ok (.aload_n 0, 1) := by decide +kernel
theorem d_PF_init_5 : decode b_PF_init 5 = .ok (.new 9, 3) := by decide +kernel
theorem d_PF_init_8 : decode b_PF_init 8 = .ok (.dup, 1) := by decide +kernel
theorem d_PF_init_9 : decode b_PF_init 9 = .ok (.invokespecial 11, 3) := by decide +kernel
theorem d_PF_init_12 : decode b_PF_init 12 = .ok (.putfield 12, 3) := by decide +kernel
theorem d_PF_init_15 : decode b_PF_init 15 = .ok (.aload_n 0, 1) := by decide +kernel
theorem d_PF_init_16 : decode b_PF_init 16 = .ok (.new 16, 3) := by decide +kernel
theorem d_PF_init_19 : decode b_PF_init 19 = .ok (.dup, 1) := by decide +kernel
theorem d_PF_init_20 : decode b_PF_init 20 = .ok (.invokespecial 18, 3) := by decide +kernel
theorem d_PF_init_23 : decode b_PF_init 23 = .ok (.putfield 19, 3) := by decide +kernel
theorem d_PF_init_26 : decode b_PF_init 26 = .ok (.aload_n 0, 1) := by decide +kernel
theorem d_PF_init_27 : decode b_PF_init 27 = .ok (.iconst 0, 1) := by decide +kernel
theorem d_PF_init_28 : decode b_PF_init 28 = .ok (.putfield 23, 3) := by decide +kernel
theorem d_PF_init_31 : decode b_PF_init 31 = .ok (.aload_n 0, 1) := by decide +kernel
theorem d_PF_init_32 : decode b_PF_init 32 = .ok (.iconst 0, 1) := by decide +kernel
theorem d_PF_init_33 : decode b_PF_init 33 = .ok (.putfield 27, 3) := by decide +kernel
theorem d_PF_init_36 : decode b_PF_init 36 = .ok (.aload_n 0, 1) := by decide +kernel
theorem d_PF_init_37 : decode b_PF_init 37 = .ok (.new 30, 3) := by decide +kernel
theorem d_PF_init_40 : decode b_PF_init 40 = .ok (.dup, 1) := by decide +kernel
theorem d_PF_init_41 : decode b_PF_init 41 = .ok (.invokespecial 32, 3) := by decide +kernel
theorem d_PF_init_44 : decode b_PF_init 44 = .ok (.putfield 33, 3) := by decide +kernel
theorem d_PF_init_47 : decode b_PF_init 47 = .ok (.aload_n 0, 1) := by decide +kernel
theorem d_PF_init_48 : decode b_PF_init 48 = .ok (.new 37, 3) := by decide +kernel
theorem d_PF_init_51 : decode b_PF_init 51 = .ok (.dup, 1) := by decide +kernel
theorem d_PF_init_52 : decode b_PF_init 52 = .ok (.invokespecial 39, 3) := by decide +kernel
theorem d_PF_init_55 : decode b_PF_init 55 = .ok (.putfield 40, 3) := by decide +kernel
theorem d_PF_init_58 : decode b_PF_init 58 = .ok (.aload_n 0, 1) := by decide +kernel
theorem d_PF_init_59 : decode b_PF_init 59 = .ok (.new 37, 3) := by decide +kernel
theorem d_PF_init_62 : decode b_PF_init 62 = .ok (.dup, 1) := by decide +kernel
theorem d_PF_init_63 : decode b_PF_init 63 = .ok (.invokespecial 39, 3) := by decide +kernel
theorem d_PF_init_66 : decode b_PF_init 66 = .ok (.putfield 44, 3) := by decide +kernel
theorem d_PF_init_69 : decode b_PF_init 69 = .ok (.aload_n 0, 1) := by decide +kernel
theorem d_PF_init_70 : decode b_PF_init 70 = .ok (.iconst 4, 1) := by decide +kernel
theorem d_PF_init_71 : decode b_PF_init 71 = .ok (.anewarray 37, 3) := by decide +kernel
theorem d_PF_init_74 : decode b_PF_init 74 = .ok (.putfield 47, 3) := by decide +kernel
theorem d_PF_init_77 : decode b_PF_init 77 = .ok (.aload_n 0, 1) := by decide +kernel
theorem d_PF_init_78 : decode b_PF_init 78 = .ok (.iconst 0, 1) := by decide +kernel
theorem d_PF_init_79 : decode b_PF_init 79 = .ok (.putfield 51, 3) := by decide +kernel
theorem d_PF_init_82 : decode b_PF_init 82 = .ok (.aload_n 0, 1) := by decide +kernel
theorem d_PF_init_83 : decode b_PF_init 83 = .ok (.lconst 0, 1) := by decide +kernel
theorem d_PF_init_84 : decode b_PF_init 84 = .ok (.putfield 55, 3) := by decide +kernel
theorem d_PF_init_87 : decode b_PF_init 87 = .ok (.iconst 0, 1) := by decide +kernel
theorem d_PF_init_88 : decode b_PF_init 88 = .ok (.istore_n 1, 1) := by decide +kernel
theorem d_PF_init_89 : decode b_PF_init 89 = .ok (.iload_n 1, 1) := by decide +kernel
theorem d_PF_init_90 : decode b_PF_init 90 = .ok (.iconst 4, 1) := by decide +kernel
theorem d_PF_init_91 : decode b_PF_init 91 = .ok (.if_icmp .ge 22, 3) := by decide +kernel
theorem d_PF_init_94 : decode b_PF_init 94 = .ok (.aload_n 0, 1) := by decide +kernel
theorem d_PF_init_95 : decode b_PF_init 95 = .ok (.getfield 47, 3) := by decide +kernel
theorem d_PF_init_98 : decode b_PF_init 98 = .ok (.iload_n 1, 1) := by decide +kernel
theorem d_PF_init_99 : decode b_PF_init 99 = .ok (.new 37, 3) := by decide +kernel
theorem d_PF_init_102 : decode b_PF_init 102 = .ok (.dup, 1) := by decide +kernel
theorem d_PF_init_103 : decode b_PF_init 103 = .ok (.invokespecial 39, 3) := by decide +kernel
theorem d_PF_init_106 : decode b_PF_init 106 = .ok (.aastore, 1) := by decide +kernel
theorem d_PF_init_107 : decode b_PF_init 107 = .ok (.iinc 1 1, 3) := by decide +kernel
theorem d_PF_init_110 : decode b_PF_init 110 = .ok (.goto (-21), 3) := by decide +kernel
theorem d_PF_init_113 : decode b_PF_init 113 = .ok (.return_, 1) := by decide +kernel
abbrev ws_PF_init : List Cond := Cond.code y_PF_init b_PF_init 2 none :: wsAll
abbrev rm_PF_init : Room := { frames := 4, cells := 73, slots := 8161, locals := 90 }
set_option maxHeartbeats 4000000 in
set_option maxRecDepth 100000 in
theorem c_PF_init (l : Launch) (ct dC : Nat → ClassId) (dI : Nat → Nat → Nat) (h0 sz : Nat) : Met l y_PF_init ws_PF_init rm_PF_init (bn_Pc h0 (.inr (5, [.null, .null, .int 0, .int 0, .null, .null, .null, .null, .int 0, .long 0])) ct dC dI sz) (bn_Q h0 ct dC dI (fun u => (wPF ct (u 0) (u 1 0) (u 4 0) (u 6 0) (u 7 0) (u 8 0) (fun i => [u 9 0, u 10 0, u 11 0, u 12 0].getD i 0) ob0) ++ (wReader ct (u 1) (u 2 0) ob0) ++ (wText ct (u 2) (u 3 0) ob0) ++ (wSteps ct (u 3) ob0) ++ (wText ct (u 4) (u 5 0) ob0) ++ (wSteps ct (u 5) ob0) ++ (wReckoner ct (u 6) oReckoner0) ++ (wCells ct (u 7) ob0) ++ (wCells ct (u 8) ob0) ++ (wCells ct (u 9) ob0) ++ (wCells ct (u 10) ob0) ++ (wCells ct (u 11) ob0) ++ (wCells ct (u 12) ob0)) (va_A [(h0, .inr (5, [.null, .null, .int 0, .int 0, .null, .null, .null, .null, .int 0, .long 0]))] sz)) 73 8161 (va_A [(h0, .inr (5, [.null, .null, .int 0, .int 0, .null, .null, .null, .null, .int 0, .long 0]))] sz) := by
  refine Met.ofW (cc := b_PF_init) (maxL := 2) (ret := none) (by decide) rfl ?_
  intro p e s m args below meth c s₁ B hml hv
  obtain ⟨rfl, hsz, hP, hK, hnx, hao⟩ := hv
  have hx := B.exec
  have hb := B.bytes
  have hr := B.returns
  have hts : ∀ w ∈ wsAll, w.before [Value.ref h0].toArray s = true := fun w h9 => atoms_spec (ws := ws_PF_init) B.pre w (List.mem_cons_of_mem _ h9)
  have hown : s.vm.findClass R_PF = some m.cls := findClass_of_methodNamed B.named
  have hlocks := B.notSynchronized
  have hin : meth.name = "<init>" := (name_of_methodNamed B.named B.method).1
  subst hsz
  have hD : va_D (va_A [(h0, .inr (5, [.null, .null, .int 0, .int 0, .null, .null, .null, .null, .int 0, .long 0]))] s.heap.size) [(h0, .inr (5, [.null, .null, .int 0, .int 0, .null, .null, .null, .null, .int 0, .long 0]))] := bn_D1 (Or.inl ⟨0, _, rfl⟩)
  generalize hAe : va_A [(h0, .inr (5, [.null, .null, .int 0, .int 0, .null, .null, .null, .null, .int 0, .long 0]))] s.heap.size = A at hD ⊢
  have hA : ∀ q : Nat, s.heap.size ≤ q → A q := fun q h => by rw [← hAe]; exact Or.inr h
  have hS : va_S A s.heap s.heap [] := va_S.rf
  have hl := lv_entry ([.ref h0]) (n := 2) (Nat.le_of_ble_eq_true rfl)
  rw [lg_entry_eq]
  generalize (lg_sl ([.ref h0]) ++ List.replicate (2 - (lg_sl ([.ref h0])).length) Slot.unset).toArray = ls at hl ⊢
  have hl : lv_has ls 2 [(0, .ref h0)] := hl
  refine lv_aload_n hx hb d_PF_init_0 rfl (lv_at hl 0 rfl) ?_
  refine W.objInit hx hb hown (hts _ ml_PF_3) (hts _ im_Object_init) (hts _ cd_Object_init) rfl (by rw [hml]; exact hl.1) rfl d_PF_init_1 (Nat.le_of_ble_eq_true rfl) (Nat.le_of_ble_eq_true rfl) ?_
  refine W.eq (g2 := F0 m 4 ls []) rfl ?_
  refine lv_aload_n hx hb d_PF_init_4 rfl (lv_at hl 0 rfl) ?_
  refine va_new (ci := 3) (fs := [.null, .null, .int 0, .int 0, .null, .null, .int 0, .null, .null, .null, .int 0, .int 0]) (C := R_Reader) (T := T_Reader) (N := 12) hx hb hts in_Reader ty_Reader tyok_Reader hown (hts _ cl_PF_9) (hts _ ins_Reader) (hts _ ini_Reader) hK hP hD hS hA rfl df_Reader (Nat.le_of_ble_eq_true rfl) (Nat.le_of_ble_eq_true rfl) d_PF_init_5 (fun q4 H hP1 hD1 hS1 => ?_)
  clear hP hD hS
  have hP := hP1
  have hD := hD1
  have hS := hS1
  clear hP1 hD1 hS1
  refine lv_dup hx hb d_PF_init_8 rfl ?_
  refine bn_call (wr := [(h0, .inr (5, [.null, .null, .int 0, .int 0, .null, .null, .null, .null, .int 0, .long 0]))]) (F := (fun u => (wReader ct (u 0) (u 1 0) ob0) ++ (wText ct (u 1) (u 2 0) ob0) ++ (wSteps ct (u 2) ob0))) (va_runIN (As := []) (rest := [.ref q4, .ref h0]) ⟨hx, hb, hml, hown, hts⟩ (c_Reader_init l ct dC dI q4 H.size) ⟨va_cnB 0 hts (gd_C cd_Reader_init) rfl rfl rfl hnx.1 (hts _ ini_Reader) (by decide +kernel) ⟨Nat.le_of_ble_eq_true rfl, Nat.le_of_ble_eq_true rfl⟩, rfl, hts _ im_Reader_init⟩ (bn_pre hP hK hnx hao) rfl rfl hl.1 rfl (Nat.le_of_ble_eq_true rfl) d_PF_init_9 ⟨Nat.le_of_ble_eq_true rfl, Nat.le_of_ble_eq_true rfl⟩) hP hD hS hA (fun u6 H locs hu hP1 hD1 hS1 => ?_)
  clear hP hD hS
  subst hu
  have hP := hP1
  have hD := hD1
  have hS := hS1
  clear hP hD hS
  have hP : va_P (dC, dI) vwCl ([(h0, .inr (5, [.null, .null, .int 0, .int 0, .null, .null, .null, .null, .int 0, .long 0]))] ++ ((wReader ct (u6 0) (u6 1 0) ob0) ++ (wText ct (u6 1) (u6 2 0) ob0) ++ (wSteps ct (u6 2) ob0))) H := hP1
  have hD : va_D A ([(h0, .inr (5, [.null, .null, .int 0, .int 0, .null, .null, .null, .null, .int 0, .long 0]))] ++ ((wReader ct (u6 0) (u6 1 0) ob0) ++ (wText ct (u6 1) (u6 2 0) ob0) ++ (wSteps ct (u6 2) ob0))) := hD1
  have hS := hS1
  clear hP1 hD1 hS1
  obtain ⟨Z1, hZ1⟩ : ∃ z : va_W, z = ((wReader ct (u6 0) (u6 1 0) ob0) ++ (wText ct (u6 1) (u6 2 0) ob0) ++ (wSteps ct (u6 2) ob0)) := ⟨_, rfl⟩
  rw [← hZ1] at hP hD
  refine va_putF (D := (dC, dI)) (ci := 5) (v := .ref (u6 0 0)) (ty := .object "PartFormulas$Reader") (C := R_PF) (T := T_PF) (N := 10) hx hb hts in_PF ty_PF tyok_PF nm_PF hown hK hP hD hS 0 rfl rfl 0 (by decide) (hts _ fl_PF_12) (fun _ h9 => h9) rfl hin rfl (by decide +kernel) rfl rfl (Nat.le_of_ble_eq_true rfl) d_PF_init_12 (fun H locs hP1 hD1 hS1 => ?_)
  clear hP hD hS
  have hP : va_P (dC, dI) vwCl ([(h0, .inr (5, [.ref (u6 0 0), .null, .int 0, .int 0, .null, .null, .null, .null, .int 0, .long 0]))] ++ Z1) H := hP1
  have hD : va_D A ([(h0, .inr (5, [.ref (u6 0 0), .null, .int 0, .int 0, .null, .null, .null, .null, .int 0, .long 0]))] ++ Z1) := hD1
  have hS := hS1
  clear hP1 hD1 hS1
  refine lv_aload_n hx hb d_PF_init_15 rfl (lv_at hl 0 rfl) ?_
  refine va_new (ci := 2) (fs := [.null, .int 0, .null, .int 0, .null, .null, .null, .null, .null, .null, .null, .int 0]) (C := R_Text) (T := T_Text) (N := 12) hx hb hts in_Text ty_Text tyok_Text hown (hts _ cl_PF_16) (hts _ ins_Text) (hts _ ini_Text) hK hP hD hS hA rfl df_Text (Nat.le_of_ble_eq_true rfl) (Nat.le_of_ble_eq_true rfl) d_PF_init_16 (fun q9 H hP1 hD1 hS1 => ?_)
  clear hP hD hS
  have hP := hP1
  have hD := hD1
  have hS := hS1
  clear hP1 hD1 hS1
  refine lv_dup hx hb d_PF_init_19 rfl ?_
  refine bn_call (wr := ([(h0, .inr (5, [.ref (u6 0 0), .null, .int 0, .int 0, .null, .null, .null, .null, .int 0, .long 0]))] ++ Z1)) (F := (fun u => (wText ct (u 0) (u 1 0) ob0) ++ (wSteps ct (u 1) ob0))) (va_runIN (As := []) (rest := [.ref q9, .ref h0]) ⟨hx, hb, hml, hown, hts⟩ (c_Text_init l ct dC dI q9 H.size) ⟨va_cnB 0 hts (gd_C cd_Text_init) rfl rfl rfl hnx.2.2.2.1 (hts _ ini_Text) (by decide +kernel) ⟨Nat.le_of_ble_eq_true rfl, Nat.le_of_ble_eq_true rfl⟩, rfl, hts _ im_Text_init⟩ (bn_pre hP hK hnx hao) rfl rfl hl.1 rfl (Nat.le_of_ble_eq_true rfl) d_PF_init_20 ⟨Nat.le_of_ble_eq_true rfl, Nat.le_of_ble_eq_true rfl⟩) hP hD hS hA (fun u11 H locs hu hP1 hD1 hS1 => ?_)
  clear hP hD hS
  subst hu
  have hP := hP1
  have hD := hD1
  have hS := hS1
  clear hP hD hS
  have hP : va_P (dC, dI) vwCl (([(h0, .inr (5, [.ref (u6 0 0), .null, .int 0, .int 0, .null, .null, .null, .null, .int 0, .long 0]))] ++ Z1) ++ ((wText ct (u11 0) (u11 1 0) ob0) ++ (wSteps ct (u11 1) ob0))) H := hP1
  have hD : va_D A (([(h0, .inr (5, [.ref (u6 0 0), .null, .int 0, .int 0, .null, .null, .null, .null, .int 0, .long 0]))] ++ Z1) ++ ((wText ct (u11 0) (u11 1 0) ob0) ++ (wSteps ct (u11 1) ob0))) := hD1
  have hS := hS1
  clear hP1 hD1 hS1
  obtain ⟨Z2, hZ2⟩ : ∃ z : va_W, z = Z1 ++ ((wText ct (u11 0) (u11 1 0) ob0) ++ (wSteps ct (u11 1) ob0)) := ⟨_, rfl⟩
  rw [List.append_assoc, ← hZ2] at hP hD
  refine va_put (D := (dC, dI)) (ci := 5) (v := .ref (u11 0 0)) (ty := .object "PartFormulas$Text") (C := R_PF) (T := T_PF) (N := 10) hx hb hts in_PF ty_PF tyok_PF nm_PF hown hK hP hD hS 0 rfl rfl 1 (by decide) (hts _ fl_PF_19) (fun _ h9 => h9) rfl (by decide +kernel) rfl rfl (Nat.le_of_ble_eq_true rfl) d_PF_init_23 (fun H locs hP1 hD1 hS1 => ?_)
  clear hP hD hS
  have hP : va_P (dC, dI) vwCl ([(h0, .inr (5, [.ref (u6 0 0), .ref (u11 0 0), .int 0, .int 0, .null, .null, .null, .null, .int 0, .long 0]))] ++ Z2) H := hP1
  have hD : va_D A ([(h0, .inr (5, [.ref (u6 0 0), .ref (u11 0 0), .int 0, .int 0, .null, .null, .null, .null, .int 0, .long 0]))] ++ Z2) := hD1
  have hS := hS1
  clear hP1 hD1 hS1
  refine lv_aload_n hx hb d_PF_init_26 rfl (lv_at hl 0 rfl) ?_
  refine lv_iconst (v := 0) hx hb d_PF_init_27 (by decide) ?_
  refine va_put (D := (dC, dI)) (ci := 5) (v := .int (0 : Int32)) (ty := .boolean) (C := R_PF) (T := T_PF) (N := 10) hx hb hts in_PF ty_PF tyok_PF nm_PF hown hK hP hD hS 0 rfl rfl 2 (by decide) (hts _ fl_PF_23) (fun _ h9 => h9) rfl (by decide +kernel) rfl rfl (Nat.le_of_ble_eq_true rfl) d_PF_init_28 (fun H locs hP1 hD1 hS1 => ?_)
  clear hP hD hS
  have hP : va_P (dC, dI) vwCl ([(h0, .inr (5, [.ref (u6 0 0), .ref (u11 0 0), .int (0 : Int32), .int 0, .null, .null, .null, .null, .int 0, .long 0]))] ++ Z2) H := hP1
  have hD : va_D A ([(h0, .inr (5, [.ref (u6 0 0), .ref (u11 0 0), .int (0 : Int32), .int 0, .null, .null, .null, .null, .int 0, .long 0]))] ++ Z2) := hD1
  have hS := hS1
  clear hP1 hD1 hS1
  refine lv_aload_n hx hb d_PF_init_31 rfl (lv_at hl 0 rfl) ?_
  refine lv_iconst (v := 0) hx hb d_PF_init_32 (by decide) ?_
  refine va_put (D := (dC, dI)) (ci := 5) (v := .int (0 : Int32)) (ty := .boolean) (C := R_PF) (T := T_PF) (N := 10) hx hb hts in_PF ty_PF tyok_PF nm_PF hown hK hP hD hS 0 rfl rfl 3 (by decide) (hts _ fl_PF_27) (fun _ h9 => h9) rfl (by decide +kernel) rfl rfl (Nat.le_of_ble_eq_true rfl) d_PF_init_33 (fun H locs hP1 hD1 hS1 => ?_)
  clear hP hD hS
  have hP : va_P (dC, dI) vwCl ([(h0, .inr (5, [.ref (u6 0 0), .ref (u11 0 0), .int (0 : Int32), .int (0 : Int32), .null, .null, .null, .null, .int 0, .long 0]))] ++ Z2) H := hP1
  have hD : va_D A ([(h0, .inr (5, [.ref (u6 0 0), .ref (u11 0 0), .int (0 : Int32), .int (0 : Int32), .null, .null, .null, .null, .int 0, .long 0]))] ++ Z2) := hD1
  have hS := hS1
  clear hP1 hD1 hS1
  refine lv_aload_n hx hb d_PF_init_36 rfl (lv_at hl 0 rfl) ?_
  refine va_new (ci := 4) (fs := [.null, .null, .null, .null, .int 0, .int 0]) (C := R_Reckoner) (T := T_Reckoner) (N := 6) hx hb hts in_Reckoner ty_Reckoner tyok_Reckoner hown (hts _ cl_PF_30) (hts _ ins_Reckoner) (hts _ ini_Reckoner) hK hP hD hS hA rfl df_Reckoner (Nat.le_of_ble_eq_true rfl) (Nat.le_of_ble_eq_true rfl) d_PF_init_37 (fun q20 H hP1 hD1 hS1 => ?_)
  clear hP hD hS
  have hP := hP1
  have hD := hD1
  have hS := hS1
  clear hP1 hD1 hS1
  refine lv_dup hx hb d_PF_init_40 rfl ?_
  refine bn_call (wr := ([(h0, .inr (5, [.ref (u6 0 0), .ref (u11 0 0), .int (0 : Int32), .int (0 : Int32), .null, .null, .null, .null, .int 0, .long 0]))] ++ Z2)) (F := (fun u => wReckoner ct (u 0) oReckoner0)) (va_runI (As := []) (rest := [.ref q20, .ref h0]) ⟨hx, hb, hml, hown, hts⟩ (c_Reckoner_init l ct dC dI q20 H.size) (cwI 0 hts (gd_C cd_Reckoner_init) rfl rfl rfl (hts _ ini_Reckoner) (hts _ ml_PF_32) (hts _ im_Reckoner_init) rfl (by decide +kernel) ⟨Nat.le_of_ble_eq_true rfl, Nat.le_of_ble_eq_true rfl⟩) (bn_pre hP hK hnx hao) rfl rfl hl.1 rfl (Nat.le_of_ble_eq_true rfl) d_PF_init_41 ⟨Nat.le_of_ble_eq_true rfl, Nat.le_of_ble_eq_true rfl⟩) hP hD hS hA (fun u22 H locs hu hP1 hD1 hS1 => ?_)
  clear hP hD hS
  subst hu
  have hP := hP1
  have hD := hD1
  have hS := hS1
  clear hP hD hS
  have hP : va_P (dC, dI) vwCl (([(h0, .inr (5, [.ref (u6 0 0), .ref (u11 0 0), .int (0 : Int32), .int (0 : Int32), .null, .null, .null, .null, .int 0, .long 0]))] ++ Z2) ++ (wReckoner ct (u22 0) oReckoner0)) H := hP1
  have hD : va_D A (([(h0, .inr (5, [.ref (u6 0 0), .ref (u11 0 0), .int (0 : Int32), .int (0 : Int32), .null, .null, .null, .null, .int 0, .long 0]))] ++ Z2) ++ (wReckoner ct (u22 0) oReckoner0)) := hD1
  have hS := hS1
  clear hP1 hD1 hS1
  obtain ⟨Z3, hZ3⟩ : ∃ z : va_W, z = Z2 ++ (wReckoner ct (u22 0) oReckoner0) := ⟨_, rfl⟩
  rw [List.append_assoc, ← hZ3] at hP hD
  refine va_putF (D := (dC, dI)) (ci := 5) (v := .ref (u22 0 0)) (ty := .object "PartFormulas$Reckoner") (C := R_PF) (T := T_PF) (N := 10) hx hb hts in_PF ty_PF tyok_PF nm_PF hown hK hP hD hS 0 rfl rfl 4 (by decide) (hts _ fl_PF_33) (fun _ h9 => h9) rfl hin rfl (by decide +kernel) rfl rfl (Nat.le_of_ble_eq_true rfl) d_PF_init_44 (fun H locs hP1 hD1 hS1 => ?_)
  clear hP hD hS
  have hP : va_P (dC, dI) vwCl ([(h0, .inr (5, [.ref (u6 0 0), .ref (u11 0 0), .int (0 : Int32), .int (0 : Int32), .ref (u22 0 0), .null, .null, .null, .int 0, .long 0]))] ++ Z3) H := hP1
  have hD : va_D A ([(h0, .inr (5, [.ref (u6 0 0), .ref (u11 0 0), .int (0 : Int32), .int (0 : Int32), .ref (u22 0 0), .null, .null, .null, .int 0, .long 0]))] ++ Z3) := hD1
  have hS := hS1
  clear hP1 hD1 hS1
  refine lv_aload_n hx hb d_PF_init_47 rfl (lv_at hl 0 rfl) ?_
  refine va_new (ci := 1) (fs := [.null, .null, .null, .null]) (C := R_Cells) (T := T_Cells) (N := 4) hx hb hts in_Cells ty_Cells tyok_Cells hown (hts _ cl_PF_37) (hts _ ins_Cells) (hts _ ini_Cells) hK hP hD hS hA rfl df_Cells (Nat.le_of_ble_eq_true rfl) (Nat.le_of_ble_eq_true rfl) d_PF_init_48 (fun q25 H hP1 hD1 hS1 => ?_)
  clear hP hD hS
  have hP := hP1
  have hD := hD1
  have hS := hS1
  clear hP1 hD1 hS1
  refine lv_dup hx hb d_PF_init_51 rfl ?_
  refine bn_call (wr := ([(h0, .inr (5, [.ref (u6 0 0), .ref (u11 0 0), .int (0 : Int32), .int (0 : Int32), .ref (u22 0 0), .null, .null, .null, .int 0, .long 0]))] ++ Z3)) (F := (fun u => wCells ct (u 0) ob0)) (va_runIN (As := []) (rest := [.ref q25, .ref h0]) ⟨hx, hb, hml, hown, hts⟩ (c_Cells_init l ct dC dI q25 H.size) ⟨va_cnB 0 hts (gd_C cd_Cells_init) rfl rfl rfl hnx.2.2.2.2.1 (hts _ ini_Cells) (by decide +kernel) ⟨Nat.le_of_ble_eq_true rfl, Nat.le_of_ble_eq_true rfl⟩, rfl, hts _ im_Cells_init⟩ (bn_pre hP hK hnx hao) rfl rfl hl.1 rfl (Nat.le_of_ble_eq_true rfl) d_PF_init_52 ⟨Nat.le_of_ble_eq_true rfl, Nat.le_of_ble_eq_true rfl⟩) hP hD hS hA (fun u27 H locs hu hP1 hD1 hS1 => ?_)
  clear hP hD hS
  subst hu
  have hP := hP1
  have hD := hD1
  have hS := hS1
  clear hP hD hS
  have hP : va_P (dC, dI) vwCl (([(h0, .inr (5, [.ref (u6 0 0), .ref (u11 0 0), .int (0 : Int32), .int (0 : Int32), .ref (u22 0 0), .null, .null, .null, .int 0, .long 0]))] ++ Z3) ++ (wCells ct (u27 0) ob0)) H := hP1
  have hD : va_D A (([(h0, .inr (5, [.ref (u6 0 0), .ref (u11 0 0), .int (0 : Int32), .int (0 : Int32), .ref (u22 0 0), .null, .null, .null, .int 0, .long 0]))] ++ Z3) ++ (wCells ct (u27 0) ob0)) := hD1
  have hS := hS1
  clear hP1 hD1 hS1
  obtain ⟨Z4, hZ4⟩ : ∃ z : va_W, z = Z3 ++ (wCells ct (u27 0) ob0) := ⟨_, rfl⟩
  rw [List.append_assoc, ← hZ4] at hP hD
  refine va_putF (D := (dC, dI)) (ci := 5) (v := .ref (u27 0 0)) (ty := .object "PartFormulas$Cells") (C := R_PF) (T := T_PF) (N := 10) hx hb hts in_PF ty_PF tyok_PF nm_PF hown hK hP hD hS 0 rfl rfl 5 (by decide) (hts _ fl_PF_40) (fun _ h9 => h9) rfl hin rfl (by decide +kernel) rfl rfl (Nat.le_of_ble_eq_true rfl) d_PF_init_55 (fun H locs hP1 hD1 hS1 => ?_)
  clear hP hD hS
  have hP : va_P (dC, dI) vwCl ([(h0, .inr (5, [.ref (u6 0 0), .ref (u11 0 0), .int (0 : Int32), .int (0 : Int32), .ref (u22 0 0), .ref (u27 0 0), .null, .null, .int 0, .long 0]))] ++ Z4) H := hP1
  have hD : va_D A ([(h0, .inr (5, [.ref (u6 0 0), .ref (u11 0 0), .int (0 : Int32), .int (0 : Int32), .ref (u22 0 0), .ref (u27 0 0), .null, .null, .int 0, .long 0]))] ++ Z4) := hD1
  have hS := hS1
  clear hP1 hD1 hS1
  refine lv_aload_n hx hb d_PF_init_58 rfl (lv_at hl 0 rfl) ?_
  refine va_new (ci := 1) (fs := [.null, .null, .null, .null]) (C := R_Cells) (T := T_Cells) (N := 4) hx hb hts in_Cells ty_Cells tyok_Cells hown (hts _ cl_PF_37) (hts _ ins_Cells) (hts _ ini_Cells) hK hP hD hS hA rfl df_Cells (Nat.le_of_ble_eq_true rfl) (Nat.le_of_ble_eq_true rfl) d_PF_init_59 (fun q30 H hP1 hD1 hS1 => ?_)
  clear hP hD hS
  have hP := hP1
  have hD := hD1
  have hS := hS1
  clear hP1 hD1 hS1
  refine lv_dup hx hb d_PF_init_62 rfl ?_
  refine bn_call (wr := ([(h0, .inr (5, [.ref (u6 0 0), .ref (u11 0 0), .int (0 : Int32), .int (0 : Int32), .ref (u22 0 0), .ref (u27 0 0), .null, .null, .int 0, .long 0]))] ++ Z4)) (F := (fun u => wCells ct (u 0) ob0)) (va_runIN (As := []) (rest := [.ref q30, .ref h0]) ⟨hx, hb, hml, hown, hts⟩ (c_Cells_init l ct dC dI q30 H.size) ⟨va_cnB 0 hts (gd_C cd_Cells_init) rfl rfl rfl hnx.2.2.2.2.1 (hts _ ini_Cells) (by decide +kernel) ⟨Nat.le_of_ble_eq_true rfl, Nat.le_of_ble_eq_true rfl⟩, rfl, hts _ im_Cells_init⟩ (bn_pre hP hK hnx hao) rfl rfl hl.1 rfl (Nat.le_of_ble_eq_true rfl) d_PF_init_63 ⟨Nat.le_of_ble_eq_true rfl, Nat.le_of_ble_eq_true rfl⟩) hP hD hS hA (fun u32 H locs hu hP1 hD1 hS1 => ?_)
  clear hP hD hS
  subst hu
  have hP := hP1
  have hD := hD1
  have hS := hS1
  clear hP hD hS
  have hP : va_P (dC, dI) vwCl (([(h0, .inr (5, [.ref (u6 0 0), .ref (u11 0 0), .int (0 : Int32), .int (0 : Int32), .ref (u22 0 0), .ref (u27 0 0), .null, .null, .int 0, .long 0]))] ++ Z4) ++ (wCells ct (u32 0) ob0)) H := hP1
  have hD : va_D A (([(h0, .inr (5, [.ref (u6 0 0), .ref (u11 0 0), .int (0 : Int32), .int (0 : Int32), .ref (u22 0 0), .ref (u27 0 0), .null, .null, .int 0, .long 0]))] ++ Z4) ++ (wCells ct (u32 0) ob0)) := hD1
  have hS := hS1
  clear hP1 hD1 hS1
  obtain ⟨Z5, hZ5⟩ : ∃ z : va_W, z = Z4 ++ (wCells ct (u32 0) ob0) := ⟨_, rfl⟩
  rw [List.append_assoc, ← hZ5] at hP hD
  refine va_putF (D := (dC, dI)) (ci := 5) (v := .ref (u32 0 0)) (ty := .object "PartFormulas$Cells") (C := R_PF) (T := T_PF) (N := 10) hx hb hts in_PF ty_PF tyok_PF nm_PF hown hK hP hD hS 0 rfl rfl 6 (by decide) (hts _ fl_PF_44) (fun _ h9 => h9) rfl hin rfl (by decide +kernel) rfl rfl (Nat.le_of_ble_eq_true rfl) d_PF_init_66 (fun H locs hP1 hD1 hS1 => ?_)
  clear hP hD hS
  have hP : va_P (dC, dI) vwCl ([(h0, .inr (5, [.ref (u6 0 0), .ref (u11 0 0), .int (0 : Int32), .int (0 : Int32), .ref (u22 0 0), .ref (u27 0 0), .ref (u32 0 0), .null, .int 0, .long 0]))] ++ Z5) H := hP1
  have hD : va_D A ([(h0, .inr (5, [.ref (u6 0 0), .ref (u11 0 0), .int (0 : Int32), .int (0 : Int32), .ref (u22 0 0), .ref (u27 0 0), .ref (u32 0 0), .null, .int 0, .long 0]))] ++ Z5) := hD1
  have hS := hS1
  clear hP1 hD1 hS1
  refine lv_aload_n hx hb d_PF_init_69 rfl (lv_at hl 0 rfl) ?_
  refine lv_iconst (v := 4) hx hb d_PF_init_70 (by decide) ?_
  refine bn_newq (cT := ct 4) (N' := 4) hx hb hown (hts _ cl_PF_37) hao hK (hK.2 4 _ rfl).2.choose_spec.choose_spec.2.2.2 hP hD hS hA (by decide +kernel) (by decide +kernel) (by decide +kernel) (Nat.le_of_ble_eq_true rfl) (Nat.le_of_ble_eq_true rfl) d_PF_init_71 (fun q36 H hP1 hD1 hS1 => ?_)
  clear hP hD hS
  have hP : va_P (dC, dI) vwCl ([(h0, .inr (5, [.ref (u6 0 0), .ref (u11 0 0), .int (0 : Int32), .int (0 : Int32), .ref (u22 0 0), .ref (u27 0 0), .ref (u32 0 0), .null, .int 0, .long 0])), (q36, .inl (ct 4, 4, .inr (.inr (.inr (.inr (fun _ => none))))))] ++ Z5) H := hP1.swap
  have hD : va_D A ([(h0, .inr (5, [.ref (u6 0 0), .ref (u11 0 0), .int (0 : Int32), .int (0 : Int32), .ref (u22 0 0), .ref (u27 0 0), .ref (u32 0 0), .null, .int 0, .long 0])), (q36, .inl (ct 4, 4, .inr (.inr (.inr (.inr (fun _ => none))))))] ++ Z5) := hD1.swap
  have hS := hS1
  clear hP1 hD1 hS1
  refine va_putF (D := (dC, dI)) (ci := 5) (v := .ref q36) (ty := .array (.object "PartFormulas$Cells")) (C := R_PF) (T := T_PF) (N := 10) hx hb hts in_PF ty_PF tyok_PF nm_PF hown hK hP hD hS 0 rfl rfl 7 (by decide) (hts _ fl_PF_47) (fun _ h9 => h9) rfl hin rfl (by decide +kernel) rfl rfl (Nat.le_of_ble_eq_true rfl) d_PF_init_74 (fun H locs hP1 hD1 hS1 => ?_)
  clear hP hD hS
  have hP : va_P (dC, dI) vwCl ([(h0, .inr (5, [.ref (u6 0 0), .ref (u11 0 0), .int (0 : Int32), .int (0 : Int32), .ref (u22 0 0), .ref (u27 0 0), .ref (u32 0 0), .ref q36, .int 0, .long 0])), (q36, .inl (ct 4, 4, .inr (.inr (.inr (.inr (fun _ => none))))))] ++ Z5) H := hP1
  have hD : va_D A ([(h0, .inr (5, [.ref (u6 0 0), .ref (u11 0 0), .int (0 : Int32), .int (0 : Int32), .ref (u22 0 0), .ref (u27 0 0), .ref (u32 0 0), .ref q36, .int 0, .long 0])), (q36, .inl (ct 4, 4, .inr (.inr (.inr (.inr (fun _ => none))))))] ++ Z5) := hD1
  have hS := hS1
  clear hP1 hD1 hS1
  refine lv_aload_n hx hb d_PF_init_77 rfl (lv_at hl 0 rfl) ?_
  refine lv_iconst (v := 0) hx hb d_PF_init_78 (by decide) ?_
  refine va_put (D := (dC, dI)) (ci := 5) (v := .int (0 : Int32)) (ty := .int) (C := R_PF) (T := T_PF) (N := 10) hx hb hts in_PF ty_PF tyok_PF nm_PF hown hK hP hD hS 0 rfl rfl 8 (by decide) (hts _ fl_PF_51) (fun _ h9 => h9) rfl (by decide +kernel) rfl rfl (Nat.le_of_ble_eq_true rfl) d_PF_init_79 (fun H locs hP1 hD1 hS1 => ?_)
  clear hP hD hS
  have hP : va_P (dC, dI) vwCl ([(h0, .inr (5, [.ref (u6 0 0), .ref (u11 0 0), .int (0 : Int32), .int (0 : Int32), .ref (u22 0 0), .ref (u27 0 0), .ref (u32 0 0), .ref q36, .int (0 : Int32), .long 0])), (q36, .inl (ct 4, 4, .inr (.inr (.inr (.inr (fun _ => none))))))] ++ Z5) H := hP1
  have hD : va_D A ([(h0, .inr (5, [.ref (u6 0 0), .ref (u11 0 0), .int (0 : Int32), .int (0 : Int32), .ref (u22 0 0), .ref (u27 0 0), .ref (u32 0 0), .ref q36, .int (0 : Int32), .long 0])), (q36, .inl (ct 4, 4, .inr (.inr (.inr (.inr (fun _ => none))))))] ++ Z5) := hD1
  have hS := hS1
  clear hP1 hD1 hS1
  refine lv_aload_n hx hb d_PF_init_82 rfl (lv_at hl 0 rfl) ?_
  refine lv_lconst (v := 0) hx hb d_PF_init_83 (by decide) ?_
  refine va_put (D := (dC, dI)) (ci := 5) (v := .long (0 : Int64)) (ty := .long) (C := R_PF) (T := T_PF) (N := 10) hx hb hts in_PF ty_PF tyok_PF nm_PF hown hK hP hD hS 0 rfl rfl 9 (by decide) (hts _ fl_PF_55) (fun _ h9 => h9) rfl (by decide +kernel) rfl rfl (Nat.le_of_ble_eq_true rfl) d_PF_init_84 (fun H locs hP1 hD1 hS1 => ?_)
  clear hP hD hS
  have hP : va_P (dC, dI) vwCl ([(h0, .inr (5, [.ref (u6 0 0), .ref (u11 0 0), .int (0 : Int32), .int (0 : Int32), .ref (u22 0 0), .ref (u27 0 0), .ref (u32 0 0), .ref q36, .int (0 : Int32), .long (0 : Int64)])), (q36, .inl (ct 4, 4, .inr (.inr (.inr (.inr (fun _ => none))))))] ++ Z5) H := hP1
  have hD : va_D A ([(h0, .inr (5, [.ref (u6 0 0), .ref (u11 0 0), .int (0 : Int32), .int (0 : Int32), .ref (u22 0 0), .ref (u27 0 0), .ref (u32 0 0), .ref q36, .int (0 : Int32), .long (0 : Int64)])), (q36, .inl (ct 4, 4, .inr (.inr (.inr (.inr (fun _ => none))))))] ++ Z5) := hD1
  have hS := hS1
  clear hP1 hD1 hS1
  refine lv_iconst (v := 0) hx hb d_PF_init_87 (by decide) ?_
  refine lv_istore_n (lv' := [(1, .int (0 : Int32)), (0, .ref h0)]) hx hb d_PF_init_88 rfl hl (by decide) rfl (fun ls hl => ?_)
  refine lv_iload_n hx hb d_PF_init_89 rfl (lv_at hl 0 rfl) ?_
  refine lv_iconst (v := 4) hx hb d_PF_init_90 (by decide) ?_
  refine lv_icmp_ge (tgt := 113) hx hb d_PF_init_91 (by decide) (fun c9 => absurd c9 (by decide)) (fun _ => ?_)
  refine lv_aload_n hx hb d_PF_init_94 rfl (lv_at hl 1 rfl) ?_
  refine va_get (D := (dC, dI)) (ci := 5) (v := .ref q36) (C := R_PF) (T := T_PF) (N := 10) hx hb hts in_PF hown hK hP 0 rfl rfl 7 (by decide) (hts _ fl_PF_47) (fun _ h9 => h9) rfl d_PF_init_95 ?_
  refine lv_iload_n hx hb d_PF_init_98 rfl (lv_at hl 0 rfl) ?_
  refine va_new (ci := 1) (fs := [.null, .null, .null, .null]) (C := R_Cells) (T := T_Cells) (N := 4) hx hb hts in_Cells ty_Cells tyok_Cells hown (hts _ cl_PF_37) (hts _ ins_Cells) (hts _ ini_Cells) hK hP hD hS hA rfl df_Cells (Nat.le_of_ble_eq_true rfl) (Nat.le_of_ble_eq_true rfl) d_PF_init_99 (fun q52 H hP1 hD1 hS1 => ?_)
  clear hP hD hS
  have hP := hP1
  have hD := hD1
  have hS := hS1
  clear hP1 hD1 hS1
  refine lv_dup hx hb d_PF_init_102 rfl ?_
  refine bn_call (wr := ([(h0, .inr (5, [.ref (u6 0 0), .ref (u11 0 0), .int (0 : Int32), .int (0 : Int32), .ref (u22 0 0), .ref (u27 0 0), .ref (u32 0 0), .ref q36, .int (0 : Int32), .long (0 : Int64)])), (q36, .inl (ct 4, 4, .inr (.inr (.inr (.inr (fun _ => none))))))] ++ Z5)) (F := (fun u => wCells ct (u 0) ob0)) (va_runIN (As := []) (rest := [.ref q52, .int (0 : Int32), .ref q36]) ⟨hx, hb, hml, hown, hts⟩ (c_Cells_init l ct dC dI q52 H.size) ⟨va_cnB 0 hts (gd_C cd_Cells_init) rfl rfl rfl hnx.2.2.2.2.1 (hts _ ini_Cells) (by decide +kernel) ⟨Nat.le_of_ble_eq_true rfl, Nat.le_of_ble_eq_true rfl⟩, rfl, hts _ im_Cells_init⟩ (bn_pre hP hK hnx hao) rfl rfl hl.1 rfl (Nat.le_of_ble_eq_true rfl) d_PF_init_103 ⟨Nat.le_of_ble_eq_true rfl, Nat.le_of_ble_eq_true rfl⟩) hP hD hS hA (fun u54 H locs hu hP1 hD1 hS1 => ?_)
  clear hP hD hS
  subst hu
  have hP := hP1
  have hD := hD1
  have hS := hS1
  clear hP hD hS
  have hP : va_P (dC, dI) vwCl (([(h0, .inr (5, [.ref (u6 0 0), .ref (u11 0 0), .int (0 : Int32), .int (0 : Int32), .ref (u22 0 0), .ref (u27 0 0), .ref (u32 0 0), .ref q36, .int (0 : Int32), .long (0 : Int64)])), (q36, .inl (ct 4, 4, .inr (.inr (.inr (.inr (fun _ => none))))))] ++ Z5) ++ (wCells ct (u54 0) ob0)) H := hP1
  have hD : va_D A (([(h0, .inr (5, [.ref (u6 0 0), .ref (u11 0 0), .int (0 : Int32), .int (0 : Int32), .ref (u22 0 0), .ref (u27 0 0), .ref (u32 0 0), .ref q36, .int (0 : Int32), .long (0 : Int64)])), (q36, .inl (ct 4, 4, .inr (.inr (.inr (.inr (fun _ => none))))))] ++ Z5) ++ (wCells ct (u54 0) ob0)) := hD1
  have hS := hS1
  clear hP1 hD1 hS1
  refine va_astq (r := (R_Cells, T_Cells, 4)) hx hb hK hP hD hS 1 4 (([(h0, .inr (5, [.ref (u6 0 0), .ref (u11 0 0), .int (0 : Int32), .int (0 : Int32), .ref (u22 0 0), .ref (u27 0 0), .ref (u32 0 0), .ref q36, .int (0 : Int32), .long (0 : Int64)])), (q36, .inl (ct 4, 4, .inr (.inr (.inr (.inr (fun _ => none))))))] ++ Z5) : va_W).length 1 rfl rfl (app_at _ _ _) rfl (inb_in (by decide)) d_PF_init_106 (fun H locs hP1 hD1 hS1 => ?_)
  clear hP hD hS
  have hP : va_P (dC, dI) vwCl (([(h0, .inr (5, [.ref (u6 0 0), .ref (u11 0 0), .int (0 : Int32), .int (0 : Int32), .ref (u22 0 0), .ref (u27 0 0), .ref (u32 0 0), .ref q36, .int (0 : Int32), .long (0 : Int64)])), (q36, .inl (ct 4, 4, .inr (.inr (.inr (.inr (va_up (fun _ => none) (Int32.toNatClampNeg (0 : Int32)) (some (u54 0 0))))))))] ++ Z5) ++ (wCells ct (u54 0) ob0)) H := hP1
  have hD : va_D A (([(h0, .inr (5, [.ref (u6 0 0), .ref (u11 0 0), .int (0 : Int32), .int (0 : Int32), .ref (u22 0 0), .ref (u27 0 0), .ref (u32 0 0), .ref q36, .int (0 : Int32), .long (0 : Int64)])), (q36, .inl (ct 4, 4, .inr (.inr (.inr (.inr (va_up (fun _ => none) (Int32.toNatClampNeg (0 : Int32)) (some (u54 0 0))))))))] ++ Z5) ++ (wCells ct (u54 0) ob0)) := hD1
  have hS := hS1
  clear hP1 hD1 hS1
  obtain ⟨Z6, hZ6⟩ : ∃ z : va_W, z = Z5 ++ (wCells ct (u54 0) ob0) := ⟨_, rfl⟩
  rw [List.append_assoc, ← hZ6] at hP hD
  refine lv_iinc (v := 1) (lv' := [(1, .int (1 : Int32)), (0, .ref h0)]) hx hb d_PF_init_107 hl (k := 0) rfl (by decide) (by decide) rfl (fun ls hl => ?_)
  refine lv_goto (tgt := 89) hx hb d_PF_init_110 (by decide) ?_
  refine lv_iload_n hx hb d_PF_init_89 rfl (lv_at hl 0 rfl) ?_
  refine lv_iconst (v := 4) hx hb d_PF_init_90 (by decide) ?_
  refine lv_icmp_ge (tgt := 113) hx hb d_PF_init_91 (by decide) (fun c9 => absurd c9 (by decide)) (fun _ => ?_)
  refine lv_aload_n hx hb d_PF_init_94 rfl (lv_at hl 1 rfl) ?_
  refine va_get (D := (dC, dI)) (ci := 5) (v := .ref q36) (C := R_PF) (T := T_PF) (N := 10) hx hb hts in_PF hown hK hP 0 rfl rfl 7 (by decide) (hts _ fl_PF_47) (fun _ h9 => h9) rfl d_PF_init_95 ?_
  refine lv_iload_n hx hb d_PF_init_98 rfl (lv_at hl 0 rfl) ?_
  refine va_new (ci := 1) (fs := [.null, .null, .null, .null]) (C := R_Cells) (T := T_Cells) (N := 4) hx hb hts in_Cells ty_Cells tyok_Cells hown (hts _ cl_PF_37) (hts _ ins_Cells) (hts _ ini_Cells) hK hP hD hS hA rfl df_Cells (Nat.le_of_ble_eq_true rfl) (Nat.le_of_ble_eq_true rfl) d_PF_init_99 (fun q64 H hP1 hD1 hS1 => ?_)
  clear hP hD hS
  have hP := hP1
  have hD := hD1
  have hS := hS1
  clear hP1 hD1 hS1
  refine lv_dup hx hb d_PF_init_102 rfl ?_
  refine bn_call (wr := ([(h0, .inr (5, [.ref (u6 0 0), .ref (u11 0 0), .int (0 : Int32), .int (0 : Int32), .ref (u22 0 0), .ref (u27 0 0), .ref (u32 0 0), .ref q36, .int (0 : Int32), .long (0 : Int64)])), (q36, .inl (ct 4, 4, .inr (.inr (.inr (.inr (va_up (fun _ => none) (Int32.toNatClampNeg (0 : Int32)) (some (u54 0 0))))))))] ++ Z6)) (F := (fun u => wCells ct (u 0) ob0)) (va_runIN (As := []) (rest := [.ref q64, .int (1 : Int32), .ref q36]) ⟨hx, hb, hml, hown, hts⟩ (c_Cells_init l ct dC dI q64 H.size) ⟨va_cnB 0 hts (gd_C cd_Cells_init) rfl rfl rfl hnx.2.2.2.2.1 (hts _ ini_Cells) (by decide +kernel) ⟨Nat.le_of_ble_eq_true rfl, Nat.le_of_ble_eq_true rfl⟩, rfl, hts _ im_Cells_init⟩ (bn_pre hP hK hnx hao) rfl rfl hl.1 rfl (Nat.le_of_ble_eq_true rfl) d_PF_init_103 ⟨Nat.le_of_ble_eq_true rfl, Nat.le_of_ble_eq_true rfl⟩) hP hD hS hA (fun u66 H locs hu hP1 hD1 hS1 => ?_)
  clear hP hD hS
  subst hu
  have hP := hP1
  have hD := hD1
  have hS := hS1
  clear hP hD hS
  have hP : va_P (dC, dI) vwCl (([(h0, .inr (5, [.ref (u6 0 0), .ref (u11 0 0), .int (0 : Int32), .int (0 : Int32), .ref (u22 0 0), .ref (u27 0 0), .ref (u32 0 0), .ref q36, .int (0 : Int32), .long (0 : Int64)])), (q36, .inl (ct 4, 4, .inr (.inr (.inr (.inr (va_up (fun _ => none) (Int32.toNatClampNeg (0 : Int32)) (some (u54 0 0))))))))] ++ Z6) ++ (wCells ct (u66 0) ob0)) H := hP1
  have hD : va_D A (([(h0, .inr (5, [.ref (u6 0 0), .ref (u11 0 0), .int (0 : Int32), .int (0 : Int32), .ref (u22 0 0), .ref (u27 0 0), .ref (u32 0 0), .ref q36, .int (0 : Int32), .long (0 : Int64)])), (q36, .inl (ct 4, 4, .inr (.inr (.inr (.inr (va_up (fun _ => none) (Int32.toNatClampNeg (0 : Int32)) (some (u54 0 0))))))))] ++ Z6) ++ (wCells ct (u66 0) ob0)) := hD1
  have hS := hS1
  clear hP1 hD1 hS1
  refine va_astq (r := (R_Cells, T_Cells, 4)) hx hb hK hP hD hS 1 4 (([(h0, .inr (5, [.ref (u6 0 0), .ref (u11 0 0), .int (0 : Int32), .int (0 : Int32), .ref (u22 0 0), .ref (u27 0 0), .ref (u32 0 0), .ref q36, .int (0 : Int32), .long (0 : Int64)])), (q36, .inl (ct 4, 4, .inr (.inr (.inr (.inr (va_up (fun _ => none) (Int32.toNatClampNeg (0 : Int32)) (some (u54 0 0))))))))] ++ Z6) : va_W).length 1 rfl rfl (app_at _ _ _) rfl (inb_in (by decide)) d_PF_init_106 (fun H locs hP1 hD1 hS1 => ?_)
  clear hP hD hS
  have hP : va_P (dC, dI) vwCl (([(h0, .inr (5, [.ref (u6 0 0), .ref (u11 0 0), .int (0 : Int32), .int (0 : Int32), .ref (u22 0 0), .ref (u27 0 0), .ref (u32 0 0), .ref q36, .int (0 : Int32), .long (0 : Int64)])), (q36, .inl (ct 4, 4, .inr (.inr (.inr (.inr (va_up (va_up (fun _ => none) (Int32.toNatClampNeg (0 : Int32)) (some (u54 0 0))) (Int32.toNatClampNeg (1 : Int32)) (some (u66 0 0))))))))] ++ Z6) ++ (wCells ct (u66 0) ob0)) H := hP1
  have hD : va_D A (([(h0, .inr (5, [.ref (u6 0 0), .ref (u11 0 0), .int (0 : Int32), .int (0 : Int32), .ref (u22 0 0), .ref (u27 0 0), .ref (u32 0 0), .ref q36, .int (0 : Int32), .long (0 : Int64)])), (q36, .inl (ct 4, 4, .inr (.inr (.inr (.inr (va_up (va_up (fun _ => none) (Int32.toNatClampNeg (0 : Int32)) (some (u54 0 0))) (Int32.toNatClampNeg (1 : Int32)) (some (u66 0 0))))))))] ++ Z6) ++ (wCells ct (u66 0) ob0)) := hD1
  have hS := hS1
  clear hP1 hD1 hS1
  obtain ⟨Z7, hZ7⟩ : ∃ z : va_W, z = Z6 ++ (wCells ct (u66 0) ob0) := ⟨_, rfl⟩
  rw [List.append_assoc, ← hZ7] at hP hD
  refine lv_iinc (v := 2) (lv' := [(1, .int (2 : Int32)), (0, .ref h0)]) hx hb d_PF_init_107 hl (k := 0) rfl (by decide) (by decide) rfl (fun ls hl => ?_)
  refine lv_goto (tgt := 89) hx hb d_PF_init_110 (by decide) ?_
  refine lv_iload_n hx hb d_PF_init_89 rfl (lv_at hl 0 rfl) ?_
  refine lv_iconst (v := 4) hx hb d_PF_init_90 (by decide) ?_
  refine lv_icmp_ge (tgt := 113) hx hb d_PF_init_91 (by decide) (fun c9 => absurd c9 (by decide)) (fun _ => ?_)
  refine lv_aload_n hx hb d_PF_init_94 rfl (lv_at hl 1 rfl) ?_
  refine va_get (D := (dC, dI)) (ci := 5) (v := .ref q36) (C := R_PF) (T := T_PF) (N := 10) hx hb hts in_PF hown hK hP 0 rfl rfl 7 (by decide) (hts _ fl_PF_47) (fun _ h9 => h9) rfl d_PF_init_95 ?_
  refine lv_iload_n hx hb d_PF_init_98 rfl (lv_at hl 0 rfl) ?_
  refine va_new (ci := 1) (fs := [.null, .null, .null, .null]) (C := R_Cells) (T := T_Cells) (N := 4) hx hb hts in_Cells ty_Cells tyok_Cells hown (hts _ cl_PF_37) (hts _ ins_Cells) (hts _ ini_Cells) hK hP hD hS hA rfl df_Cells (Nat.le_of_ble_eq_true rfl) (Nat.le_of_ble_eq_true rfl) d_PF_init_99 (fun q76 H hP1 hD1 hS1 => ?_)
  clear hP hD hS
  have hP := hP1
  have hD := hD1
  have hS := hS1
  clear hP1 hD1 hS1
  refine lv_dup hx hb d_PF_init_102 rfl ?_
  refine bn_call (wr := ([(h0, .inr (5, [.ref (u6 0 0), .ref (u11 0 0), .int (0 : Int32), .int (0 : Int32), .ref (u22 0 0), .ref (u27 0 0), .ref (u32 0 0), .ref q36, .int (0 : Int32), .long (0 : Int64)])), (q36, .inl (ct 4, 4, .inr (.inr (.inr (.inr (va_up (va_up (fun _ => none) (Int32.toNatClampNeg (0 : Int32)) (some (u54 0 0))) (Int32.toNatClampNeg (1 : Int32)) (some (u66 0 0))))))))] ++ Z7)) (F := (fun u => wCells ct (u 0) ob0)) (va_runIN (As := []) (rest := [.ref q76, .int (2 : Int32), .ref q36]) ⟨hx, hb, hml, hown, hts⟩ (c_Cells_init l ct dC dI q76 H.size) ⟨va_cnB 0 hts (gd_C cd_Cells_init) rfl rfl rfl hnx.2.2.2.2.1 (hts _ ini_Cells) (by decide +kernel) ⟨Nat.le_of_ble_eq_true rfl, Nat.le_of_ble_eq_true rfl⟩, rfl, hts _ im_Cells_init⟩ (bn_pre hP hK hnx hao) rfl rfl hl.1 rfl (Nat.le_of_ble_eq_true rfl) d_PF_init_103 ⟨Nat.le_of_ble_eq_true rfl, Nat.le_of_ble_eq_true rfl⟩) hP hD hS hA (fun u78 H locs hu hP1 hD1 hS1 => ?_)
  clear hP hD hS
  subst hu
  have hP := hP1
  have hD := hD1
  have hS := hS1
  clear hP hD hS
  have hP : va_P (dC, dI) vwCl (([(h0, .inr (5, [.ref (u6 0 0), .ref (u11 0 0), .int (0 : Int32), .int (0 : Int32), .ref (u22 0 0), .ref (u27 0 0), .ref (u32 0 0), .ref q36, .int (0 : Int32), .long (0 : Int64)])), (q36, .inl (ct 4, 4, .inr (.inr (.inr (.inr (va_up (va_up (fun _ => none) (Int32.toNatClampNeg (0 : Int32)) (some (u54 0 0))) (Int32.toNatClampNeg (1 : Int32)) (some (u66 0 0))))))))] ++ Z7) ++ (wCells ct (u78 0) ob0)) H := hP1
  have hD : va_D A (([(h0, .inr (5, [.ref (u6 0 0), .ref (u11 0 0), .int (0 : Int32), .int (0 : Int32), .ref (u22 0 0), .ref (u27 0 0), .ref (u32 0 0), .ref q36, .int (0 : Int32), .long (0 : Int64)])), (q36, .inl (ct 4, 4, .inr (.inr (.inr (.inr (va_up (va_up (fun _ => none) (Int32.toNatClampNeg (0 : Int32)) (some (u54 0 0))) (Int32.toNatClampNeg (1 : Int32)) (some (u66 0 0))))))))] ++ Z7) ++ (wCells ct (u78 0) ob0)) := hD1
  have hS := hS1
  clear hP1 hD1 hS1
  refine va_astq (r := (R_Cells, T_Cells, 4)) hx hb hK hP hD hS 1 4 (([(h0, .inr (5, [.ref (u6 0 0), .ref (u11 0 0), .int (0 : Int32), .int (0 : Int32), .ref (u22 0 0), .ref (u27 0 0), .ref (u32 0 0), .ref q36, .int (0 : Int32), .long (0 : Int64)])), (q36, .inl (ct 4, 4, .inr (.inr (.inr (.inr (va_up (va_up (fun _ => none) (Int32.toNatClampNeg (0 : Int32)) (some (u54 0 0))) (Int32.toNatClampNeg (1 : Int32)) (some (u66 0 0))))))))] ++ Z7) : va_W).length 1 rfl rfl (app_at _ _ _) rfl (inb_in (by decide)) d_PF_init_106 (fun H locs hP1 hD1 hS1 => ?_)
  clear hP hD hS
  have hP : va_P (dC, dI) vwCl (([(h0, .inr (5, [.ref (u6 0 0), .ref (u11 0 0), .int (0 : Int32), .int (0 : Int32), .ref (u22 0 0), .ref (u27 0 0), .ref (u32 0 0), .ref q36, .int (0 : Int32), .long (0 : Int64)])), (q36, .inl (ct 4, 4, .inr (.inr (.inr (.inr (va_up (va_up (va_up (fun _ => none) (Int32.toNatClampNeg (0 : Int32)) (some (u54 0 0))) (Int32.toNatClampNeg (1 : Int32)) (some (u66 0 0))) (Int32.toNatClampNeg (2 : Int32)) (some (u78 0 0))))))))] ++ Z7) ++ (wCells ct (u78 0) ob0)) H := hP1
  have hD : va_D A (([(h0, .inr (5, [.ref (u6 0 0), .ref (u11 0 0), .int (0 : Int32), .int (0 : Int32), .ref (u22 0 0), .ref (u27 0 0), .ref (u32 0 0), .ref q36, .int (0 : Int32), .long (0 : Int64)])), (q36, .inl (ct 4, 4, .inr (.inr (.inr (.inr (va_up (va_up (va_up (fun _ => none) (Int32.toNatClampNeg (0 : Int32)) (some (u54 0 0))) (Int32.toNatClampNeg (1 : Int32)) (some (u66 0 0))) (Int32.toNatClampNeg (2 : Int32)) (some (u78 0 0))))))))] ++ Z7) ++ (wCells ct (u78 0) ob0)) := hD1
  have hS := hS1
  clear hP1 hD1 hS1
  obtain ⟨Z8, hZ8⟩ : ∃ z : va_W, z = Z7 ++ (wCells ct (u78 0) ob0) := ⟨_, rfl⟩
  rw [List.append_assoc, ← hZ8] at hP hD
  refine lv_iinc (v := 3) (lv' := [(1, .int (3 : Int32)), (0, .ref h0)]) hx hb d_PF_init_107 hl (k := 0) rfl (by decide) (by decide) rfl (fun ls hl => ?_)
  refine lv_goto (tgt := 89) hx hb d_PF_init_110 (by decide) ?_
  refine lv_iload_n hx hb d_PF_init_89 rfl (lv_at hl 0 rfl) ?_
  refine lv_iconst (v := 4) hx hb d_PF_init_90 (by decide) ?_
  refine lv_icmp_ge (tgt := 113) hx hb d_PF_init_91 (by decide) (fun c9 => absurd c9 (by decide)) (fun _ => ?_)
  refine lv_aload_n hx hb d_PF_init_94 rfl (lv_at hl 1 rfl) ?_
  refine va_get (D := (dC, dI)) (ci := 5) (v := .ref q36) (C := R_PF) (T := T_PF) (N := 10) hx hb hts in_PF hown hK hP 0 rfl rfl 7 (by decide) (hts _ fl_PF_47) (fun _ h9 => h9) rfl d_PF_init_95 ?_
  refine lv_iload_n hx hb d_PF_init_98 rfl (lv_at hl 0 rfl) ?_
  refine va_new (ci := 1) (fs := [.null, .null, .null, .null]) (C := R_Cells) (T := T_Cells) (N := 4) hx hb hts in_Cells ty_Cells tyok_Cells hown (hts _ cl_PF_37) (hts _ ins_Cells) (hts _ ini_Cells) hK hP hD hS hA rfl df_Cells (Nat.le_of_ble_eq_true rfl) (Nat.le_of_ble_eq_true rfl) d_PF_init_99 (fun q88 H hP1 hD1 hS1 => ?_)
  clear hP hD hS
  have hP := hP1
  have hD := hD1
  have hS := hS1
  clear hP1 hD1 hS1
  refine lv_dup hx hb d_PF_init_102 rfl ?_
  refine bn_call (wr := ([(h0, .inr (5, [.ref (u6 0 0), .ref (u11 0 0), .int (0 : Int32), .int (0 : Int32), .ref (u22 0 0), .ref (u27 0 0), .ref (u32 0 0), .ref q36, .int (0 : Int32), .long (0 : Int64)])), (q36, .inl (ct 4, 4, .inr (.inr (.inr (.inr (va_up (va_up (va_up (fun _ => none) (Int32.toNatClampNeg (0 : Int32)) (some (u54 0 0))) (Int32.toNatClampNeg (1 : Int32)) (some (u66 0 0))) (Int32.toNatClampNeg (2 : Int32)) (some (u78 0 0))))))))] ++ Z8)) (F := (fun u => wCells ct (u 0) ob0)) (va_runIN (As := []) (rest := [.ref q88, .int (3 : Int32), .ref q36]) ⟨hx, hb, hml, hown, hts⟩ (c_Cells_init l ct dC dI q88 H.size) ⟨va_cnB 0 hts (gd_C cd_Cells_init) rfl rfl rfl hnx.2.2.2.2.1 (hts _ ini_Cells) (by decide +kernel) ⟨Nat.le_of_ble_eq_true rfl, Nat.le_of_ble_eq_true rfl⟩, rfl, hts _ im_Cells_init⟩ (bn_pre hP hK hnx hao) rfl rfl hl.1 rfl (Nat.le_of_ble_eq_true rfl) d_PF_init_103 ⟨Nat.le_of_ble_eq_true rfl, Nat.le_of_ble_eq_true rfl⟩) hP hD hS hA (fun u90 H locs hu hP1 hD1 hS1 => ?_)
  clear hP hD hS
  subst hu
  have hP := hP1
  have hD := hD1
  have hS := hS1
  clear hP hD hS
  have hP : va_P (dC, dI) vwCl (([(h0, .inr (5, [.ref (u6 0 0), .ref (u11 0 0), .int (0 : Int32), .int (0 : Int32), .ref (u22 0 0), .ref (u27 0 0), .ref (u32 0 0), .ref q36, .int (0 : Int32), .long (0 : Int64)])), (q36, .inl (ct 4, 4, .inr (.inr (.inr (.inr (va_up (va_up (va_up (fun _ => none) (Int32.toNatClampNeg (0 : Int32)) (some (u54 0 0))) (Int32.toNatClampNeg (1 : Int32)) (some (u66 0 0))) (Int32.toNatClampNeg (2 : Int32)) (some (u78 0 0))))))))] ++ Z8) ++ (wCells ct (u90 0) ob0)) H := hP1
  have hD : va_D A (([(h0, .inr (5, [.ref (u6 0 0), .ref (u11 0 0), .int (0 : Int32), .int (0 : Int32), .ref (u22 0 0), .ref (u27 0 0), .ref (u32 0 0), .ref q36, .int (0 : Int32), .long (0 : Int64)])), (q36, .inl (ct 4, 4, .inr (.inr (.inr (.inr (va_up (va_up (va_up (fun _ => none) (Int32.toNatClampNeg (0 : Int32)) (some (u54 0 0))) (Int32.toNatClampNeg (1 : Int32)) (some (u66 0 0))) (Int32.toNatClampNeg (2 : Int32)) (some (u78 0 0))))))))] ++ Z8) ++ (wCells ct (u90 0) ob0)) := hD1
  have hS := hS1
  clear hP1 hD1 hS1
  refine va_astq (r := (R_Cells, T_Cells, 4)) hx hb hK hP hD hS 1 4 (([(h0, .inr (5, [.ref (u6 0 0), .ref (u11 0 0), .int (0 : Int32), .int (0 : Int32), .ref (u22 0 0), .ref (u27 0 0), .ref (u32 0 0), .ref q36, .int (0 : Int32), .long (0 : Int64)])), (q36, .inl (ct 4, 4, .inr (.inr (.inr (.inr (va_up (va_up (va_up (fun _ => none) (Int32.toNatClampNeg (0 : Int32)) (some (u54 0 0))) (Int32.toNatClampNeg (1 : Int32)) (some (u66 0 0))) (Int32.toNatClampNeg (2 : Int32)) (some (u78 0 0))))))))] ++ Z8) : va_W).length 1 rfl rfl (app_at _ _ _) rfl (inb_in (by decide)) d_PF_init_106 (fun H locs hP1 hD1 hS1 => ?_)
  clear hP hD hS
  have hP : va_P (dC, dI) vwCl (([(h0, .inr (5, [.ref (u6 0 0), .ref (u11 0 0), .int (0 : Int32), .int (0 : Int32), .ref (u22 0 0), .ref (u27 0 0), .ref (u32 0 0), .ref q36, .int (0 : Int32), .long (0 : Int64)])), (q36, .inl (ct 4, 4, .inr (.inr (.inr (.inr (va_up (va_up (va_up (va_up (fun _ => none) (Int32.toNatClampNeg (0 : Int32)) (some (u54 0 0))) (Int32.toNatClampNeg (1 : Int32)) (some (u66 0 0))) (Int32.toNatClampNeg (2 : Int32)) (some (u78 0 0))) (Int32.toNatClampNeg (3 : Int32)) (some (u90 0 0))))))))] ++ Z8) ++ (wCells ct (u90 0) ob0)) H := hP1
  have hD : va_D A (([(h0, .inr (5, [.ref (u6 0 0), .ref (u11 0 0), .int (0 : Int32), .int (0 : Int32), .ref (u22 0 0), .ref (u27 0 0), .ref (u32 0 0), .ref q36, .int (0 : Int32), .long (0 : Int64)])), (q36, .inl (ct 4, 4, .inr (.inr (.inr (.inr (va_up (va_up (va_up (va_up (fun _ => none) (Int32.toNatClampNeg (0 : Int32)) (some (u54 0 0))) (Int32.toNatClampNeg (1 : Int32)) (some (u66 0 0))) (Int32.toNatClampNeg (2 : Int32)) (some (u78 0 0))) (Int32.toNatClampNeg (3 : Int32)) (some (u90 0 0))))))))] ++ Z8) ++ (wCells ct (u90 0) ob0)) := hD1
  have hS := hS1
  clear hP1 hD1 hS1
  obtain ⟨Z9, hZ9⟩ : ∃ z : va_W, z = Z8 ++ (wCells ct (u90 0) ob0) := ⟨_, rfl⟩
  rw [List.append_assoc, ← hZ9] at hP hD
  refine lv_iinc (v := 4) (lv' := [(1, .int (4 : Int32)), (0, .ref h0)]) hx hb d_PF_init_107 hl (k := 0) rfl (by decide) (by decide) rfl (fun ls hl => ?_)
  refine lv_goto (tgt := 89) hx hb d_PF_init_110 (by decide) ?_
  refine lv_iload_n hx hb d_PF_init_89 rfl (lv_at hl 0 rfl) ?_
  refine lv_iconst (v := 4) hx hb d_PF_init_90 (by decide) ?_
  refine lv_icmp_ge (tgt := 113) hx hb d_PF_init_91 (by decide) (fun _ => ?_) (fun c9 => absurd (by decide) c9)
  have hP1 := bn_q 1 (fun i => some ((fun i => [(u54 0 0), (u66 0 0), (u78 0 0), (u90 0 0)].getD i 0) i)) hP rfl (fun j hj => by rcases j with _ | _ | _ | _ | j <;> first | rfl | omega)
  have hD1 := hD.set (p := 1) (a := q36) (e := .inl (ct 4, 4, .inr (.inr (.inr (.inr (fun i => some ((fun i => [(u54 0 0), (u66 0 0), (u78 0 0), (u90 0 0)].getD i 0) i))))))) rfl
  have hS1 := hS
  clear hP hD hS
  have hP : va_P (dC, dI) vwCl ([(h0, .inr (5, [.ref (u6 0 0), .ref (u11 0 0), .int (0 : Int32), .int (0 : Int32), .ref (u22 0 0), .ref (u27 0 0), .ref (u32 0 0), .ref q36, .int (0 : Int32), .long (0 : Int64)])), (q36, .inl (ct 4, 4, .inr (.inr (.inr (.inr (fun i => some ((fun i => [(u54 0 0), (u66 0 0), (u78 0 0), (u90 0 0)].getD i 0) i)))))))] ++ Z9) H := hP1
  have hD : va_D A ([(h0, .inr (5, [.ref (u6 0 0), .ref (u11 0 0), .int (0 : Int32), .int (0 : Int32), .ref (u22 0 0), .ref (u27 0 0), .ref (u32 0 0), .ref q36, .int (0 : Int32), .long (0 : Int64)])), (q36, .inl (ct 4, 4, .inr (.inr (.inr (.inr (fun i => some ((fun i => [(u54 0 0), (u66 0 0), (u78 0 0), (u90 0 0)].getD i 0) i)))))))] ++ Z9) := hD1
  have hS := hS1
  clear hP1 hD1 hS1
  subst hZ9
  subst hZ8
  subst hZ7
  subst hZ6
  subst hZ5
  subst hZ4
  subst hZ3
  subst hZ2
  subst hZ1
  have hP9 : va_P (dC, dI) vwCl ((fun u => (wPF ct (u 0) (u 1 0) (u 4 0) (u 6 0) (u 7 0) (u 8 0) (fun i => [u 9 0, u 10 0, u 11 0, u 12 0].getD i 0) ob0) ++ (wReader ct (u 1) (u 2 0) ob0) ++ (wText ct (u 2) (u 3 0) ob0) ++ (wSteps ct (u 3) ob0) ++ (wText ct (u 4) (u 5 0) ob0) ++ (wSteps ct (u 5) ob0) ++ (wReckoner ct (u 6) oReckoner0) ++ (wCells ct (u 7) ob0) ++ (wCells ct (u 8) ob0) ++ (wCells ct (u 9) ob0) ++ (wCells ct (u 10) ob0) ++ (wCells ct (u 11) ob0) ++ (wCells ct (u 12) ob0)) (fun j => [(fun i => [h0, q36].getD i 0), (u6 0), (u6 1), (u6 2), (u11 0), (u11 1), (u22 0), (u27 0), (u32 0), (u54 0), (u66 0), (u78 0), (u90 0)].getD j (fun _ => 0))) H := hP
  have hD9 : va_D A ((fun u => (wPF ct (u 0) (u 1 0) (u 4 0) (u 6 0) (u 7 0) (u 8 0) (fun i => [u 9 0, u 10 0, u 11 0, u 12 0].getD i 0) ob0) ++ (wReader ct (u 1) (u 2 0) ob0) ++ (wText ct (u 2) (u 3 0) ob0) ++ (wSteps ct (u 3) ob0) ++ (wText ct (u 4) (u 5 0) ob0) ++ (wSteps ct (u 5) ob0) ++ (wReckoner ct (u 6) oReckoner0) ++ (wCells ct (u 7) ob0) ++ (wCells ct (u 8) ob0) ++ (wCells ct (u 9) ob0) ++ (wCells ct (u 10) ob0) ++ (wCells ct (u 11) ob0) ++ (wCells ct (u 12) ob0)) (fun j => [(fun i => [h0, q36].getD i 0), (u6 0), (u6 1), (u6 2), (u11 0), (u11 1), (u22 0), (u27 0), (u32 0), (u54 0), (u66 0), (u78 0), (u90 0)].getD j (fun _ => 0))) := hD
  exact W.vret hx hb hr (fun t ht hW => ⟨⟨(fun j => [(fun i => [h0, q36].getD i 0), (u6 0), (u6 1), (u6 2), (u11 0), (u11 1), (u22 0), (u27 0), (u32 0), (u54 0), (u66 0), (u78 0), (u90 0)].getD j (fun _ => 0)), rfl, rfl, by rw [ht]; exact hP9, hD9⟩, hS.F ht⟩) hS.2.2 d_PF_init_113
