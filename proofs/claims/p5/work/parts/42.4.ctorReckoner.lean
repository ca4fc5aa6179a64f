/-! CONSTRUCTORS -/
abbrev b_Reckoner_init : ByteArray := prog_4_method_1_code
def y_Reckoner_init : MethodName := ⟨R_Reckoner, "<init>", "()V"⟩
theorem df_Reckoner : ∀ j, j < 6 → defaultValue (ty_Reckoner j) = vp_V [.null, .null, .null, .null, .int 0, .int 0] j := by decide +kernel
theorem ml_Reckoner_3 : Cond.methodLink "PartFormulas$Reckoner" 3 ⟨"java/lang/Object", "<init>", "()V"⟩ ∈ wsAll := wa_of 253 (by decide +kernel) (by decide +kernel)
theorem d_Reckoner_init_0 : decode b_Reckoner_init 0 = .ok (.aload_n 0, 1) := by decide +kernel
theorem d_Reckoner_init_1 : decode b_Reckoner_init 1 = .ok (.invokespecial 3, 3) := by decide +kernel
theorem d_Reckoner_init_4 : decode b_Reckoner_init 4 = .ok (.aload_n 0, 1) := by decide +kernel
theorem d_Reckoner_init_5 : decode b_Reckoner_init 5 = .ok (.bipush 8, 2) := by decide +kernel
theorem d_Reckoner_init_7 : decode b_Reckoner_init 7 = .ok (.newarray .long, 2) := by decide +kernel
theorem d_Reckoner_init_9 : decode b_Reckoner_init 9 = .ok (.putfield 9, 3) := by decide +kernel
theorem d_Reckoner_init_12 : decode b_Reckoner_init 12 = .ok (.aload_n 0, 1) := by decide +kernel
theorem d_Reckoner_init_13 : decode b_Reckoner_init 13 = .ok (.bipush 8, 2) := by decide +kernel
theorem d_Reckoner_init_15 : decode b_Reckoner_init 15 = .ok (.newarray .long, 2) := by decide +kernel
theorem d_Reckoner_init_17 : decode b_Reckoner_init 17 = .ok (.putfield 15, 3) := by decide +kernel
theorem d_Reckoner_init_20 : decode b_Reckoner_init 20 = .ok (.aload_n 0, 1) := by decide +kernel
theorem d_Reckoner_init_21 : decode b_Reckoner_init 21 = .ok (.bipush 19, 2) := by decide +kernel
theorem d_Reckoner_init_23 : decode b_Reckoner_init 23 = .ok (.newarray .long, 2) := by decide +kernel
theorem d_Reckoner_init_25 : decode b_Reckoner_init 25 = .ok (.putfield 18, 3) := by decide +kernel
theorem d_Reckoner_init_28 : decode b_Reckoner_init 28 = .ok (.aload_n 0, 1) := by decide +kernel
theorem d_Reckoner_init_29 : decode b_Reckoner_init 29 = .ok (.bipush 19, 2) := by decide +kernel
theorem d_Reckoner_init_31 : decode b_Reckoner_init 31 = .ok (.newarray .long, 2) := by decide +kernel
theorem d_Reckoner_init_33 : decode b_Reckoner_init 33 = .ok (.putfield 21, 3) := by decide +kernel
theorem d_Reckoner_init_36 : decode b_Reckoner_init 36 = .ok (.aload_n 0, 1) := by decide +kernel
theorem d_Reckoner_init_37 : decode b_Reckoner_init 37 = .ok (.iconst 0, 1) := by decide +kernel
theorem d_Reckoner_init_38 : decode b_Reckoner_init 38 = .ok (.putfield 24, 3) := by decide +kernel
theorem d_Reckoner_init_41 : decode b_Reckoner_init 41 = .ok (.aload_n 0, 1) := by decide +kernel
theorem d_Reckoner_init_42 : decode b_Reckoner_init 42 = .ok (.iconst 1, 1) := by decide +kernel
theorem d_Reckoner_init_43 : decode b_Reckoner_init 43 = .ok (.putfield 28, 3) := by decide +kernel
theorem d_Reckoner_init_46 : decode b_Reckoner_init 46 = .ok (.iconst 0, 1) := by decide +kernel
theorem d_Reckoner_init_47 : decode b_Reckoner_init 47 = .ok (.istore_n 1, 1) := by decide +kernel
theorem d_Reckoner_init_48 : decode b_Reckoner_init 48 = .ok (.iload_n 1, 1) := by decide +kernel
theorem d_Reckoner_init_49 : decode b_Reckoner_init 49 = .ok (.bipush 8, 2) := by decide +kernel
theorem d_Reckoner_init_51 : decode b_Reckoner_init 51 = .ok (.if_icmp .ge 16, 3) := by decide +kernel
theorem d_Reckoner_init_54 : decode b_Reckoner_init 54 = .ok (.aload_n 0, 1) := by decide +kernel
theorem d_Reckoner_init_55 : decode b_Reckoner_init 55 = .ok (.getfield 15, 3) := by decide +kernel
theorem d_Reckoner_init_58 : decode b_Reckoner_init 58 = .ok (.iload_n 1, 1) := by decide +kernel
theorem d_Reckoner_init_59 : decode b_Reckoner_init 59 = .ok (.lconst 1, 1) := by decide +kernel
theorem d_Reckoner_init_60 : decode b_Reckoner_init 60 = .ok (.lastore, 1) := by decide +kernel
theorem d_Reckoner_init_61 : decode b_Reckoner_init 61 = .ok (.iinc 1 1, 3) := by decide +kernel
theorem d_Reckoner_init_64 : decode b_Reckoner_init 64 = .ok (.goto (-16), 3) := by decide +kernel
theorem d_Reckoner_init_67 : decode b_Reckoner_init 67 = .ok (.return_, 1) := by decide +kernel
def oReckoner0 : Ob := (s64 (s64 (s64 (s64 (s64 (s64 (s64 (s64 (s32 ob0 5 0 (1 : Int32)) 1 (Int32.toNatClampNeg (0 : Int32)) (1 : Int64)) 1 (Int32.toNatClampNeg (1 : Int32)) (1 : Int64)) 1 (Int32.toNatClampNeg (2 : Int32)) (1 : Int64)) 1 (Int32.toNatClampNeg (3 : Int32)) (1 : Int64)) 1 (Int32.toNatClampNeg (4 : Int32)) (1 : Int64)) 1 (Int32.toNatClampNeg (5 : Int32)) (1 : Int64)) 1 (Int32.toNatClampNeg (6 : Int32)) (1 : Int64)) 1 (Int32.toNatClampNeg (7 : Int32)) (1 : Int64))
abbrev ws_Reckoner_init : List Cond := Cond.code y_Reckoner_init b_Reckoner_init 2 none :: wsAll
abbrev rm_Reckoner_init : Room := { frames := 1, cells := 4, slots := 54, locals := 30 }
set_option maxHeartbeats 4000000 in
set_option maxRecDepth 100000 in
theorem c_Reckoner_init (l : Launch) (ct dC : Nat → ClassId) (dI : Nat → Nat → Nat) (h0 sz : Nat) : Met l y_Reckoner_init ws_Reckoner_init rm_Reckoner_init (bn_Pc h0 (.inr (4, [.null, .null, .null, .null, .int 0, .int 0])) ct dC dI sz) (bn_Q h0 ct dC dI (fun u => wReckoner ct (u 0) oReckoner0) (va_A [(h0, .inr (4, [.null, .null, .null, .null, .int 0, .int 0]))] sz)) 4 54 (va_A [(h0, .inr (4, [.null, .null, .null, .null, .int 0, .int 0]))] sz) := by
  refine Met.ofW (cc := b_Reckoner_init) (maxL := 2) (ret := none) (by decide) rfl ?_
  intro p e s m args below meth c s₁ B hml hv
  obtain ⟨rfl, hsz, hP, hK, hnx, hao⟩ := hv
  have hx := B.exec
  have hb := B.bytes
  have hr := B.returns
  have hts : ∀ w ∈ wsAll, w.before [Value.ref h0].toArray s = true := fun w h9 => atoms_spec (ws := ws_Reckoner_init) B.pre w (List.mem_cons_of_mem _ h9)
  have hown : s.vm.findClass R_Reckoner = some m.cls := findClass_of_methodNamed B.named
  have hlocks := B.notSynchronized
  have hin : meth.name = "<init>" := (name_of_methodNamed B.named B.method).1
  subst hsz
  have hD : va_D (va_A [(h0, .inr (4, [.null, .null, .null, .null, .int 0, .int 0]))] s.heap.size) [(h0, .inr (4, [.null, .null, .null, .null, .int 0, .int 0]))] := bn_D1 (Or.inl ⟨0, _, rfl⟩)
  generalize hAe : va_A [(h0, .inr (4, [.null, .null, .null, .null, .int 0, .int 0]))] s.heap.size = A at hD ⊢
  have hA : ∀ q : Nat, s.heap.size ≤ q → A q := fun q h => by rw [← hAe]; exact Or.inr h
  have hS : va_S A s.heap s.heap [] := va_S.rf
  have hl := lv_entry ([.ref h0]) (n := 2) (Nat.le_of_ble_eq_true rfl)
  rw [lg_entry_eq]
  generalize (lg_sl ([.ref h0]) ++ List.replicate (2 - (lg_sl ([.ref h0])).length) Slot.unset).toArray = ls at hl ⊢
  have hl : lv_has ls 2 [(0, .ref h0)] := hl
  refine lv_aload_n hx hb d_Reckoner_init_0 rfl (lv_at hl 0 rfl) ?_
  refine W.objInit hx hb hown (hts _ ml_Reckoner_3) (hts _ im_Object_init) (hts _ cd_Object_init) rfl (by rw [hml]; exact hl.1) rfl d_Reckoner_init_1 (Nat.le_of_ble_eq_true rfl) (Nat.le_of_ble_eq_true rfl) ?_
  refine W.eq (g2 := F0 m 4 ls []) rfl ?_
  refine lv_aload_n hx hb d_Reckoner_init_4 rfl (lv_at hl 0 rfl) ?_
  refine lv_bipush (v := 8) hx hb d_Reckoner_init_5 (by decide) ?_
  refine bn_newa (atype := .long) (cT := ct 1) (a0 := (8, .inr (.inl (fun _ => 0)))) (N' := 8) hx hb (hts _ ac_long) (hK.2 1 _ rfl).2 hP hD hS hA rfl (by decide +kernel) (by decide +kernel) (by decide +kernel) (Nat.le_of_ble_eq_true rfl) (Nat.le_of_ble_eq_true rfl) d_Reckoner_init_7 (fun q5 H hP1 hD1 hS1 => ?_)
  clear hP hD hS
  have hP : va_P (dC, dI) vwCl [(h0, .inr (4, [.null, .null, .null, .null, .int 0, .int 0])), (q5, .inl (ct 1, 8, .inr (.inl (fun _ => 0))))] H := hP1
  have hD : va_D A [(h0, .inr (4, [.null, .null, .null, .null, .int 0, .int 0])), (q5, .inl (ct 1, 8, .inr (.inl (fun _ => 0))))] := hD1
  have hS := hS1
  clear hP1 hD1 hS1
  refine va_putF (D := (dC, dI)) (ci := 4) (v := .ref q5) (ty := .array .long) (C := R_Reckoner) (T := T_Reckoner) (N := 6) hx hb hts in_Reckoner ty_Reckoner tyok_Reckoner nm_Reckoner hown hK hP hD hS 0 rfl rfl 0 (by decide) (hts _ fl_Reckoner_9) (fun _ h9 => h9) rfl hin rfl (by decide +kernel) rfl rfl (Nat.le_of_ble_eq_true rfl) d_Reckoner_init_9 (fun H locs hP1 hD1 hS1 => ?_)
  clear hP hD hS
  have hP : va_P (dC, dI) vwCl [(h0, .inr (4, [.ref q5, .null, .null, .null, .int 0, .int 0])), (q5, .inl (ct 1, 8, .inr (.inl (fun _ => 0))))] H := hP1
  have hD : va_D A [(h0, .inr (4, [.ref q5, .null, .null, .null, .int 0, .int 0])), (q5, .inl (ct 1, 8, .inr (.inl (fun _ => 0))))] := hD1
  have hS := hS1
  clear hP1 hD1 hS1
  refine lv_aload_n hx hb d_Reckoner_init_12 rfl (lv_at hl 0 rfl) ?_
  refine lv_bipush (v := 8) hx hb d_Reckoner_init_13 (by decide) ?_
  refine bn_newa (atype := .long) (cT := ct 1) (a0 := (8, .inr (.inl (fun _ => 0)))) (N' := 8) hx hb (hts _ ac_long) (hK.2 1 _ rfl).2 hP hD hS hA rfl (by decide +kernel) (by decide +kernel) (by decide +kernel) (Nat.le_of_ble_eq_true rfl) (Nat.le_of_ble_eq_true rfl) d_Reckoner_init_15 (fun q9 H hP1 hD1 hS1 => ?_)
  clear hP hD hS
  have hP : va_P (dC, dI) vwCl [(h0, .inr (4, [.ref q5, .null, .null, .null, .int 0, .int 0])), (q5, .inl (ct 1, 8, .inr (.inl (fun _ => 0)))), (q9, .inl (ct 1, 8, .inr (.inl (fun _ => 0))))] H := hP1
  have hD : va_D A [(h0, .inr (4, [.ref q5, .null, .null, .null, .int 0, .int 0])), (q5, .inl (ct 1, 8, .inr (.inl (fun _ => 0)))), (q9, .inl (ct 1, 8, .inr (.inl (fun _ => 0))))] := hD1
  have hS := hS1
  clear hP1 hD1 hS1
  refine va_putF (D := (dC, dI)) (ci := 4) (v := .ref q9) (ty := .array .long) (C := R_Reckoner) (T := T_Reckoner) (N := 6) hx hb hts in_Reckoner ty_Reckoner tyok_Reckoner nm_Reckoner hown hK hP hD hS 0 rfl rfl 1 (by decide) (hts _ fl_Reckoner_15) (fun _ h9 => h9) rfl hin rfl (by decide +kernel) rfl rfl (Nat.le_of_ble_eq_true rfl) d_Reckoner_init_17 (fun H locs hP1 hD1 hS1 => ?_)
  clear hP hD hS
  have hP : va_P (dC, dI) vwCl [(h0, .inr (4, [.ref q5, .ref q9, .null, .null, .int 0, .int 0])), (q5, .inl (ct 1, 8, .inr (.inl (fun _ => 0)))), (q9, .inl (ct 1, 8, .inr (.inl (fun _ => 0))))] H := hP1
  have hD : va_D A [(h0, .inr (4, [.ref q5, .ref q9, .null, .null, .int 0, .int 0])), (q5, .inl (ct 1, 8, .inr (.inl (fun _ => 0)))), (q9, .inl (ct 1, 8, .inr (.inl (fun _ => 0))))] := hD1
  have hS := hS1
  clear hP1 hD1 hS1
  refine lv_aload_n hx hb d_Reckoner_init_20 rfl (lv_at hl 0 rfl) ?_
  refine lv_bipush (v := 19) hx hb d_Reckoner_init_21 (by decide) ?_
  refine bn_newa (atype := .long) (cT := ct 1) (a0 := (19, .inr (.inl (fun _ => 0)))) (N' := 19) hx hb (hts _ ac_long) (hK.2 1 _ rfl).2 hP hD hS hA rfl (by decide +kernel) (by decide +kernel) (by decide +kernel) (Nat.le_of_ble_eq_true rfl) (Nat.le_of_ble_eq_true rfl) d_Reckoner_init_23 (fun q13 H hP1 hD1 hS1 => ?_)
  clear hP hD hS
  have hP : va_P (dC, dI) vwCl [(h0, .inr (4, [.ref q5, .ref q9, .null, .null, .int 0, .int 0])), (q5, .inl (ct 1, 8, .inr (.inl (fun _ => 0)))), (q9, .inl (ct 1, 8, .inr (.inl (fun _ => 0)))), (q13, .inl (ct 1, 19, .inr (.inl (fun _ => 0))))] H := hP1
  have hD : va_D A [(h0, .inr (4, [.ref q5, .ref q9, .null, .null, .int 0, .int 0])), (q5, .inl (ct 1, 8, .inr (.inl (fun _ => 0)))), (q9, .inl (ct 1, 8, .inr (.inl (fun _ => 0)))), (q13, .inl (ct 1, 19, .inr (.inl (fun _ => 0))))] := hD1
  have hS := hS1
  clear hP1 hD1 hS1
  refine va_putF (D := (dC, dI)) (ci := 4) (v := .ref q13) (ty := .array .long) (C := R_Reckoner) (T := T_Reckoner) (N := 6) hx hb hts in_Reckoner ty_Reckoner tyok_Reckoner nm_Reckoner hown hK hP hD hS 0 rfl rfl 2 (by decide) (hts _ fl_Reckoner_18) (fun _ h9 => h9) rfl hin rfl (by decide +kernel) rfl rfl (Nat.le_of_ble_eq_true rfl) d_Reckoner_init_25 (fun H locs hP1 hD1 hS1 => ?_)
  clear hP hD hS
  have hP : va_P (dC, dI) vwCl [(h0, .inr (4, [.ref q5, .ref q9, .ref q13, .null, .int 0, .int 0])), (q5, .inl (ct 1, 8, .inr (.inl (fun _ => 0)))), (q9, .inl (ct 1, 8, .inr (.inl (fun _ => 0)))), (q13, .inl (ct 1, 19, .inr (.inl (fun _ => 0))))] H := hP1
  have hD : va_D A [(h0, .inr (4, [.ref q5, .ref q9, .ref q13, .null, .int 0, .int 0])), (q5, .inl (ct 1, 8, .inr (.inl (fun _ => 0)))), (q9, .inl (ct 1, 8, .inr (.inl (fun _ => 0)))), (q13, .inl (ct 1, 19, .inr (.inl (fun _ => 0))))] := hD1
  have hS := hS1
  clear hP1 hD1 hS1
  refine lv_aload_n hx hb d_Reckoner_init_28 rfl (lv_at hl 0 rfl) ?_
  refine lv_bipush (v := 19) hx hb d_Reckoner_init_29 (by decide) ?_
  refine bn_newa (atype := .long) (cT := ct 1) (a0 := (19, .inr (.inl (fun _ => 0)))) (N' := 19) hx hb (hts _ ac_long) (hK.2 1 _ rfl).2 hP hD hS hA rfl (by decide +kernel) (by decide +kernel) (by decide +kernel) (Nat.le_of_ble_eq_true rfl) (Nat.le_of_ble_eq_true rfl) d_Reckoner_init_31 (fun q17 H hP1 hD1 hS1 => ?_)
  clear hP hD hS
  have hP : va_P (dC, dI) vwCl [(h0, .inr (4, [.ref q5, .ref q9, .ref q13, .null, .int 0, .int 0])), (q5, .inl (ct 1, 8, .inr (.inl (fun _ => 0)))), (q9, .inl (ct 1, 8, .inr (.inl (fun _ => 0)))), (q13, .inl (ct 1, 19, .inr (.inl (fun _ => 0)))), (q17, .inl (ct 1, 19, .inr (.inl (fun _ => 0))))] H := hP1
  have hD : va_D A [(h0, .inr (4, [.ref q5, .ref q9, .ref q13, .null, .int 0, .int 0])), (q5, .inl (ct 1, 8, .inr (.inl (fun _ => 0)))), (q9, .inl (ct 1, 8, .inr (.inl (fun _ => 0)))), (q13, .inl (ct 1, 19, .inr (.inl (fun _ => 0)))), (q17, .inl (ct 1, 19, .inr (.inl (fun _ => 0))))] := hD1
  have hS := hS1
  clear hP1 hD1 hS1
  refine va_putF (D := (dC, dI)) (ci := 4) (v := .ref q17) (ty := .array .long) (C := R_Reckoner) (T := T_Reckoner) (N := 6) hx hb hts in_Reckoner ty_Reckoner tyok_Reckoner nm_Reckoner hown hK hP hD hS 0 rfl rfl 3 (by decide) (hts _ fl_Reckoner_21) (fun _ h9 => h9) rfl hin rfl (by decide +kernel) rfl rfl (Nat.le_of_ble_eq_true rfl) d_Reckoner_init_33 (fun H locs hP1 hD1 hS1 => ?_)
  clear hP hD hS
  have hP : va_P (dC, dI) vwCl [(h0, .inr (4, [.ref q5, .ref q9, .ref q13, .ref q17, .int 0, .int 0])), (q5, .inl (ct 1, 8, .inr (.inl (fun _ => 0)))), (q9, .inl (ct 1, 8, .inr (.inl (fun _ => 0)))), (q13, .inl (ct 1, 19, .inr (.inl (fun _ => 0)))), (q17, .inl (ct 1, 19, .inr (.inl (fun _ => 0))))] H := hP1
  have hD : va_D A [(h0, .inr (4, [.ref q5, .ref q9, .ref q13, .ref q17, .int 0, .int 0])), (q5, .inl (ct 1, 8, .inr (.inl (fun _ => 0)))), (q9, .inl (ct 1, 8, .inr (.inl (fun _ => 0)))), (q13, .inl (ct 1, 19, .inr (.inl (fun _ => 0)))), (q17, .inl (ct 1, 19, .inr (.inl (fun _ => 0))))] := hD1
  have hS := hS1
  clear hP1 hD1 hS1
  refine lv_aload_n hx hb d_Reckoner_init_36 rfl (lv_at hl 0 rfl) ?_
  refine lv_iconst (v := 0) hx hb d_Reckoner_init_37 (by decide) ?_
  refine va_put (D := (dC, dI)) (ci := 4) (v := .int (0 : Int32)) (ty := .int) (C := R_Reckoner) (T := T_Reckoner) (N := 6) hx hb hts in_Reckoner ty_Reckoner tyok_Reckoner nm_Reckoner hown hK hP hD hS 0 rfl rfl 4 (by decide) (hts _ fl_Reckoner_24) (fun _ h9 => h9) rfl (by decide +kernel) rfl rfl (Nat.le_of_ble_eq_true rfl) d_Reckoner_init_38 (fun H locs hP1 hD1 hS1 => ?_)
  clear hP hD hS
  have hP : va_P (dC, dI) vwCl [(h0, .inr (4, [.ref q5, .ref q9, .ref q13, .ref q17, .int (0 : Int32), .int 0])), (q5, .inl (ct 1, 8, .inr (.inl (fun _ => 0)))), (q9, .inl (ct 1, 8, .inr (.inl (fun _ => 0)))), (q13, .inl (ct 1, 19, .inr (.inl (fun _ => 0)))), (q17, .inl (ct 1, 19, .inr (.inl (fun _ => 0))))] H := hP1
  have hD : va_D A [(h0, .inr (4, [.ref q5, .ref q9, .ref q13, .ref q17, .int (0 : Int32), .int 0])), (q5, .inl (ct 1, 8, .inr (.inl (fun _ => 0)))), (q9, .inl (ct 1, 8, .inr (.inl (fun _ => 0)))), (q13, .inl (ct 1, 19, .inr (.inl (fun _ => 0)))), (q17, .inl (ct 1, 19, .inr (.inl (fun _ => 0))))] := hD1
  have hS := hS1
  clear hP1 hD1 hS1
  refine lv_aload_n hx hb d_Reckoner_init_41 rfl (lv_at hl 0 rfl) ?_
  refine lv_iconst (v := 1) hx hb d_Reckoner_init_42 (by decide) ?_
  refine va_put (D := (dC, dI)) (ci := 4) (v := .int (1 : Int32)) (ty := .int) (C := R_Reckoner) (T := T_Reckoner) (N := 6) hx hb hts in_Reckoner ty_Reckoner tyok_Reckoner nm_Reckoner hown hK hP hD hS 0 rfl rfl 5 (by decide) (hts _ fl_Reckoner_28) (fun _ h9 => h9) rfl (by decide +kernel) rfl rfl (Nat.le_of_ble_eq_true rfl) d_Reckoner_init_43 (fun H locs hP1 hD1 hS1 => ?_)
  clear hP hD hS
  have hP : va_P (dC, dI) vwCl [(h0, .inr (4, [.ref q5, .ref q9, .ref q13, .ref q17, .int (0 : Int32), .int (1 : Int32)])), (q5, .inl (ct 1, 8, .inr (.inl (fun _ => 0)))), (q9, .inl (ct 1, 8, .inr (.inl (fun _ => 0)))), (q13, .inl (ct 1, 19, .inr (.inl (fun _ => 0)))), (q17, .inl (ct 1, 19, .inr (.inl (fun _ => 0))))] H := hP1
  have hD : va_D A [(h0, .inr (4, [.ref q5, .ref q9, .ref q13, .ref q17, .int (0 : Int32), .int (1 : Int32)])), (q5, .inl (ct 1, 8, .inr (.inl (fun _ => 0)))), (q9, .inl (ct 1, 8, .inr (.inl (fun _ => 0)))), (q13, .inl (ct 1, 19, .inr (.inl (fun _ => 0)))), (q17, .inl (ct 1, 19, .inr (.inl (fun _ => 0))))] := hD1
  have hS := hS1
  clear hP1 hD1 hS1
  refine lv_iconst (v := 0) hx hb d_Reckoner_init_46 (by decide) ?_
  refine lv_istore_n (lv' := [(1, .int (0 : Int32)), (0, .ref h0)]) hx hb d_Reckoner_init_47 rfl hl (by decide) rfl (fun ls hl => ?_)
  refine lv_iload_n hx hb d_Reckoner_init_48 rfl (lv_at hl 0 rfl) ?_
  refine lv_bipush (v := 8) hx hb d_Reckoner_init_49 (by decide) ?_
  refine lv_icmp_ge (tgt := 67) hx hb d_Reckoner_init_51 (by decide) (fun c9 => absurd c9 (by decide)) (fun _ => ?_)
  refine lv_aload_n hx hb d_Reckoner_init_54 rfl (lv_at hl 1 rfl) ?_
  refine va_get (D := (dC, dI)) (ci := 4) (v := .ref q9) (C := R_Reckoner) (T := T_Reckoner) (N := 6) hx hb hts in_Reckoner hown hK hP 0 rfl rfl 1 (by decide) (hts _ fl_Reckoner_15) (fun _ h9 => h9) rfl d_Reckoner_init_55 ?_
  refine lv_iload_n hx hb d_Reckoner_init_58 rfl (lv_at hl 0 rfl) ?_
  refine lv_lconst (v := 1) hx hb d_Reckoner_init_59 (by decide) ?_
  refine va_last hx hb hK hP hD hS 2 1 rfl rfl (inb_in (by decide)) d_Reckoner_init_60 (fun H locs hP1 hD1 hS1 => ?_)
  clear hP hD hS
  have hP : va_P (dC, dI) vwCl [(h0, .inr (4, [.ref q5, .ref q9, .ref q13, .ref q17, .int (0 : Int32), .int (1 : Int32)])), (q5, .inl (ct 1, 8, .inr (.inl (fun _ => 0)))), (q9, .inl (ct 1, 8, .inr (.inl (vp_updL (fun _ => 0) (Int32.toNatClampNeg (0 : Int32)) (1 : Int64))))), (q13, .inl (ct 1, 19, .inr (.inl (fun _ => 0)))), (q17, .inl (ct 1, 19, .inr (.inl (fun _ => 0))))] H := hP1
  have hD : va_D A [(h0, .inr (4, [.ref q5, .ref q9, .ref q13, .ref q17, .int (0 : Int32), .int (1 : Int32)])), (q5, .inl (ct 1, 8, .inr (.inl (fun _ => 0)))), (q9, .inl (ct 1, 8, .inr (.inl (vp_updL (fun _ => 0) (Int32.toNatClampNeg (0 : Int32)) (1 : Int64))))), (q13, .inl (ct 1, 19, .inr (.inl (fun _ => 0)))), (q17, .inl (ct 1, 19, .inr (.inl (fun _ => 0))))] := hD1
  have hS := hS1
  clear hP1 hD1 hS1
  refine lv_iinc (v := 1) (lv' := [(1, .int (1 : Int32)), (0, .ref h0)]) hx hb d_Reckoner_init_61 hl (k := 0) rfl (by decide) (by decide) rfl (fun ls hl => ?_)
  refine lv_goto (tgt := 48) hx hb d_Reckoner_init_64 (by decide) ?_
  refine lv_iload_n hx hb d_Reckoner_init_48 rfl (lv_at hl 0 rfl) ?_
  refine lv_bipush (v := 8) hx hb d_Reckoner_init_49 (by decide) ?_
  refine lv_icmp_ge (tgt := 67) hx hb d_Reckoner_init_51 (by decide) (fun c9 => absurd c9 (by decide)) (fun _ => ?_)
  refine lv_aload_n hx hb d_Reckoner_init_54 rfl (lv_at hl 1 rfl) ?_
  refine va_get (D := (dC, dI)) (ci := 4) (v := .ref q9) (C := R_Reckoner) (T := T_Reckoner) (N := 6) hx hb hts in_Reckoner hown hK hP 0 rfl rfl 1 (by decide) (hts _ fl_Reckoner_15) (fun _ h9 => h9) rfl d_Reckoner_init_55 ?_
  refine lv_iload_n hx hb d_Reckoner_init_58 rfl (lv_at hl 0 rfl) ?_
  refine lv_lconst (v := 1) hx hb d_Reckoner_init_59 (by decide) ?_
  refine va_last hx hb hK hP hD hS 2 1 rfl rfl (inb_in (by decide)) d_Reckoner_init_60 (fun H locs hP1 hD1 hS1 => ?_)
  clear hP hD hS
  have hP : va_P (dC, dI) vwCl [(h0, .inr (4, [.ref q5, .ref q9, .ref q13, .ref q17, .int (0 : Int32), .int (1 : Int32)])), (q5, .inl (ct 1, 8, .inr (.inl (fun _ => 0)))), (q9, .inl (ct 1, 8, .inr (.inl (vp_updL (vp_updL (fun _ => 0) (Int32.toNatClampNeg (0 : Int32)) (1 : Int64)) (Int32.toNatClampNeg (1 : Int32)) (1 : Int64))))), (q13, .inl (ct 1, 19, .inr (.inl (fun _ => 0)))), (q17, .inl (ct 1, 19, .inr (.inl (fun _ => 0))))] H := hP1
  have hD : va_D A [(h0, .inr (4, [.ref q5, .ref q9, .ref q13, .ref q17, .int (0 : Int32), .int (1 : Int32)])), (q5, .inl (ct 1, 8, .inr (.inl (fun _ => 0)))), (q9, .inl (ct 1, 8, .inr (.inl (vp_updL (vp_updL (fun _ => 0) (Int32.toNatClampNeg (0 : Int32)) (1 : Int64)) (Int32.toNatClampNeg (1 : Int32)) (1 : Int64))))), (q13, .inl (ct 1, 19, .inr (.inl (fun _ => 0)))), (q17, .inl (ct 1, 19, .inr (.inl (fun _ => 0))))] := hD1
  have hS := hS1
  clear hP1 hD1 hS1
  refine lv_iinc (v := 2) (lv' := [(1, .int (2 : Int32)), (0, .ref h0)]) hx hb d_Reckoner_init_61 hl (k := 0) rfl (by decide) (by decide) rfl (fun ls hl => ?_)
  refine lv_goto (tgt := 48) hx hb d_Reckoner_init_64 (by decide) ?_
  refine lv_iload_n hx hb d_Reckoner_init_48 rfl (lv_at hl 0 rfl) ?_
  refine lv_bipush (v := 8) hx hb d_Reckoner_init_49 (by decide) ?_
  refine lv_icmp_ge (tgt := 67) hx hb d_Reckoner_init_51 (by decide) (fun c9 => absurd c9 (by decide)) (fun _ => ?_)
  refine lv_aload_n hx hb d_Reckoner_init_54 rfl (lv_at hl 1 rfl) ?_
  refine va_get (D := (dC, dI)) (ci := 4) (v := .ref q9) (C := R_Reckoner) (T := T_Reckoner) (N := 6) hx hb hts in_Reckoner hown hK hP 0 rfl rfl 1 (by decide) (hts _ fl_Reckoner_15) (fun _ h9 => h9) rfl d_Reckoner_init_55 ?_
  refine lv_iload_n hx hb d_Reckoner_init_58 rfl (lv_at hl 0 rfl) ?_
  refine lv_lconst (v := 1) hx hb d_Reckoner_init_59 (by decide) ?_
  refine va_last hx hb hK hP hD hS 2 1 rfl rfl (inb_in (by decide)) d_Reckoner_init_60 (fun H locs hP1 hD1 hS1 => ?_)
  clear hP hD hS
  have hP : va_P (dC, dI) vwCl [(h0, .inr (4, [.ref q5, .ref q9, .ref q13, .ref q17, .int (0 : Int32), .int (1 : Int32)])), (q5, .inl (ct 1, 8, .inr (.inl (fun _ => 0)))), (q9, .inl (ct 1, 8, .inr (.inl (vp_updL (vp_updL (vp_updL (fun _ => 0) (Int32.toNatClampNeg (0 : Int32)) (1 : Int64)) (Int32.toNatClampNeg (1 : Int32)) (1 : Int64)) (Int32.toNatClampNeg (2 : Int32)) (1 : Int64))))), (q13, .inl (ct 1, 19, .inr (.inl (fun _ => 0)))), (q17, .inl (ct 1, 19, .inr (.inl (fun _ => 0))))] H := hP1
  have hD : va_D A [(h0, .inr (4, [.ref q5, .ref q9, .ref q13, .ref q17, .int (0 : Int32), .int (1 : Int32)])), (q5, .inl (ct 1, 8, .inr (.inl (fun _ => 0)))), (q9, .inl (ct 1, 8, .inr (.inl (vp_updL (vp_updL (vp_updL (fun _ => 0) (Int32.toNatClampNeg (0 : Int32)) (1 : Int64)) (Int32.toNatClampNeg (1 : Int32)) (1 : Int64)) (Int32.toNatClampNeg (2 : Int32)) (1 : Int64))))), (q13, .inl (ct 1, 19, .inr (.inl (fun _ => 0)))), (q17, .inl (ct 1, 19, .inr (.inl (fun _ => 0))))] := hD1
  have hS := hS1
  clear hP1 hD1 hS1
  refine lv_iinc (v := 3) (lv' := [(1, .int (3 : Int32)), (0, .ref h0)]) hx hb d_Reckoner_init_61 hl (k := 0) rfl (by decide) (by decide) rfl (fun ls hl => ?_)
  refine lv_goto (tgt := 48) hx hb d_Reckoner_init_64 (by decide) ?_
  refine lv_iload_n hx hb d_Reckoner_init_48 rfl (lv_at hl 0 rfl) ?_
  refine lv_bipush (v := 8) hx hb d_Reckoner_init_49 (by decide) ?_
  refine lv_icmp_ge (tgt := 67) hx hb d_Reckoner_init_51 (by decide) (fun c9 => absurd c9 (by decide)) (fun _ => ?_)
  refine lv_aload_n hx hb d_Reckoner_init_54 rfl (lv_at hl 1 rfl) ?_
  refine va_get (D := (dC, dI)) (ci := 4) (v := .ref q9) (C := R_Reckoner) (T := T_Reckoner) (N := 6) hx hb hts in_Reckoner hown hK hP 0 rfl rfl 1 (by decide) (hts _ fl_Reckoner_15) (fun _ h9 => h9) rfl d_Reckoner_init_55 ?_
  refine lv_iload_n hx hb d_Reckoner_init_58 rfl (lv_at hl 0 rfl) ?_
  refine lv_lconst (v := 1) hx hb d_Reckoner_init_59 (by decide) ?_
  refine va_last hx hb hK hP hD hS 2 1 rfl rfl (inb_in (by decide)) d_Reckoner_init_60 (fun H locs hP1 hD1 hS1 => ?_)
  clear hP hD hS
  have hP : va_P (dC, dI) vwCl [(h0, .inr (4, [.ref q5, .ref q9, .ref q13, .ref q17, .int (0 : Int32), .int (1 : Int32)])), (q5, .inl (ct 1, 8, .inr (.inl (fun _ => 0)))), (q9, .inl (ct 1, 8, .inr (.inl (vp_updL (vp_updL (vp_updL (vp_updL (fun _ => 0) (Int32.toNatClampNeg (0 : Int32)) (1 : Int64)) (Int32.toNatClampNeg (1 : Int32)) (1 : Int64)) (Int32.toNatClampNeg (2 : Int32)) (1 : Int64)) (Int32.toNatClampNeg (3 : Int32)) (1 : Int64))))), (q13, .inl (ct 1, 19, .inr (.inl (fun _ => 0)))), (q17, .inl (ct 1, 19, .inr (.inl (fun _ => 0))))] H := hP1
  have hD : va_D A [(h0, .inr (4, [.ref q5, .ref q9, .ref q13, .ref q17, .int (0 : Int32), .int (1 : Int32)])), (q5, .inl (ct 1, 8, .inr (.inl (fun _ => 0)))), (q9, .inl (ct 1, 8, .inr (.inl (vp_updL (vp_updL (vp_updL (vp_updL (fun _ => 0) (Int32.toNatClampNeg (0 : Int32)) (1 : Int64)) (Int32.toNatClampNeg (1 : Int32)) (1 : Int64)) (Int32.toNatClampNeg (2 : Int32)) (1 : Int64)) (Int32.toNatClampNeg (3 : Int32)) (1 : Int64))))), (q13, .inl (ct 1, 19, .inr (.inl (fun _ => 0)))), (q17, .inl (ct 1, 19, .inr (.inl (fun _ => 0))))] := hD1
  have hS := hS1
  clear hP1 hD1 hS1
  refine lv_iinc (v := 4) (lv' := [(1, .int (4 : Int32)), (0, .ref h0)]) hx hb d_Reckoner_init_61 hl (k := 0) rfl (by decide) (by decide) rfl (fun ls hl => ?_)
  refine lv_goto (tgt := 48) hx hb d_Reckoner_init_64 (by decide) ?_
  refine lv_iload_n hx hb d_Reckoner_init_48 rfl (lv_at hl 0 rfl) ?_
  refine lv_bipush (v := 8) hx hb d_Reckoner_init_49 (by decide) ?_
  refine lv_icmp_ge (tgt := 67) hx hb d_Reckoner_init_51 (by decide) (fun c9 => absurd c9 (by decide)) (fun _ => ?_)
  refine lv_aload_n hx hb d_Reckoner_init_54 rfl (lv_at hl 1 rfl) ?_
  refine va_get (D := (dC, dI)) (ci := 4) (v := .ref q9) (C := R_Reckoner) (T := T_Reckoner) (N := 6) hx hb hts in_Reckoner hown hK hP 0 rfl rfl 1 (by decide) (hts _ fl_Reckoner_15) (fun _ h9 => h9) rfl d_Reckoner_init_55 ?_
  refine lv_iload_n hx hb d_Reckoner_init_58 rfl (lv_at hl 0 rfl) ?_
  refine lv_lconst (v := 1) hx hb d_Reckoner_init_59 (by decide) ?_
  refine va_last hx hb hK hP hD hS 2 1 rfl rfl (inb_in (by decide)) d_Reckoner_init_60 (fun H locs hP1 hD1 hS1 => ?_)
  clear hP hD hS
  have hP : va_P (dC, dI) vwCl [(h0, .inr (4, [.ref q5, .ref q9, .ref q13, .ref q17, .int (0 : Int32), .int (1 : Int32)])), (q5, .inl (ct 1, 8, .inr (.inl (fun _ => 0)))), (q9, .inl (ct 1, 8, .inr (.inl (vp_updL (vp_updL (vp_updL (vp_updL (vp_updL (fun _ => 0) (Int32.toNatClampNeg (0 : Int32)) (1 : Int64)) (Int32.toNatClampNeg (1 : Int32)) (1 : Int64)) (Int32.toNatClampNeg (2 : Int32)) (1 : Int64)) (Int32.toNatClampNeg (3 : Int32)) (1 : Int64)) (Int32.toNatClampNeg (4 : Int32)) (1 : Int64))))), (q13, .inl (ct 1, 19, .inr (.inl (fun _ => 0)))), (q17, .inl (ct 1, 19, .inr (.inl (fun _ => 0))))] H := hP1
  have hD : va_D A [(h0, .inr (4, [.ref q5, .ref q9, .ref q13, .ref q17, .int (0 : Int32), .int (1 : Int32)])), (q5, .inl (ct 1, 8, .inr (.inl (fun _ => 0)))), (q9, .inl (ct 1, 8, .inr (.inl (vp_updL (vp_updL (vp_updL (vp_updL (vp_updL (fun _ => 0) (Int32.toNatClampNeg (0 : Int32)) (1 : Int64)) (Int32.toNatClampNeg (1 : Int32)) (1 : Int64)) (Int32.toNatClampNeg (2 : Int32)) (1 : Int64)) (Int32.toNatClampNeg (3 : Int32)) (1 : Int64)) (Int32.toNatClampNeg (4 : Int32)) (1 : Int64))))), (q13, .inl (ct 1, 19, .inr (.inl (fun _ => 0)))), (q17, .inl (ct 1, 19, .inr (.inl (fun _ => 0))))] := hD1
  have hS := hS1
  clear hP1 hD1 hS1
  refine lv_iinc (v := 5) (lv' := [(1, .int (5 : Int32)), (0, .ref h0)]) hx hb d_Reckoner_init_61 hl (k := 0) rfl (by decide) (by decide) rfl (fun ls hl => ?_)
  refine lv_goto (tgt := 48) hx hb d_Reckoner_init_64 (by decide) ?_
  refine lv_iload_n hx hb d_Reckoner_init_48 rfl (lv_at hl 0 rfl) ?_
  refine lv_bipush (v := 8) hx hb d_Reckoner_init_49 (by decide) ?_
  refine lv_icmp_ge (tgt := 67) hx hb d_Reckoner_init_51 (by decide) (fun c9 => absurd c9 (by decide)) (fun _ => ?_)
  refine lv_aload_n hx hb d_Reckoner_init_54 rfl (lv_at hl 1 rfl) ?_
  refine va_get (D := (dC, dI)) (ci := 4) (v := .ref q9) (C := R_Reckoner) (T := T_Reckoner) (N := 6) hx hb hts in_Reckoner hown hK hP 0 rfl rfl 1 (by decide) (hts _ fl_Reckoner_15) (fun _ h9 => h9) rfl d_Reckoner_init_55 ?_
  refine lv_iload_n hx hb d_Reckoner_init_58 rfl (lv_at hl 0 rfl) ?_
  refine lv_lconst (v := 1) hx hb d_Reckoner_init_59 (by decide) ?_
  refine va_last hx hb hK hP hD hS 2 1 rfl rfl (inb_in (by decide)) d_Reckoner_init_60 (fun H locs hP1 hD1 hS1 => ?_)
  clear hP hD hS
  have hP : va_P (dC, dI) vwCl [(h0, .inr (4, [.ref q5, .ref q9, .ref q13, .ref q17, .int (0 : Int32), .int (1 : Int32)])), (q5, .inl (ct 1, 8, .inr (.inl (fun _ => 0)))), (q9, .inl (ct 1, 8, .inr (.inl (vp_updL (vp_updL (vp_updL (vp_updL (vp_updL (vp_updL (fun _ => 0) (Int32.toNatClampNeg (0 : Int32)) (1 : Int64)) (Int32.toNatClampNeg (1 : Int32)) (1 : Int64)) (Int32.toNatClampNeg (2 : Int32)) (1 : Int64)) (Int32.toNatClampNeg (3 : Int32)) (1 : Int64)) (Int32.toNatClampNeg (4 : Int32)) (1 : Int64)) (Int32.toNatClampNeg (5 : Int32)) (1 : Int64))))), (q13, .inl (ct 1, 19, .inr (.inl (fun _ => 0)))), (q17, .inl (ct 1, 19, .inr (.inl (fun _ => 0))))] H := hP1
  have hD : va_D A [(h0, .inr (4, [.ref q5, .ref q9, .ref q13, .ref q17, .int (0 : Int32), .int (1 : Int32)])), (q5, .inl (ct 1, 8, .inr (.inl (fun _ => 0)))), (q9, .inl (ct 1, 8, .inr (.inl (vp_updL (vp_updL (vp_updL (vp_updL (vp_updL (vp_updL (fun _ => 0) (Int32.toNatClampNeg (0 : Int32)) (1 : Int64)) (Int32.toNatClampNeg (1 : Int32)) (1 : Int64)) (Int32.toNatClampNeg (2 : Int32)) (1 : Int64)) (Int32.toNatClampNeg (3 : Int32)) (1 : Int64)) (Int32.toNatClampNeg (4 : Int32)) (1 : Int64)) (Int32.toNatClampNeg (5 : Int32)) (1 : Int64))))), (q13, .inl (ct 1, 19, .inr (.inl (fun _ => 0)))), (q17, .inl (ct 1, 19, .inr (.inl (fun _ => 0))))] := hD1
  have hS := hS1
  clear hP1 hD1 hS1
  refine lv_iinc (v := 6) (lv' := [(1, .int (6 : Int32)), (0, .ref h0)]) hx hb d_Reckoner_init_61 hl (k := 0) rfl (by decide) (by decide) rfl (fun ls hl => ?_)
  refine lv_goto (tgt := 48) hx hb d_Reckoner_init_64 (by decide) ?_
  refine lv_iload_n hx hb d_Reckoner_init_48 rfl (lv_at hl 0 rfl) ?_
  refine lv_bipush (v := 8) hx hb d_Reckoner_init_49 (by decide) ?_
  refine lv_icmp_ge (tgt := 67) hx hb d_Reckoner_init_51 (by decide) (fun c9 => absurd c9 (by decide)) (fun _ => ?_)
  refine lv_aload_n hx hb d_Reckoner_init_54 rfl (lv_at hl 1 rfl) ?_
  refine va_get (D := (dC, dI)) (ci := 4) (v := .ref q9) (C := R_Reckoner) (T := T_Reckoner) (N := 6) hx hb hts in_Reckoner hown hK hP 0 rfl rfl 1 (by decide) (hts _ fl_Reckoner_15) (fun _ h9 => h9) rfl d_Reckoner_init_55 ?_
  refine lv_iload_n hx hb d_Reckoner_init_58 rfl (lv_at hl 0 rfl) ?_
  refine lv_lconst (v := 1) hx hb d_Reckoner_init_59 (by decide) ?_
  refine va_last hx hb hK hP hD hS 2 1 rfl rfl (inb_in (by decide)) d_Reckoner_init_60 (fun H locs hP1 hD1 hS1 => ?_)
  clear hP hD hS
  have hP : va_P (dC, dI) vwCl [(h0, .inr (4, [.ref q5, .ref q9, .ref q13, .ref q17, .int (0 : Int32), .int (1 : Int32)])), (q5, .inl (ct 1, 8, .inr (.inl (fun _ => 0)))), (q9, .inl (ct 1, 8, .inr (.inl (vp_updL (vp_updL (vp_updL (vp_updL (vp_updL (vp_updL (vp_updL (fun _ => 0) (Int32.toNatClampNeg (0 : Int32)) (1 : Int64)) (Int32.toNatClampNeg (1 : Int32)) (1 : Int64)) (Int32.toNatClampNeg (2 : Int32)) (1 : Int64)) (Int32.toNatClampNeg (3 : Int32)) (1 : Int64)) (Int32.toNatClampNeg (4 : Int32)) (1 : Int64)) (Int32.toNatClampNeg (5 : Int32)) (1 : Int64)) (Int32.toNatClampNeg (6 : Int32)) (1 : Int64))))), (q13, .inl (ct 1, 19, .inr (.inl (fun _ => 0)))), (q17, .inl (ct 1, 19, .inr (.inl (fun _ => 0))))] H := hP1
  have hD : va_D A [(h0, .inr (4, [.ref q5, .ref q9, .ref q13, .ref q17, .int (0 : Int32), .int (1 : Int32)])), (q5, .inl (ct 1, 8, .inr (.inl (fun _ => 0)))), (q9, .inl (ct 1, 8, .inr (.inl (vp_updL (vp_updL (vp_updL (vp_updL (vp_updL (vp_updL (vp_updL (fun _ => 0) (Int32.toNatClampNeg (0 : Int32)) (1 : Int64)) (Int32.toNatClampNeg (1 : Int32)) (1 : Int64)) (Int32.toNatClampNeg (2 : Int32)) (1 : Int64)) (Int32.toNatClampNeg (3 : Int32)) (1 : Int64)) (Int32.toNatClampNeg (4 : Int32)) (1 : Int64)) (Int32.toNatClampNeg (5 : Int32)) (1 : Int64)) (Int32.toNatClampNeg (6 : Int32)) (1 : Int64))))), (q13, .inl (ct 1, 19, .inr (.inl (fun _ => 0)))), (q17, .inl (ct 1, 19, .inr (.inl (fun _ => 0))))] := hD1
  have hS := hS1
  clear hP1 hD1 hS1
  refine lv_iinc (v := 7) (lv' := [(1, .int (7 : Int32)), (0, .ref h0)]) hx hb d_Reckoner_init_61 hl (k := 0) rfl (by decide) (by decide) rfl (fun ls hl => ?_)
  refine lv_goto (tgt := 48) hx hb d_Reckoner_init_64 (by decide) ?_
  refine lv_iload_n hx hb d_Reckoner_init_48 rfl (lv_at hl 0 rfl) ?_
  refine lv_bipush (v := 8) hx hb d_Reckoner_init_49 (by decide) ?_
  refine lv_icmp_ge (tgt := 67) hx hb d_Reckoner_init_51 (by decide) (fun c9 => absurd c9 (by decide)) (fun _ => ?_)
  refine lv_aload_n hx hb d_Reckoner_init_54 rfl (lv_at hl 1 rfl) ?_
  refine va_get (D := (dC, dI)) (ci := 4) (v := .ref q9) (C := R_Reckoner) (T := T_Reckoner) (N := 6) hx hb hts in_Reckoner hown hK hP 0 rfl rfl 1 (by decide) (hts _ fl_Reckoner_15) (fun _ h9 => h9) rfl d_Reckoner_init_55 ?_
  refine lv_iload_n hx hb d_Reckoner_init_58 rfl (lv_at hl 0 rfl) ?_
  refine lv_lconst (v := 1) hx hb d_Reckoner_init_59 (by decide) ?_
  refine va_last hx hb hK hP hD hS 2 1 rfl rfl (inb_in (by decide)) d_Reckoner_init_60 (fun H locs hP1 hD1 hS1 => ?_)
  clear hP hD hS
  have hP : va_P (dC, dI) vwCl [(h0, .inr (4, [.ref q5, .ref q9, .ref q13, .ref q17, .int (0 : Int32), .int (1 : Int32)])), (q5, .inl (ct 1, 8, .inr (.inl (fun _ => 0)))), (q9, .inl (ct 1, 8, .inr (.inl (vp_updL (vp_updL (vp_updL (vp_updL (vp_updL (vp_updL (vp_updL (vp_updL (fun _ => 0) (Int32.toNatClampNeg (0 : Int32)) (1 : Int64)) (Int32.toNatClampNeg (1 : Int32)) (1 : Int64)) (Int32.toNatClampNeg (2 : Int32)) (1 : Int64)) (Int32.toNatClampNeg (3 : Int32)) (1 : Int64)) (Int32.toNatClampNeg (4 : Int32)) (1 : Int64)) (Int32.toNatClampNeg (5 : Int32)) (1 : Int64)) (Int32.toNatClampNeg (6 : Int32)) (1 : Int64)) (Int32.toNatClampNeg (7 : Int32)) (1 : Int64))))), (q13, .inl (ct 1, 19, .inr (.inl (fun _ => 0)))), (q17, .inl (ct 1, 19, .inr (.inl (fun _ => 0))))] H := hP1
  have hD : va_D A [(h0, .inr (4, [.ref q5, .ref q9, .ref q13, .ref q17, .int (0 : Int32), .int (1 : Int32)])), (q5, .inl (ct 1, 8, .inr (.inl (fun _ => 0)))), (q9, .inl (ct 1, 8, .inr (.inl (vp_updL (vp_updL (vp_updL (vp_updL (vp_updL (vp_updL (vp_updL (vp_updL (fun _ => 0) (Int32.toNatClampNeg (0 : Int32)) (1 : Int64)) (Int32.toNatClampNeg (1 : Int32)) (1 : Int64)) (Int32.toNatClampNeg (2 : Int32)) (1 : Int64)) (Int32.toNatClampNeg (3 : Int32)) (1 : Int64)) (Int32.toNatClampNeg (4 : Int32)) (1 : Int64)) (Int32.toNatClampNeg (5 : Int32)) (1 : Int64)) (Int32.toNatClampNeg (6 : Int32)) (1 : Int64)) (Int32.toNatClampNeg (7 : Int32)) (1 : Int64))))), (q13, .inl (ct 1, 19, .inr (.inl (fun _ => 0)))), (q17, .inl (ct 1, 19, .inr (.inl (fun _ => 0))))] := hD1
  have hS := hS1
  clear hP1 hD1 hS1
  refine lv_iinc (v := 8) (lv' := [(1, .int (8 : Int32)), (0, .ref h0)]) hx hb d_Reckoner_init_61 hl (k := 0) rfl (by decide) (by decide) rfl (fun ls hl => ?_)
  refine lv_goto (tgt := 48) hx hb d_Reckoner_init_64 (by decide) ?_
  refine lv_iload_n hx hb d_Reckoner_init_48 rfl (lv_at hl 0 rfl) ?_
  refine lv_bipush (v := 8) hx hb d_Reckoner_init_49 (by decide) ?_
  refine lv_icmp_ge (tgt := 67) hx hb d_Reckoner_init_51 (by decide) (fun _ => ?_) (fun c9 => absurd (by decide) c9)
  have hP9 : va_P (dC, dI) vwCl ((fun u => wReckoner ct (u 0) oReckoner0) (fun j => [(fun i => [h0, q5, q9, q13, q17].getD i 0)].getD j (fun _ => 0))) H := hP.sub [0, 1, 2, 3, 4] rfl
  have hD9 : va_D A ((fun u => wReckoner ct (u 0) oReckoner0) (fun j => [(fun i => [h0, q5, q9, q13, q17].getD i 0)].getD j (fun _ => 0))) := hD.sub [0, 1, 2, 3, 4] (by decide) rfl
  exact W.vret hx hb hr (fun t ht hW => ⟨⟨(fun j => [(fun i => [h0, q5, q9, q13, q17].getD i 0)].getD j (fun _ => 0)), rfl, rfl, by rw [ht]; exact hP9, hD9⟩, hS.F ht⟩) hS.2.2 d_Reckoner_init_67
