/-! CONSTRUCTORS -/
abbrev b_Cells_init : ByteArray := prog_2_method_1_code
def y_Cells_init : MethodName := ⟨R_Cells, "<init>", "()V"⟩
theorem df_Cells : ∀ j, j < 4 → defaultValue (ty_Cells j) = vp_V [.null, .null, .null, .null] j := by decide +kernel
theorem ml_Cells_3 : Cond.methodLink "PartFormulas$Cells" 3 ⟨"java/lang/Object", "<init>", "()V"⟩ ∈ wsAll := wa_of 280 (by decide +kernel) (by decide +kernel)
theorem ac_long : Cond.arrayClass .long ∈ wsAll := wa_of 208 (by decide +kernel) (by decide +kernel)
theorem d_Cells_init_0 : decode b_Cells_init 0 = .ok (.aload_n 0, 1) := by decide +kernel
theorem d_Cells_init_1 : decode b_Cells_init 1 = .ok (.invokespecial 3, 3) := by decide +kernel
theorem d_Cells_init_4 : decode b_Cells_init 4 = .ok (.aload_n 0, 1) := by decide +kernel
theorem d_Cells_init_5 : decode b_Cells_init 5 = .ok (.bipush 60, 2) := by decide +kernel
theorem d_Cells_init_7 : decode b_Cells_init 7 = .ok (.newarray .int, 2) := by decide +kernel
theorem d_Cells_init_9 : decode b_Cells_init 9 = .ok (.putfield 9, 3) := by decide +kernel
theorem d_Cells_init_12 : decode b_Cells_init 12 = .ok (.aload_n 0, 1) := by decide +kernel
theorem d_Cells_init_13 : decode b_Cells_init 13 = .ok (.bipush 60, 2) := by decide +kernel
theorem d_Cells_init_15 : decode b_Cells_init 15 = .ok (.newarray .long, 2) := by decide +kernel
theorem d_Cells_init_17 : decode b_Cells_init 17 = .ok (.putfield 15, 3) := by decide +kernel
theorem d_Cells_init_20 : decode b_Cells_init 20 = .ok (.aload_n 0, 1) := by decide +kernel
theorem d_Cells_init_21 : decode b_Cells_init 21 = .ok (.bipush 60, 2) := by decide +kernel
theorem d_Cells_init_23 : decode b_Cells_init 23 = .ok (.newarray .long, 2) := by decide +kernel
theorem d_Cells_init_25 : decode b_Cells_init 25 = .ok (.putfield 19, 3) := by decide +kernel
theorem d_Cells_init_28 : decode b_Cells_init 28 = .ok (.aload_n 0, 1) := by decide +kernel
theorem d_Cells_init_29 : decode b_Cells_init 29 = .ok (.bipush 60, 2) := by decide +kernel
theorem d_Cells_init_31 : decode b_Cells_init 31 = .ok (.newarray .int, 2) := by decide +kernel
theorem d_Cells_init_33 : decode b_Cells_init 33 = .ok (.putfield 22, 3) := by decide +kernel
theorem d_Cells_init_36 : decode b_Cells_init 36 = .ok (.return_, 1) := by decide +kernel
abbrev ws_Cells_init : List Cond := Cond.code y_Cells_init b_Cells_init 1 none :: wsAll
abbrev rm_Cells_init : Room := { frames := 1, cells := 4, slots := 240, locals := 30 }
set_option maxHeartbeats 4000000 in
set_option maxRecDepth 100000 in
theorem c_Cells_init (l : Launch) (ct dC : Nat → ClassId) (dI : Nat → Nat → Nat) (h0 sz : Nat) : Met l y_Cells_init ws_Cells_init rm_Cells_init (bn_Pc h0 (.inr (1, [.null, .null, .null, .null])) ct dC dI sz) (bn_Q h0 ct dC dI (fun u => wCells ct (u 0) ob0) (va_A [(h0, .inr (1, [.null, .null, .null, .null]))] sz)) 4 240 (va_A [(h0, .inr (1, [.null, .null, .null, .null]))] sz) := by
  refine Met.ofW (cc := b_Cells_init) (maxL := 1) (ret := none) (by decide) rfl ?_
  intro p e s m args below meth c s₁ B hml hv
  obtain ⟨rfl, hsz, hP, hK, hnx, hao⟩ := hv
  have hx := B.exec
  have hb := B.bytes
  have hr := B.returns
  have hts : ∀ w ∈ wsAll, w.before [Value.ref h0].toArray s = true := fun w h9 => atoms_spec (ws := ws_Cells_init) B.pre w (List.mem_cons_of_mem _ h9)
  have hown : s.vm.findClass R_Cells = some m.cls := findClass_of_methodNamed B.named
  have hlocks := B.notSynchronized
  have hin : meth.name = "<init>" := (name_of_methodNamed B.named B.method).1
  subst hsz
  have hD : va_D (va_A [(h0, .inr (1, [.null, .null, .null, .null]))] s.heap.size) [(h0, .inr (1, [.null, .null, .null, .null]))] := bn_D1 (Or.inl ⟨0, _, rfl⟩)
  generalize hAe : va_A [(h0, .inr (1, [.null, .null, .null, .null]))] s.heap.size = A at hD ⊢
  have hA : ∀ q : Nat, s.heap.size ≤ q → A q := fun q h => by rw [← hAe]; exact Or.inr h
  have hS : va_S A s.heap s.heap [] := va_S.rf
  have hl := lv_entry ([.ref h0]) (n := 1) (Nat.le_of_ble_eq_true rfl)
  rw [lg_entry_eq]
  generalize (lg_sl ([.ref h0]) ++ List.replicate (1 - (lg_sl ([.ref h0])).length) Slot.unset).toArray = ls at hl ⊢
  have hl : lv_has ls 1 [(0, .ref h0)] := hl
  refine lv_aload_n hx hb d_Cells_init_0 rfl (lv_at hl 0 rfl) ?_
  refine W.objInit hx hb hown (hts _ ml_Cells_3) (hts _ im_Object_init) (hts _ cd_Object_init) rfl (by rw [hml]; exact hl.1) rfl d_Cells_init_1 (Nat.le_of_ble_eq_true rfl) (Nat.le_of_ble_eq_true rfl) ?_
  refine W.eq (g2 := F0 m 4 ls []) rfl ?_
  refine lv_aload_n hx hb d_Cells_init_4 rfl (lv_at hl 0 rfl) ?_
  refine lv_bipush (v := 60) hx hb d_Cells_init_5 (by decide) ?_
  refine bn_newa (atype := .int) (cT := ct 0) (a0 := (60, .inl (fun _ => 0))) (N' := 60) hx hb (hts _ ac_int) (hK.2 0 _ rfl).2 hP hD hS hA rfl (by decide +kernel) (by decide +kernel) (by decide +kernel) (Nat.le_of_ble_eq_true rfl) (Nat.le_of_ble_eq_true rfl) d_Cells_init_7 (fun q5 H hP1 hD1 hS1 => ?_)
  clear hP hD hS
  have hP : va_P (dC, dI) vwCl [(h0, .inr (1, [.null, .null, .null, .null])), (q5, .inl (ct 0, 60, .inl (fun _ => 0)))] H := hP1
  have hD : va_D A [(h0, .inr (1, [.null, .null, .null, .null])), (q5, .inl (ct 0, 60, .inl (fun _ => 0)))] := hD1
  have hS := hS1
  clear hP1 hD1 hS1
  refine va_putF (D := (dC, dI)) (ci := 1) (v := .ref q5) (ty := .array .int) (C := R_Cells) (T := T_Cells) (N := 4) hx hb hts in_Cells ty_Cells tyok_Cells nm_Cells hown hK hP hD hS 0 rfl rfl 0 (by decide) (hts _ fl_Cells_9) (fun _ h9 => h9) rfl hin rfl (by decide +kernel) rfl rfl (Nat.le_of_ble_eq_true rfl) d_Cells_init_9 (fun H locs hP1 hD1 hS1 => ?_)
  clear hP hD hS
  have hP : va_P (dC, dI) vwCl [(h0, .inr (1, [.ref q5, .null, .null, .null])), (q5, .inl (ct 0, 60, .inl (fun _ => 0)))] H := hP1
  have hD : va_D A [(h0, .inr (1, [.ref q5, .null, .null, .null])), (q5, .inl (ct 0, 60, .inl (fun _ => 0)))] := hD1
  have hS := hS1
  clear hP1 hD1 hS1
  refine lv_aload_n hx hb d_Cells_init_12 rfl (lv_at hl 0 rfl) ?_
  refine lv_bipush (v := 60) hx hb d_Cells_init_13 (by decide) ?_
  refine bn_newa (atype := .long) (cT := ct 1) (a0 := (60, .inr (.inl (fun _ => 0)))) (N' := 60) hx hb (hts _ ac_long) (hK.2 1 _ rfl).2 hP hD hS hA rfl (by decide +kernel) (by decide +kernel) (by decide +kernel) (Nat.le_of_ble_eq_true rfl) (Nat.le_of_ble_eq_true rfl) d_Cells_init_15 (fun q9 H hP1 hD1 hS1 => ?_)
  clear hP hD hS
  have hP : va_P (dC, dI) vwCl [(h0, .inr (1, [.ref q5, .null, .null, .null])), (q5, .inl (ct 0, 60, .inl (fun _ => 0))), (q9, .inl (ct 1, 60, .inr (.inl (fun _ => 0))))] H := hP1
  have hD : va_D A [(h0, .inr (1, [.ref q5, .null, .null, .null])), (q5, .inl (ct 0, 60, .inl (fun _ => 0))), (q9, .inl (ct 1, 60, .inr (.inl (fun _ => 0))))] := hD1
  have hS := hS1
  clear hP1 hD1 hS1
  refine va_putF (D := (dC, dI)) (ci := 1) (v := .ref q9) (ty := .array .long) (C := R_Cells) (T := T_Cells) (N := 4) hx hb hts in_Cells ty_Cells tyok_Cells nm_Cells hown hK hP hD hS 0 rfl rfl 1 (by decide) (hts _ fl_Cells_15) (fun _ h9 => h9) rfl hin rfl (by decide +kernel) rfl rfl (Nat.le_of_ble_eq_true rfl) d_Cells_init_17 (fun H locs hP1 hD1 hS1 => ?_)
  clear hP hD hS
  have hP : va_P (dC, dI) vwCl [(h0, .inr (1, [.ref q5, .ref q9, .null, .null])), (q5, .inl (ct 0, 60, .inl (fun _ => 0))), (q9, .inl (ct 1, 60, .inr (.inl (fun _ => 0))))] H := hP1
  have hD : va_D A [(h0, .inr (1, [.ref q5, .ref q9, .null, .null])), (q5, .inl (ct 0, 60, .inl (fun _ => 0))), (q9, .inl (ct 1, 60, .inr (.inl (fun _ => 0))))] := hD1
  have hS := hS1
  clear hP1 hD1 hS1
  refine lv_aload_n hx hb d_Cells_init_20 rfl (lv_at hl 0 rfl) ?_
  refine lv_bipush (v := 60) hx hb d_Cells_init_21 (by decide) ?_
  refine bn_newa (atype := .long) (cT := ct 1) (a0 := (60, .inr (.inl (fun _ => 0)))) (N' := 60) hx hb (hts _ ac_long) (hK.2 1 _ rfl).2 hP hD hS hA rfl (by decide +kernel) (by decide +kernel) (by decide +kernel) (Nat.le_of_ble_eq_true rfl) (Nat.le_of_ble_eq_true rfl) d_Cells_init_23 (fun q13 H hP1 hD1 hS1 => ?_)
  clear hP hD hS
  have hP : va_P (dC, dI) vwCl [(h0, .inr (1, [.ref q5, .ref q9, .null, .null])), (q5, .inl (ct 0, 60, .inl (fun _ => 0))), (q9, .inl (ct 1, 60, .inr (.inl (fun _ => 0)))), (q13, .inl (ct 1, 60, .inr (.inl (fun _ => 0))))] H := hP1
  have hD : va_D A [(h0, .inr (1, [.ref q5, .ref q9, .null, .null])), (q5, .inl (ct 0, 60, .inl (fun _ => 0))), (q9, .inl (ct 1, 60, .inr (.inl (fun _ => 0)))), (q13, .inl (ct 1, 60, .inr (.inl (fun _ => 0))))] := hD1
  have hS := hS1
  clear hP1 hD1 hS1
  refine va_putF (D := (dC, dI)) (ci := 1) (v := .ref q13) (ty := .array .long) (C := R_Cells) (T := T_Cells) (N := 4) hx hb hts in_Cells ty_Cells tyok_Cells nm_Cells hown hK hP hD hS 0 rfl rfl 2 (by decide) (hts _ fl_Cells_19) (fun _ h9 => h9) rfl hin rfl (by decide +kernel) rfl rfl (Nat.le_of_ble_eq_true rfl) d_Cells_init_25 (fun H locs hP1 hD1 hS1 => ?_)
  clear hP hD hS
  have hP : va_P (dC, dI) vwCl [(h0, .inr (1, [.ref q5, .ref q9, .ref q13, .null])), (q5, .inl (ct 0, 60, .inl (fun _ => 0))), (q9, .inl (ct 1, 60, .inr (.inl (fun _ => 0)))), (q13, .inl (ct 1, 60, .inr (.inl (fun _ => 0))))] H := hP1
  have hD : va_D A [(h0, .inr (1, [.ref q5, .ref q9, .ref q13, .null])), (q5, .inl (ct 0, 60, .inl (fun _ => 0))), (q9, .inl (ct 1, 60, .inr (.inl (fun _ => 0)))), (q13, .inl (ct 1, 60, .inr (.inl (fun _ => 0))))] := hD1
  have hS := hS1
  clear hP1 hD1 hS1
  refine lv_aload_n hx hb d_Cells_init_28 rfl (lv_at hl 0 rfl) ?_
  refine lv_bipush (v := 60) hx hb d_Cells_init_29 (by decide) ?_
  refine bn_newa (atype := .int) (cT := ct 0) (a0 := (60, .inl (fun _ => 0))) (N' := 60) hx hb (hts _ ac_int) (hK.2 0 _ rfl).2 hP hD hS hA rfl (by decide +kernel) (by decide +kernel) (by decide +kernel) (Nat.le_of_ble_eq_true rfl) (Nat.le_of_ble_eq_true rfl) d_Cells_init_31 (fun q17 H hP1 hD1 hS1 => ?_)
  clear hP hD hS
  have hP : va_P (dC, dI) vwCl [(h0, .inr (1, [.ref q5, .ref q9, .ref q13, .null])), (q5, .inl (ct 0, 60, .inl (fun _ => 0))), (q9, .inl (ct 1, 60, .inr (.inl (fun _ => 0)))), (q13, .inl (ct 1, 60, .inr (.inl (fun _ => 0)))), (q17, .inl (ct 0, 60, .inl (fun _ => 0)))] H := hP1
  have hD : va_D A [(h0, .inr (1, [.ref q5, .ref q9, .ref q13, .null])), (q5, .inl (ct 0, 60, .inl (fun _ => 0))), (q9, .inl (ct 1, 60, .inr (.inl (fun _ => 0)))), (q13, .inl (ct 1, 60, .inr (.inl (fun _ => 0)))), (q17, .inl (ct 0, 60, .inl (fun _ => 0)))] := hD1
  have hS := hS1
  clear hP1 hD1 hS1
  refine va_putF (D := (dC, dI)) (ci := 1) (v := .ref q17) (ty := .array .int) (C := R_Cells) (T := T_Cells) (N := 4) hx hb hts in_Cells ty_Cells tyok_Cells nm_Cells hown hK hP hD hS 0 rfl rfl 3 (by decide) (hts _ fl_Cells_22) (fun _ h9 => h9) rfl hin rfl (by decide +kernel) rfl rfl (Nat.le_of_ble_eq_true rfl) d_Cells_init_33 (fun H locs hP1 hD1 hS1 => ?_)
  clear hP hD hS
  have hP : va_P (dC, dI) vwCl [(h0, .inr (1, [.ref q5, .ref q9, .ref q13, .ref q17])), (q5, .inl (ct 0, 60, .inl (fun _ => 0))), (q9, .inl (ct 1, 60, .inr (.inl (fun _ => 0)))), (q13, .inl (ct 1, 60, .inr (.inl (fun _ => 0)))), (q17, .inl (ct 0, 60, .inl (fun _ => 0)))] H := hP1
  have hD : va_D A [(h0, .inr (1, [.ref q5, .ref q9, .ref q13, .ref q17])), (q5, .inl (ct 0, 60, .inl (fun _ => 0))), (q9, .inl (ct 1, 60, .inr (.inl (fun _ => 0)))), (q13, .inl (ct 1, 60, .inr (.inl (fun _ => 0)))), (q17, .inl (ct 0, 60, .inl (fun _ => 0)))] := hD1
  have hS := hS1
  clear hP1 hD1 hS1
  have hP9 : va_P (dC, dI) vwCl ((fun u => wCells ct (u 0) ob0) (fun j => [(fun i => [h0, q5, q9, q13, q17].getD i 0)].getD j (fun _ => 0))) H := hP.sub [0, 1, 2, 3, 4] rfl
  have hD9 : va_D A ((fun u => wCells ct (u 0) ob0) (fun j => [(fun i => [h0, q5, q9, q13, q17].getD i 0)].getD j (fun _ => 0))) := hD.sub [0, 1, 2, 3, 4] (by decide) rfl
  exact W.vret hx hb hr (fun t ht hW => ⟨⟨(fun j => [(fun i => [h0, q5, q9, q13, q17].getD i 0)].getD j (fun _ => 0)), rfl, rfl, by rw [ht]; exact hP9, hD9⟩, hS.F ht⟩) hS.2.2 d_Cells_init_36
