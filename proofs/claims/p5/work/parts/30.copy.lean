/-! 30.copy -/
abbrev b_Cells_copyFrom : ByteArray := prog_2_method_4_code
def y_Cells_copyFrom : MethodName := ⟨R_Cells, "copyFrom", "(LPartFormulas$Cells;)V"⟩
theorem ml_Cells_25 : Cond.methodLink "PartFormulas$Cells" 25 ⟨"java/lang/System", "arraycopy", "(Ljava/lang/Object;ILjava/lang/Object;II)V"⟩ ∈ wsAll := wa_of 875 (by decide +kernel) (by decide +kernel)
theorem st_JSys_copy : Cond.static ⟨"java/lang/System", "arraycopy", "(Ljava/lang/Object;ILjava/lang/Object;II)V"⟩ ∈ wsAll := wa_of 876 (by decide +kernel) (by decide +kernel)
theorem nt_JSys_copy : Cond.native ⟨"java/lang/System", "arraycopy", "(Ljava/lang/Object;ILjava/lang/Object;II)V"⟩ ∈ wsAll := wa_of 877 (by decide +kernel) (by decide +kernel)
theorem ini_JSys : Cond.initialized "java/lang/System" ∈ wsAll := wa_of 94 (by decide +kernel) (by decide +kernel)
theorem d_Cells_copyFrom_0 : decode b_Cells_copyFrom 0 = .ok (.aload_n 1, 1) := by decide +kernel
theorem d_Cells_copyFrom_1 : decode b_Cells_copyFrom 1 = .ok (.getfield 9, 3) := by decide +kernel
theorem d_Cells_copyFrom_4 : decode b_Cells_copyFrom 4 = .ok (.iconst 0, 1) := by decide +kernel
theorem d_Cells_copyFrom_5 : decode b_Cells_copyFrom 5 = .ok (.aload_n 0, 1) := by decide +kernel
theorem d_Cells_copyFrom_6 : decode b_Cells_copyFrom 6 = .ok (.getfield 9, 3) := by decide +kernel
theorem d_Cells_copyFrom_9 : decode b_Cells_copyFrom 9 = .ok (.iconst 0, 1) := by decide +kernel
theorem d_Cells_copyFrom_10 : decode b_Cells_copyFrom 10 = .ok (.bipush 60, 2) := by decide +kernel
theorem d_Cells_copyFrom_12 : decode b_Cells_copyFrom 12 = .ok (.invokestatic 25, 3) := by decide +kernel
theorem d_Cells_copyFrom_15 : decode b_Cells_copyFrom 15 = .ok (.aload_n 1, 1) := by decide +kernel
theorem d_Cells_copyFrom_16 : decode b_Cells_copyFrom 16 = .ok (.getfield 15, 3) := by decide +kernel
theorem d_Cells_copyFrom_19 : decode b_Cells_copyFrom 19 = .ok (.iconst 0, 1) := by decide +kernel
theorem d_Cells_copyFrom_20 : decode b_Cells_copyFrom 20 = .ok (.aload_n 0, 1) := by decide +kernel
theorem d_Cells_copyFrom_21 : decode b_Cells_copyFrom 21 = .ok (.getfield 15, 3) := by decide +kernel
theorem d_Cells_copyFrom_24 : decode b_Cells_copyFrom 24 = .ok (.iconst 0, 1) := by decide +kernel
theorem d_Cells_copyFrom_25 : decode b_Cells_copyFrom 25 = .ok (.bipush 60, 2) := by decide +kernel
theorem d_Cells_copyFrom_27 : decode b_Cells_copyFrom 27 = .ok (.invokestatic 25, 3) := by decide +kernel
theorem d_Cells_copyFrom_30 : decode b_Cells_copyFrom 30 = .ok (.aload_n 1, 1) := by decide +kernel
theorem d_Cells_copyFrom_31 : decode b_Cells_copyFrom 31 = .ok (.getfield 19, 3) := by decide +kernel
theorem d_Cells_copyFrom_34 : decode b_Cells_copyFrom 34 = .ok (.iconst 0, 1) := by decide +kernel
theorem d_Cells_copyFrom_35 : decode b_Cells_copyFrom 35 = .ok (.aload_n 0, 1) := by decide +kernel
theorem d_Cells_copyFrom_36 : decode b_Cells_copyFrom 36 = .ok (.getfield 19, 3) := by decide +kernel
theorem d_Cells_copyFrom_39 : decode b_Cells_copyFrom 39 = .ok (.iconst 0, 1) := by decide +kernel
theorem d_Cells_copyFrom_40 : decode b_Cells_copyFrom 40 = .ok (.bipush 60, 2) := by decide +kernel
theorem d_Cells_copyFrom_42 : decode b_Cells_copyFrom 42 = .ok (.invokestatic 25, 3) := by decide +kernel
theorem d_Cells_copyFrom_45 : decode b_Cells_copyFrom 45 = .ok (.aload_n 1, 1) := by decide +kernel
theorem d_Cells_copyFrom_46 : decode b_Cells_copyFrom 46 = .ok (.getfield 22, 3) := by decide +kernel
theorem d_Cells_copyFrom_49 : decode b_Cells_copyFrom 49 = .ok (.iconst 0, 1) := by decide +kernel
theorem d_Cells_copyFrom_50 : decode b_Cells_copyFrom 50 = .ok (.aload_n 0, 1) := by decide +kernel
theorem d_Cells_copyFrom_51 : decode b_Cells_copyFrom 51 = .ok (.getfield 22, 3) := by decide +kernel
theorem d_Cells_copyFrom_54 : decode b_Cells_copyFrom 54 = .ok (.iconst 0, 1) := by decide +kernel
theorem d_Cells_copyFrom_55 : decode b_Cells_copyFrom 55 = .ok (.bipush 60, 2) := by decide +kernel
theorem d_Cells_copyFrom_57 : decode b_Cells_copyFrom 57 = .ok (.invokestatic 25, 3) := by decide +kernel
theorem d_Cells_copyFrom_60 : decode b_Cells_copyFrom 60 = .ok (.return_, 1) := by decide +kernel
def F_Cells_copyFrom  (o0 o1 : Ob) : Option (Ob) :=
  some (p32 (p64 (p64 (p32 o0 0  (va_cpy (g32 o1 0) (g32 o0 0) 0 0 (Int32.toNatClampNeg (60 : Int32)))) 1  (va_cpy (g64 o1 1) (g64 o0 1) 0 0 (Int32.toNatClampNeg (60 : Int32)))) 2  (va_cpy (g64 o1 2) (g64 o0 2) 0 0 (Int32.toNatClampNeg (60 : Int32)))) 3  (va_cpy (g32 o1 3) (g32 o0 3) 0 0 (Int32.toNatClampNeg (60 : Int32))))
abbrev ws_Cells_copyFrom : List Cond := Cond.code y_Cells_copyFrom b_Cells_copyFrom 2 (none : Option Jvm.ClassFile.FieldType) :: wsAll
abbrev rm_Cells_copyFrom : Room := { frames := 1, cells := 0, slots := 0, locals := 60 }
set_option maxHeartbeats 4000000 in
set_option maxRecDepth 100000 in
theorem c_Cells_copyFrom (l : Launch) (ct dC : Nat → ClassId) (dI : Nat → Nat → Nat) (a0 a1 : Nat → Nat)  (sz : Nat)  (o0 o1 : Ob) (n0 : Ob) (hF : F_Cells_copyFrom o0 o1 = some n0) : Met l y_Cells_copyFrom ws_Cells_copyFrom rm_Cells_copyFrom (bw_Pc [.ref (a0 0), .ref (a1 0)] (dC, dI) vwCl (tyA ct) [wCells ct a0 o0, wCells ct a1 o1] sz nx) (bw_Q (dC, dI) vwCl none [wCells ct a0 n0, wCells ct a1 o1] (bw_A [adCells a0, adCells a1] sz)) 0 0 (bw_A [adCells a0, adCells a1] sz) := by
  refine Met.ofW (cc := b_Cells_copyFrom) (maxL := 2) (ret := (none : Option Jvm.ClassFile.FieldType)) (by decide) rfl ?_
  intro p e s m args below meth c s₁ B hml hv
  obtain ⟨rfl, hsz, hP, hK, hN0, hnx⟩ := hv
  have hx := B.exec
  have hb := B.bytes
  have hr := B.returns
  have hts : ∀ w ∈ wsAll, w.before [.ref (a0 0), .ref (a1 0)].toArray s = true := fun w h9 => atoms_spec (ws := ws_Cells_copyFrom) B.pre w (List.mem_cons_of_mem _ h9)
  have hown : s.vm.findClass R_Cells = some m.cls := findClass_of_methodNamed B.named
  have hlocks := B.notSynchronized
  subst hsz
  have hN : bw_N (bw_A [adCells a0, adCells a1] s.heap.size) [adCells a0, adCells a1] := hN0.self s.heap.size
  generalize hAe : bw_A [adCells a0, adCells a1] s.heap.size = A at hN ⊢
  have hA : ∀ q : Nat, s.heap.size ≤ q → A q := fun q h => by rw [← hAe]; exact Or.inr h
  have hS : va_S A s.heap s.heap [] := va_S.rf
  have hl := lv_entry ([.ref (a0 0), .ref (a1 0)]) (n := 2) (Nat.le_of_ble_eq_true rfl)
  rw [lg_entry_eq]
  generalize (lg_sl ([.ref (a0 0), .ref (a1 0)]) ++ List.replicate (2 - (lg_sl ([.ref (a0 0), .ref (a1 0)])).length) Slot.unset).toArray = ls at hl ⊢
  have hl : lv_has ls 2 [(0, .ref (a0 0)), (1, .ref (a1 0))] := hl
  have C0 : cx wsAll vwCl nx p s m [.ref (a0 0), .ref (a1 0)].toArray meth c (dC, dI) (tyA ct) b_Cells_copyFrom 2 (none : Option Jvm.ClassFile.FieldType) R_Cells A [adCells a0, adCells a1] := ⟨hx, hb, hr, hml, hown, hlocks, hts, hK, hN, hA, hnx⟩
  have h := hF
  rw [F_Cells_copyFrom] at h
  refine lv_aload_n hx hb d_Cells_copyFrom_0 rfl (lv_at hl 1 rfl) ?_
  refine va_get (D := (dC, dI)) (ci := 1) (v := .ref (a1 1)) (C := R_Cells) (T := T_Cells) (N := 4) hx hb hts in_Cells hown hK (hP 1 _ rfl) 0 rfl rfl 0 (by decide) (hts _ fl_Cells_9) (fun _ h9 => h9) rfl d_Cells_copyFrom_1 ?_
  refine lv_iconst (v := 0) hx hb d_Cells_copyFrom_4 (by decide) ?_
  refine lv_aload_n hx hb d_Cells_copyFrom_5 rfl (lv_at hl 0 rfl) ?_
  refine va_get (D := (dC, dI)) (ci := 1) (v := .ref (a0 1)) (C := R_Cells) (T := T_Cells) (N := 4) hx hb hts in_Cells hown hK (hP 0 _ rfl) 0 rfl rfl 0 (by decide) (hts _ fl_Cells_9) (fun _ h9 => h9) rfl d_Cells_copyFrom_6 ?_
  refine lv_iconst (v := 0) hx hb d_Cells_copyFrom_9 (by decide) ?_
  refine lv_bipush (v := 60) hx hb d_Cells_copyFrom_10 (by decide) ?_
  refine bw_copyi (D := (dC, dI)) (f := (g32 o1 0)) (g := (g32 o0 0)) hx hb (hml.trans hl.1.symm) hown (hts _ ml_Cells_25) (hts _ nt_JSys_copy) (hts _ st_JSys_copy) (hts _ ini_JSys) hK hP hN hS 1 1 0 rfl rfl rfl (by decide) (by decide) (Nat.le_of_ble_eq_true rfl) (Nat.le_of_ble_eq_true rfl) d_Cells_copyFrom_12 (fun H locs hP hS => ?_)
  have hP : bw_P (dC, dI) vwCl [wCells ct a0 (p32 o0 0  (va_cpy (g32 o1 0) (g32 o0 0) 0 0 (Int32.toNatClampNeg (60 : Int32)))), wCells ct a1 o1] H := hP
  refine lv_aload_n hx hb d_Cells_copyFrom_15 rfl (lv_at hl 1 rfl) ?_
  refine va_get (D := (dC, dI)) (ci := 1) (v := .ref (a1 2)) (C := R_Cells) (T := T_Cells) (N := 4) hx hb hts in_Cells hown hK (hP 1 _ rfl) 0 rfl rfl 1 (by decide) (hts _ fl_Cells_15) (fun _ h9 => h9) rfl d_Cells_copyFrom_16 ?_
  refine lv_iconst (v := 0) hx hb d_Cells_copyFrom_19 (by decide) ?_
  refine lv_aload_n hx hb d_Cells_copyFrom_20 rfl (lv_at hl 0 rfl) ?_
  refine va_get (D := (dC, dI)) (ci := 1) (v := .ref (a0 2)) (C := R_Cells) (T := T_Cells) (N := 4) hx hb hts in_Cells hown hK (hP 0 _ rfl) 0 rfl rfl 1 (by decide) (hts _ fl_Cells_15) (fun _ h9 => h9) rfl d_Cells_copyFrom_21 ?_
  refine lv_iconst (v := 0) hx hb d_Cells_copyFrom_24 (by decide) ?_
  refine lv_bipush (v := 60) hx hb d_Cells_copyFrom_25 (by decide) ?_
  refine bw_copyl (D := (dC, dI)) (f := (g64 o1 1)) (g := (g64 o0 1)) hx hb (hml.trans hl.1.symm) hown (hts _ ml_Cells_25) (hts _ nt_JSys_copy) (hts _ st_JSys_copy) (hts _ ini_JSys) hK hP hN hS 2 2 1 rfl rfl rfl (by decide) (by decide) (Nat.le_of_ble_eq_true rfl) (Nat.le_of_ble_eq_true rfl) d_Cells_copyFrom_27 (fun H locs hP hS => ?_)
  have hP : bw_P (dC, dI) vwCl [wCells ct a0 (p64 (p32 o0 0  (va_cpy (g32 o1 0) (g32 o0 0) 0 0 (Int32.toNatClampNeg (60 : Int32)))) 1  (va_cpy (g64 o1 1) (g64 o0 1) 0 0 (Int32.toNatClampNeg (60 : Int32)))), wCells ct a1 o1] H := hP
  refine lv_aload_n hx hb d_Cells_copyFrom_30 rfl (lv_at hl 1 rfl) ?_
  refine va_get (D := (dC, dI)) (ci := 1) (v := .ref (a1 3)) (C := R_Cells) (T := T_Cells) (N := 4) hx hb hts in_Cells hown hK (hP 1 _ rfl) 0 rfl rfl 2 (by decide) (hts _ fl_Cells_19) (fun _ h9 => h9) rfl d_Cells_copyFrom_31 ?_
  refine lv_iconst (v := 0) hx hb d_Cells_copyFrom_34 (by decide) ?_
  refine lv_aload_n hx hb d_Cells_copyFrom_35 rfl (lv_at hl 0 rfl) ?_
  refine va_get (D := (dC, dI)) (ci := 1) (v := .ref (a0 3)) (C := R_Cells) (T := T_Cells) (N := 4) hx hb hts in_Cells hown hK (hP 0 _ rfl) 0 rfl rfl 2 (by decide) (hts _ fl_Cells_19) (fun _ h9 => h9) rfl d_Cells_copyFrom_36 ?_
  refine lv_iconst (v := 0) hx hb d_Cells_copyFrom_39 (by decide) ?_
  refine lv_bipush (v := 60) hx hb d_Cells_copyFrom_40 (by decide) ?_
  refine bw_copyl (D := (dC, dI)) (f := (g64 o1 2)) (g := (g64 o0 2)) hx hb (hml.trans hl.1.symm) hown (hts _ ml_Cells_25) (hts _ nt_JSys_copy) (hts _ st_JSys_copy) (hts _ ini_JSys) hK hP hN hS 3 3 1 rfl rfl rfl (by decide) (by decide) (Nat.le_of_ble_eq_true rfl) (Nat.le_of_ble_eq_true rfl) d_Cells_copyFrom_42 (fun H locs hP hS => ?_)
  have hP : bw_P (dC, dI) vwCl [wCells ct a0 (p64 (p64 (p32 o0 0  (va_cpy (g32 o1 0) (g32 o0 0) 0 0 (Int32.toNatClampNeg (60 : Int32)))) 1  (va_cpy (g64 o1 1) (g64 o0 1) 0 0 (Int32.toNatClampNeg (60 : Int32)))) 2  (va_cpy (g64 o1 2) (g64 o0 2) 0 0 (Int32.toNatClampNeg (60 : Int32)))), wCells ct a1 o1] H := hP
  refine lv_aload_n hx hb d_Cells_copyFrom_45 rfl (lv_at hl 1 rfl) ?_
  refine va_get (D := (dC, dI)) (ci := 1) (v := .ref (a1 4)) (C := R_Cells) (T := T_Cells) (N := 4) hx hb hts in_Cells hown hK (hP 1 _ rfl) 0 rfl rfl 3 (by decide) (hts _ fl_Cells_22) (fun _ h9 => h9) rfl d_Cells_copyFrom_46 ?_
  refine lv_iconst (v := 0) hx hb d_Cells_copyFrom_49 (by decide) ?_
  refine lv_aload_n hx hb d_Cells_copyFrom_50 rfl (lv_at hl 0 rfl) ?_
  refine va_get (D := (dC, dI)) (ci := 1) (v := .ref (a0 4)) (C := R_Cells) (T := T_Cells) (N := 4) hx hb hts in_Cells hown hK (hP 0 _ rfl) 0 rfl rfl 3 (by decide) (hts _ fl_Cells_22) (fun _ h9 => h9) rfl d_Cells_copyFrom_51 ?_
  refine lv_iconst (v := 0) hx hb d_Cells_copyFrom_54 (by decide) ?_
  refine lv_bipush (v := 60) hx hb d_Cells_copyFrom_55 (by decide) ?_
  refine bw_copyi (D := (dC, dI)) (f := (g32 o1 3)) (g := (g32 o0 3)) hx hb (hml.trans hl.1.symm) hown (hts _ ml_Cells_25) (hts _ nt_JSys_copy) (hts _ st_JSys_copy) (hts _ ini_JSys) hK hP hN hS 4 4 0 rfl rfl rfl (by decide) (by decide) (Nat.le_of_ble_eq_true rfl) (Nat.le_of_ble_eq_true rfl) d_Cells_copyFrom_57 (fun H locs hP hS => ?_)
  have hP : bw_P (dC, dI) vwCl [wCells ct a0 (p32 (p64 (p64 (p32 o0 0  (va_cpy (g32 o1 0) (g32 o0 0) 0 0 (Int32.toNatClampNeg (60 : Int32)))) 1  (va_cpy (g64 o1 1) (g64 o0 1) 0 0 (Int32.toNatClampNeg (60 : Int32)))) 2  (va_cpy (g64 o1 2) (g64 o0 2) 0 0 (Int32.toNatClampNeg (60 : Int32)))) 3  (va_cpy (g32 o1 3) (g32 o0 3) 0 0 (Int32.toNatClampNeg (60 : Int32)))), wCells ct a1 o1] H := hP
  obtain rfl := res1 h
  exact W.vret hx hb hr (fun t ht hW => ⟨rfl, by rw [ht]; exact hP, hS.F ht⟩) hS.2.2 d_Cells_copyFrom_60
