/-! 07.cells -/
abbrev b_Cells_takeReason : ByteArray := prog_2_method_3_code
def y_Cells_takeReason : MethodName := ⟨R_Cells, "takeReason", "(II)V"⟩
abbrev b_Cells_takeValue : ByteArray := prog_2_method_2_code
def y_Cells_takeValue : MethodName := ⟨R_Cells, "takeValue", "(IJJI)V"⟩
abbrev b_Cells_isAsIn : ByteArray := prog_2_method_5_code
def y_Cells_isAsIn : MethodName := ⟨R_Cells, "isAsIn", "(LPartFormulas$Cells;I)Z"⟩
theorem fl_Cells_9 : Cond.fieldLink "PartFormulas$Cells" 9 "PartFormulas$Cells" "state" "[I" ∈ wsAll := wa_of 281 (by decide +kernel) (by decide +kernel)
theorem fl_Cells_15 : Cond.fieldLink "PartFormulas$Cells" 15 "PartFormulas$Cells" "above" "[J" ∈ wsAll := wa_of 284 (by decide +kernel) (by decide +kernel)
theorem fl_Cells_19 : Cond.fieldLink "PartFormulas$Cells" 19 "PartFormulas$Cells" "below" "[J" ∈ wsAll := wa_of 287 (by decide +kernel) (by decide +kernel)
theorem fl_Cells_22 : Cond.fieldLink "PartFormulas$Cells" 22 "PartFormulas$Cells" "chosen" "[I" ∈ wsAll := wa_of 290 (by decide +kernel) (by decide +kernel)
theorem d_Cells_isAsIn_0 : decode b_Cells_isAsIn 0 = .ok (.aload_n 0, 1) := by decide +kernel
theorem d_Cells_isAsIn_1 : decode b_Cells_isAsIn 1 = .ok (.getfield 9, 3) := by decide +kernel
theorem d_Cells_isAsIn_4 : decode b_Cells_isAsIn 4 = .ok (.iload_n 2, 1) := by decide +kernel
theorem d_Cells_isAsIn_5 : decode b_Cells_isAsIn 5 = .ok (.iaload, 1) := by decide +kernel
theorem d_Cells_isAsIn_6 : decode b_Cells_isAsIn 6 = .ok (.aload_n 1, 1) := by decide +kernel
theorem d_Cells_isAsIn_7 : decode b_Cells_isAsIn 7 = .ok (.getfield 9, 3) := by decide +kernel
theorem d_Cells_isAsIn_10 : decode b_Cells_isAsIn 10 = .ok (.iload_n 2, 1) := by decide +kernel
theorem d_Cells_isAsIn_11 : decode b_Cells_isAsIn 11 = .ok (.iaload, 1) := by decide +kernel
theorem d_Cells_isAsIn_12 : decode b_Cells_isAsIn 12 = .ok (.if_icmp .ne 39, 3) := by decide +kernel
theorem d_Cells_isAsIn_15 : decode b_Cells_isAsIn 15 = .ok (.aload_n 0, 1) := by decide +kernel
theorem d_Cells_isAsIn_16 : decode b_Cells_isAsIn 16 = .ok (.getfield 15, 3) := by decide +kernel
theorem d_Cells_isAsIn_19 : decode b_Cells_isAsIn 19 = .ok (.iload_n 2, 1) := by decide +kernel
theorem d_Cells_isAsIn_20 : decode b_Cells_isAsIn 20 = .ok (.laload, 1) := by decide +kernel
theorem d_Cells_isAsIn_21 : decode b_Cells_isAsIn 21 = .ok (.aload_n 1, 1) := by decide +kernel
theorem d_Cells_isAsIn_22 : decode b_Cells_isAsIn 22 = .ok (.getfield 15, 3) := by decide +kernel
theorem d_Cells_isAsIn_25 : decode b_Cells_isAsIn 25 = .ok (.iload_n 2, 1) := by decide +kernel
theorem d_Cells_isAsIn_26 : decode b_Cells_isAsIn 26 = .ok (.laload, 1) := by decide +kernel
theorem d_Cells_isAsIn_27 : decode b_Cells_isAsIn 27 = .ok (.lcmp, 1) := by decide +kernel
theorem d_Cells_isAsIn_28 : decode b_Cells_isAsIn 28 = .ok (.ifCond .ne 23, 3) := by decide +kernel
theorem d_Cells_isAsIn_31 : decode b_Cells_isAsIn 31 = .ok (.aload_n 0, 1) := by decide +kernel
theorem d_Cells_isAsIn_32 : decode b_Cells_isAsIn 32 = .ok (.getfield 19, 3) := by decide +kernel
theorem d_Cells_isAsIn_35 : decode b_Cells_isAsIn 35 = .ok (.iload_n 2, 1) := by decide +kernel
theorem d_Cells_isAsIn_36 : decode b_Cells_isAsIn 36 = .ok (.laload, 1) := by decide +kernel
theorem d_Cells_isAsIn_37 : decode b_Cells_isAsIn 37 = .ok (.aload_n 1, 1) := by decide +kernel
theorem d_Cells_isAsIn_38 : decode b_Cells_isAsIn 38 = .ok (.getfield 19, 3) := by decide +kernel
theorem d_Cells_isAsIn_41 : decode b_Cells_isAsIn 41 = .ok (.iload_n 2, 1) := by decide +kernel
theorem d_Cells_isAsIn_42 : decode b_Cells_isAsIn 42 = .ok (.laload, 1) := by decide +kernel
theorem d_Cells_isAsIn_43 : decode b_Cells_isAsIn 43 = .ok (.lcmp, 1) := by decide +kernel
theorem d_Cells_isAsIn_44 : decode b_Cells_isAsIn 44 = .ok (.ifCond .ne 7, 3) := by decide +kernel
theorem d_Cells_isAsIn_47 : decode b_Cells_isAsIn 47 = .ok (.iconst 1, 1) := by decide +kernel
theorem d_Cells_isAsIn_48 : decode b_Cells_isAsIn 48 = .ok (.goto 4, 3) := by decide +kernel
theorem d_Cells_isAsIn_51 : decode b_Cells_isAsIn 51 = .ok (.iconst 0, 1) := by decide +kernel
theorem d_Cells_isAsIn_52 : decode b_Cells_isAsIn 52 = .ok (.ireturn, 1) := by decide +kernel
theorem d_Cells_takeReason_0 : decode b_Cells_takeReason 0 = .ok (.aload_n 0, 1) := by decide +kernel
theorem d_Cells_takeReason_1 : decode b_Cells_takeReason 1 = .ok (.getfield 9, 3) := by decide +kernel
theorem d_Cells_takeReason_4 : decode b_Cells_takeReason 4 = .ok (.iload_n 1, 1) := by decide +kernel
theorem d_Cells_takeReason_5 : decode b_Cells_takeReason 5 = .ok (.iload_n 2, 1) := by decide +kernel
theorem d_Cells_takeReason_6 : decode b_Cells_takeReason 6 = .ok (.iastore, 1) := by decide +kernel
theorem d_Cells_takeReason_7 : decode b_Cells_takeReason 7 = .ok (.aload_n 0, 1) := by decide +kernel
theorem d_Cells_takeReason_8 : decode b_Cells_takeReason 8 = .ok (.getfield 15, 3) := by decide +kernel
theorem d_Cells_takeReason_11 : decode b_Cells_takeReason 11 = .ok (.iload_n 1, 1) := by decide +kernel
theorem d_Cells_takeReason_12 : decode b_Cells_takeReason 12 = .ok (.lconst 0, 1) := by decide +kernel
theorem d_Cells_takeReason_13 : decode b_Cells_takeReason 13 = .ok (.lastore, 1) := by decide +kernel
theorem d_Cells_takeReason_14 : decode b_Cells_takeReason 14 = .ok (.aload_n 0, 1) := by decide +kernel
theorem d_Cells_takeReason_15 : decode b_Cells_takeReason 15 = .ok (.getfield 19, 3) := by decide +kernel
theorem d_Cells_takeReason_18 : decode b_Cells_takeReason 18 = .ok (.iload_n 1, 1) := by decide +kernel
theorem d_Cells_takeReason_19 : decode b_Cells_takeReason 19 = .ok (.lconst 1, 1) := by decide +kernel
theorem d_Cells_takeReason_20 : decode b_Cells_takeReason 20 = .ok (.lastore, 1) := by decide +kernel
theorem d_Cells_takeReason_21 : decode b_Cells_takeReason 21 = .ok (.aload_n 0, 1) := by decide +kernel
theorem d_Cells_takeReason_22 : decode b_Cells_takeReason 22 = .ok (.getfield 22, 3) := by decide +kernel
theorem d_Cells_takeReason_25 : decode b_Cells_takeReason 25 = .ok (.iload_n 1, 1) := by decide +kernel
theorem d_Cells_takeReason_26 : decode b_Cells_takeReason 26 = .ok (.iconst (-1), 1) := by decide +kernel
theorem d_Cells_takeReason_27 : decode b_Cells_takeReason 27 = .ok (.iastore, 1) := by decide +kernel
theorem d_Cells_takeReason_28 : decode b_Cells_takeReason 28 = .ok (.return_, 1) := by decide +kernel
theorem d_Cells_takeValue_0 : decode b_Cells_takeValue 0 = .ok (.aload_n 0, 1) := by decide +kernel
theorem d_Cells_takeValue_1 : decode b_Cells_takeValue 1 = .ok (.getfield 9, 3) := by decide +kernel
theorem d_Cells_takeValue_4 : decode b_Cells_takeValue 4 = .ok (.iload_n 1, 1) := by decide +kernel
theorem d_Cells_takeValue_5 : decode b_Cells_takeValue 5 = .ok (.iconst 1, 1) := by decide +kernel
theorem d_Cells_takeValue_6 : decode b_Cells_takeValue 6 = .ok (.iastore, 1) := by decide +kernel
theorem d_Cells_takeValue_7 : decode b_Cells_takeValue 7 = .ok (.aload_n 0, 1) := by decide +kernel
theorem d_Cells_takeValue_8 : decode b_Cells_takeValue 8 = .ok (.getfield 15, 3) := by decide +kernel
theorem d_Cells_takeValue_11 : decode b_Cells_takeValue 11 = .ok (.iload_n 1, 1) := by decide +kernel
theorem d_Cells_takeValue_12 : decode b_Cells_takeValue 12 = .ok (.lload_n 2, 1) := by decide +kernel
theorem d_Cells_takeValue_13 : decode b_Cells_takeValue 13 = .ok (.lastore, 1) := by decide +kernel
theorem d_Cells_takeValue_14 : decode b_Cells_takeValue 14 = .ok (.aload_n 0, 1) := by decide +kernel
theorem d_Cells_takeValue_15 : decode b_Cells_takeValue 15 = .ok (.getfield 19, 3) := by decide +kernel
theorem d_Cells_takeValue_18 : decode b_Cells_takeValue 18 = .ok (.iload_n 1, 1) := by decide +kernel
theorem d_Cells_takeValue_19 : decode b_Cells_takeValue 19 = .ok (.lload 4, 2) := by decide +kernel
theorem d_Cells_takeValue_21 : decode b_Cells_takeValue 21 = .ok (.lastore, 1) := by decide +kernel
theorem d_Cells_takeValue_22 : decode b_Cells_takeValue 22 = .ok (.aload_n 0, 1) := by decide +kernel
theorem d_Cells_takeValue_23 : decode b_Cells_takeValue 23 = .ok (.getfield 22, 3) := by decide +kernel
theorem d_Cells_takeValue_26 : decode b_Cells_takeValue 26 = .ok (.iload_n 1, 1) := by decide +kernel
theorem d_Cells_takeValue_27 : decode b_Cells_takeValue 27 = .ok (.iload 6, 2) := by decide +kernel
theorem d_Cells_takeValue_29 : decode b_Cells_takeValue 29 = .ok (.iastore, 1) := by decide +kernel
theorem d_Cells_takeValue_30 : decode b_Cells_takeValue 30 = .ok (.return_, 1) := by decide +kernel
def F_Cells_takeReason (x1 : Int32) (x2 : Int32) (o0 : Ob) : Option (Ob) :=
  chk (inb x1 60) (some (s32 (s64 (s64 (s32 o0 0 (Int32.toNatClampNeg x1) x2) 1 (Int32.toNatClampNeg x1) (0 : Int64)) 2 (Int32.toNatClampNeg x1) (1 : Int64)) 3 (Int32.toNatClampNeg x1) (-1 : Int32)))
abbrev ws_Cells_takeReason : List Cond := Cond.code y_Cells_takeReason b_Cells_takeReason 3 (none : Option Jvm.ClassFile.FieldType) :: wsAll
abbrev rm_Cells_takeReason : Room := { frames := 0, cells := 0, slots := 0, locals := 0 }
set_option maxHeartbeats 4000000 in
set_option maxRecDepth 100000 in
theorem c_Cells_takeReason (l : Launch) (ct dC : Nat → ClassId) (dI : Nat → Nat → Nat) (a0 : Nat → Nat)  (sz : Nat) (x1 : Int32) (x2 : Int32) (o0 : Ob) (n0 : Ob) (hF : F_Cells_takeReason x1 x2 o0 = some n0) : Met l y_Cells_takeReason ws_Cells_takeReason rm_Cells_takeReason (bw_Pc [.ref (a0 0), .int x1, .int x2] (dC, dI) vwCl (tyA ct) [wCells ct a0 o0] sz nx) (bw_Q (dC, dI) vwCl none [wCells ct a0 n0] (bw_A [adCells a0] sz)) 0 0 (bw_A [adCells a0] sz) := by
  refine Met.ofW (cc := b_Cells_takeReason) (maxL := 3) (ret := (none : Option Jvm.ClassFile.FieldType)) (by decide) rfl ?_
  intro p e s m args below meth c s₁ B hml hv
  obtain ⟨rfl, hsz, hP, hK, hN0, hnx⟩ := hv
  have hx := B.exec
  have hb := B.bytes
  have hr := B.returns
  have hts : ∀ w ∈ wsAll, w.before [.ref (a0 0), .int x1, .int x2].toArray s = true := fun w h9 => atoms_spec (ws := ws_Cells_takeReason) B.pre w (List.mem_cons_of_mem _ h9)
  have hown : s.vm.findClass R_Cells = some m.cls := findClass_of_methodNamed B.named
  have hlocks := B.notSynchronized
  subst hsz
  have hN : bw_N (bw_A [adCells a0] s.heap.size) [adCells a0] := hN0.self s.heap.size
  generalize hAe : bw_A [adCells a0] s.heap.size = A at hN ⊢
  have hA : ∀ q : Nat, s.heap.size ≤ q → A q := fun q h => by rw [← hAe]; exact Or.inr h
  have hS : va_S A s.heap s.heap [] := va_S.rf
  have hl := lv_entry ([.ref (a0 0), .int x1, .int x2]) (n := 3) (Nat.le_of_ble_eq_true rfl)
  rw [lg_entry_eq]
  generalize (lg_sl ([.ref (a0 0), .int x1, .int x2]) ++ List.replicate (3 - (lg_sl ([.ref (a0 0), .int x1, .int x2])).length) Slot.unset).toArray = ls at hl ⊢
  have hl : lv_has ls 3 [(0, .ref (a0 0)), (1, .int x1), (2, .int x2)] := hl
  have C0 : cx wsAll vwCl nx p s m [.ref (a0 0), .int x1, .int x2].toArray meth c (dC, dI) (tyA ct) b_Cells_takeReason 3 (none : Option Jvm.ClassFile.FieldType) R_Cells A [adCells a0] := ⟨hx, hb, hr, hml, hown, hlocks, hts, hK, hN, hA, hnx⟩
  have h := hF
  rw [F_Cells_takeReason] at h
  refine lv_aload_n hx hb d_Cells_takeReason_0 rfl (lv_at hl 0 rfl) ?_
  refine va_get (D := (dC, dI)) (ci := 1) (v := .ref (a0 1)) (C := R_Cells) (T := T_Cells) (N := 4) hx hb hts in_Cells hown hK (hP 0 _ rfl) 0 rfl rfl 0 (by decide) (hts _ fl_Cells_9) (fun _ h9 => h9) rfl d_Cells_takeReason_1 ?_
  refine lv_iload_n hx hb d_Cells_takeReason_4 rfl (lv_at hl 1 rfl) ?_
  refine lv_iload_n hx hb d_Cells_takeReason_5 rfl (lv_at hl 2 rfl) ?_
  obtain ⟨hi1, h⟩ := chk_some h
  refine st_Cells_0 hx hb hK hP hN hS 0 rfl (inb_in hi1) d_Cells_takeReason_6 (fun H locs hP hS => ?_)
  have hP : bw_P (dC, dI) vwCl [wCells ct a0 (s32 o0 0 (Int32.toNatClampNeg x1) x2)] H := hP
  refine lv_aload_n hx hb d_Cells_takeReason_7 rfl (lv_at hl 0 rfl) ?_
  refine va_get (D := (dC, dI)) (ci := 1) (v := .ref (a0 2)) (C := R_Cells) (T := T_Cells) (N := 4) hx hb hts in_Cells hown hK (hP 0 _ rfl) 0 rfl rfl 1 (by decide) (hts _ fl_Cells_15) (fun _ h9 => h9) rfl d_Cells_takeReason_8 ?_
  refine lv_iload_n hx hb d_Cells_takeReason_11 rfl (lv_at hl 1 rfl) ?_
  refine lv_lconst (v := 0) hx hb d_Cells_takeReason_12 (by decide) ?_
  refine st_Cells_1 hx hb hK hP hN hS 0 rfl (inb_in hi1) d_Cells_takeReason_13 (fun H locs hP hS => ?_)
  have hP : bw_P (dC, dI) vwCl [wCells ct a0 (s64 (s32 o0 0 (Int32.toNatClampNeg x1) x2) 1 (Int32.toNatClampNeg x1) (0 : Int64))] H := hP
  refine lv_aload_n hx hb d_Cells_takeReason_14 rfl (lv_at hl 0 rfl) ?_
  refine va_get (D := (dC, dI)) (ci := 1) (v := .ref (a0 3)) (C := R_Cells) (T := T_Cells) (N := 4) hx hb hts in_Cells hown hK (hP 0 _ rfl) 0 rfl rfl 2 (by decide) (hts _ fl_Cells_19) (fun _ h9 => h9) rfl d_Cells_takeReason_15 ?_
  refine lv_iload_n hx hb d_Cells_takeReason_18 rfl (lv_at hl 1 rfl) ?_
  refine lv_lconst (v := 1) hx hb d_Cells_takeReason_19 (by decide) ?_
  refine st_Cells_2 hx hb hK hP hN hS 0 rfl (inb_in hi1) d_Cells_takeReason_20 (fun H locs hP hS => ?_)
  have hP : bw_P (dC, dI) vwCl [wCells ct a0 (s64 (s64 (s32 o0 0 (Int32.toNatClampNeg x1) x2) 1 (Int32.toNatClampNeg x1) (0 : Int64)) 2 (Int32.toNatClampNeg x1) (1 : Int64))] H := hP
  refine lv_aload_n hx hb d_Cells_takeReason_21 rfl (lv_at hl 0 rfl) ?_
  refine va_get (D := (dC, dI)) (ci := 1) (v := .ref (a0 4)) (C := R_Cells) (T := T_Cells) (N := 4) hx hb hts in_Cells hown hK (hP 0 _ rfl) 0 rfl rfl 3 (by decide) (hts _ fl_Cells_22) (fun _ h9 => h9) rfl d_Cells_takeReason_22 ?_
  refine lv_iload_n hx hb d_Cells_takeReason_25 rfl (lv_at hl 1 rfl) ?_
  refine lv_iconst (v := -1) hx hb d_Cells_takeReason_26 (by decide) ?_
  refine st_Cells_3 hx hb hK hP hN hS 0 rfl (inb_in hi1) d_Cells_takeReason_27 (fun H locs hP hS => ?_)
  have hP : bw_P (dC, dI) vwCl [wCells ct a0 (s32 (s64 (s64 (s32 o0 0 (Int32.toNatClampNeg x1) x2) 1 (Int32.toNatClampNeg x1) (0 : Int64)) 2 (Int32.toNatClampNeg x1) (1 : Int64)) 3 (Int32.toNatClampNeg x1) (-1 : Int32))] H := hP
  obtain rfl := res1 h
  exact W.vret hx hb hr (fun t ht hW => ⟨rfl, by rw [ht]; exact hP, hS.F ht⟩) hS.2.2 d_Cells_takeReason_28
def F_Cells_takeValue (x1 : Int32) (x2 : Int64) (x4 : Int64) (x6 : Int32) (o0 : Ob) : Option (Ob) :=
  chk (inb x1 60) (some (s32 (s64 (s64 (s32 o0 0 (Int32.toNatClampNeg x1) (1 : Int32)) 1 (Int32.toNatClampNeg x1) x2) 2 (Int32.toNatClampNeg x1) x4) 3 (Int32.toNatClampNeg x1) x6))
abbrev ws_Cells_takeValue : List Cond := Cond.code y_Cells_takeValue b_Cells_takeValue 7 (none : Option Jvm.ClassFile.FieldType) :: wsAll
abbrev rm_Cells_takeValue : Room := { frames := 0, cells := 0, slots := 0, locals := 0 }
set_option maxHeartbeats 4000000 in
set_option maxRecDepth 100000 in
theorem c_Cells_takeValue (l : Launch) (ct dC : Nat → ClassId) (dI : Nat → Nat → Nat) (a0 : Nat → Nat)  (sz : Nat) (x1 : Int32) (x2 : Int64) (x4 : Int64) (x6 : Int32) (o0 : Ob) (n0 : Ob) (hF : F_Cells_takeValue x1 x2 x4 x6 o0 = some n0) : Met l y_Cells_takeValue ws_Cells_takeValue rm_Cells_takeValue (bw_Pc [.ref (a0 0), .int x1, .long x2, .long x4, .int x6] (dC, dI) vwCl (tyA ct) [wCells ct a0 o0] sz nx) (bw_Q (dC, dI) vwCl none [wCells ct a0 n0] (bw_A [adCells a0] sz)) 0 0 (bw_A [adCells a0] sz) := by
  refine Met.ofW (cc := b_Cells_takeValue) (maxL := 7) (ret := (none : Option Jvm.ClassFile.FieldType)) (by decide) rfl ?_
  intro p e s m args below meth c s₁ B hml hv
  obtain ⟨rfl, hsz, hP, hK, hN0, hnx⟩ := hv
  have hx := B.exec
  have hb := B.bytes
  have hr := B.returns
  have hts : ∀ w ∈ wsAll, w.before [.ref (a0 0), .int x1, .long x2, .long x4, .int x6].toArray s = true := fun w h9 => atoms_spec (ws := ws_Cells_takeValue) B.pre w (List.mem_cons_of_mem _ h9)
  have hown : s.vm.findClass R_Cells = some m.cls := findClass_of_methodNamed B.named
  have hlocks := B.notSynchronized
  subst hsz
  have hN : bw_N (bw_A [adCells a0] s.heap.size) [adCells a0] := hN0.self s.heap.size
  generalize hAe : bw_A [adCells a0] s.heap.size = A at hN ⊢
  have hA : ∀ q : Nat, s.heap.size ≤ q → A q := fun q h => by rw [← hAe]; exact Or.inr h
  have hS : va_S A s.heap s.heap [] := va_S.rf
  have hl := lv_entry ([.ref (a0 0), .int x1, .long x2, .long x4, .int x6]) (n := 7) (Nat.le_of_ble_eq_true rfl)
  rw [lg_entry_eq]
  generalize (lg_sl ([.ref (a0 0), .int x1, .long x2, .long x4, .int x6]) ++ List.replicate (7 - (lg_sl ([.ref (a0 0), .int x1, .long x2, .long x4, .int x6])).length) Slot.unset).toArray = ls at hl ⊢
  have hl : lv_has ls 7 [(0, .ref (a0 0)), (1, .int x1), (2, .long x2), (4, .long x4), (6, .int x6)] := hl
  have C0 : cx wsAll vwCl nx p s m [.ref (a0 0), .int x1, .long x2, .long x4, .int x6].toArray meth c (dC, dI) (tyA ct) b_Cells_takeValue 7 (none : Option Jvm.ClassFile.FieldType) R_Cells A [adCells a0] := ⟨hx, hb, hr, hml, hown, hlocks, hts, hK, hN, hA, hnx⟩
  have h := hF
  rw [F_Cells_takeValue] at h
  refine lv_aload_n hx hb d_Cells_takeValue_0 rfl (lv_at hl 0 rfl) ?_
  refine va_get (D := (dC, dI)) (ci := 1) (v := .ref (a0 1)) (C := R_Cells) (T := T_Cells) (N := 4) hx hb hts in_Cells hown hK (hP 0 _ rfl) 0 rfl rfl 0 (by decide) (hts _ fl_Cells_9) (fun _ h9 => h9) rfl d_Cells_takeValue_1 ?_
  refine lv_iload_n hx hb d_Cells_takeValue_4 rfl (lv_at hl 1 rfl) ?_
  refine lv_iconst (v := 1) hx hb d_Cells_takeValue_5 (by decide) ?_
  obtain ⟨hi1, h⟩ := chk_some h
  refine st_Cells_0 hx hb hK hP hN hS 0 rfl (inb_in hi1) d_Cells_takeValue_6 (fun H locs hP hS => ?_)
  have hP : bw_P (dC, dI) vwCl [wCells ct a0 (s32 o0 0 (Int32.toNatClampNeg x1) (1 : Int32))] H := hP
  refine lv_aload_n hx hb d_Cells_takeValue_7 rfl (lv_at hl 0 rfl) ?_
  refine va_get (D := (dC, dI)) (ci := 1) (v := .ref (a0 2)) (C := R_Cells) (T := T_Cells) (N := 4) hx hb hts in_Cells hown hK (hP 0 _ rfl) 0 rfl rfl 1 (by decide) (hts _ fl_Cells_15) (fun _ h9 => h9) rfl d_Cells_takeValue_8 ?_
  refine lv_iload_n hx hb d_Cells_takeValue_11 rfl (lv_at hl 1 rfl) ?_
  refine lv_lload_n hx hb d_Cells_takeValue_12 rfl (lv_at hl 2 rfl) ?_
  refine st_Cells_1 hx hb hK hP hN hS 0 rfl (inb_in hi1) d_Cells_takeValue_13 (fun H locs hP hS => ?_)
  have hP : bw_P (dC, dI) vwCl [wCells ct a0 (s64 (s32 o0 0 (Int32.toNatClampNeg x1) (1 : Int32)) 1 (Int32.toNatClampNeg x1) x2)] H := hP
  refine lv_aload_n hx hb d_Cells_takeValue_14 rfl (lv_at hl 0 rfl) ?_
  refine va_get (D := (dC, dI)) (ci := 1) (v := .ref (a0 3)) (C := R_Cells) (T := T_Cells) (N := 4) hx hb hts in_Cells hown hK (hP 0 _ rfl) 0 rfl rfl 2 (by decide) (hts _ fl_Cells_19) (fun _ h9 => h9) rfl d_Cells_takeValue_15 ?_
  refine lv_iload_n hx hb d_Cells_takeValue_18 rfl (lv_at hl 1 rfl) ?_
  refine lv_lload hx hb d_Cells_takeValue_19 (lv_at hl 3 rfl) ?_
  refine st_Cells_2 hx hb hK hP hN hS 0 rfl (inb_in hi1) d_Cells_takeValue_21 (fun H locs hP hS => ?_)
  have hP : bw_P (dC, dI) vwCl [wCells ct a0 (s64 (s64 (s32 o0 0 (Int32.toNatClampNeg x1) (1 : Int32)) 1 (Int32.toNatClampNeg x1) x2) 2 (Int32.toNatClampNeg x1) x4)] H := hP
  refine lv_aload_n hx hb d_Cells_takeValue_22 rfl (lv_at hl 0 rfl) ?_
  refine va_get (D := (dC, dI)) (ci := 1) (v := .ref (a0 4)) (C := R_Cells) (T := T_Cells) (N := 4) hx hb hts in_Cells hown hK (hP 0 _ rfl) 0 rfl rfl 3 (by decide) (hts _ fl_Cells_22) (fun _ h9 => h9) rfl d_Cells_takeValue_23 ?_
  refine lv_iload_n hx hb d_Cells_takeValue_26 rfl (lv_at hl 1 rfl) ?_
  refine lv_iload hx hb d_Cells_takeValue_27 (lv_at hl 4 rfl) ?_
  refine st_Cells_3 hx hb hK hP hN hS 0 rfl (inb_in hi1) d_Cells_takeValue_29 (fun H locs hP hS => ?_)
  have hP : bw_P (dC, dI) vwCl [wCells ct a0 (s32 (s64 (s64 (s32 o0 0 (Int32.toNatClampNeg x1) (1 : Int32)) 1 (Int32.toNatClampNeg x1) x2) 2 (Int32.toNatClampNeg x1) x4) 3 (Int32.toNatClampNeg x1) x6)] H := hP
  obtain rfl := res1 h
  exact W.vret hx hb hr (fun t ht hW => ⟨rfl, by rw [ht]; exact hP, hS.F ht⟩) hS.2.2 d_Cells_takeValue_30
def F_Cells_isAsIn (x2 : Int32) (o0 o1 : Ob) : Option (Bool) :=
  chk (inb x2 60) (if (g32 o0 0 (Int32.toNatClampNeg x2)) = (g32 o1 0 (Int32.toNatClampNeg x2)) then (if (lg_cmp (g64 o0 1 (Int32.toNatClampNeg x2)) (g64 o1 1 (Int32.toNatClampNeg x2))) = 0 then (if (lg_cmp (g64 o0 2 (Int32.toNatClampNeg x2)) (g64 o1 2 (Int32.toNatClampNeg x2))) = 0 then (some true) else (some false)) else (some false)) else (some false))
abbrev ws_Cells_isAsIn : List Cond := Cond.code y_Cells_isAsIn b_Cells_isAsIn 3 (some .boolean) :: wsAll
abbrev rm_Cells_isAsIn : Room := { frames := 0, cells := 0, slots := 0, locals := 0 }
set_option maxHeartbeats 4000000 in
set_option maxRecDepth 100000 in
theorem c_Cells_isAsIn (l : Launch) (ct dC : Nat → ClassId) (dI : Nat → Nat → Nat) (a0 a1 : Nat → Nat)  (sz : Nat) (x2 : Int32) (o0 o1 : Ob) (r : Bool) (hF : F_Cells_isAsIn x2 o0 o1 = some r) : Met l y_Cells_isAsIn ws_Cells_isAsIn rm_Cells_isAsIn (bw_Pc [.ref (a0 0), .ref (a1 0), .int x2] (dC, dI) vwCl (tyA ct) [wCells ct a0 o0, wCells ct a1 o1] sz nx) (bw_QR (some (.int (b2i r)))) 0 0 (fun _ => False) := by
  refine Met.ofW (cc := b_Cells_isAsIn) (maxL := 3) (ret := (some .boolean)) (by decide) rfl ?_
  intro p e s m args below meth c s₁ B hml hv
  obtain ⟨rfl, hsz, hP, hK, hN0, hnx⟩ := hv
  have hx := B.exec
  have hb := B.bytes
  have hr := B.returns
  have hts : ∀ w ∈ wsAll, w.before [.ref (a0 0), .ref (a1 0), .int x2].toArray s = true := fun w h9 => atoms_spec (ws := ws_Cells_isAsIn) B.pre w (List.mem_cons_of_mem _ h9)
  have hown : s.vm.findClass R_Cells = some m.cls := findClass_of_methodNamed B.named
  have hlocks := B.notSynchronized
  subst hsz
  have hN : bw_N (fun _ => True) [adCells a0, adCells a1] := hN0
  generalize hAe : (fun _ : Nat => True) = A at hN
  have hA : ∀ q : Nat, s.heap.size ≤ q → A q := fun q _ => by rw [← hAe]; trivial
  have hS : s.heap = s.heap ∧ ([] : List Loc) = [] := ⟨rfl, rfl⟩
  have hl := lv_entry ([.ref (a0 0), .ref (a1 0), .int x2]) (n := 3) (Nat.le_of_ble_eq_true rfl)
  rw [lg_entry_eq]
  generalize (lg_sl ([.ref (a0 0), .ref (a1 0), .int x2]) ++ List.replicate (3 - (lg_sl ([.ref (a0 0), .ref (a1 0), .int x2])).length) Slot.unset).toArray = ls at hl ⊢
  have hl : lv_has ls 3 [(0, .ref (a0 0)), (1, .ref (a1 0)), (2, .int x2)] := hl
  have C0 : cx wsAll vwCl nx p s m [.ref (a0 0), .ref (a1 0), .int x2].toArray meth c (dC, dI) (tyA ct) b_Cells_isAsIn 3 (some .boolean) R_Cells A [adCells a0, adCells a1] := ⟨hx, hb, hr, hml, hown, hlocks, hts, hK, hN, hA, hnx⟩
  have h := hF
  rw [F_Cells_isAsIn] at h
  refine lv_aload_n hx hb d_Cells_isAsIn_0 rfl (lv_at hl 0 rfl) ?_
  refine va_get (D := (dC, dI)) (ci := 1) (v := .ref (a0 1)) (C := R_Cells) (T := T_Cells) (N := 4) hx hb hts in_Cells hown hK (hP 0 _ rfl) 0 rfl rfl 0 (by decide) (hts _ fl_Cells_9) (fun _ h9 => h9) rfl d_Cells_isAsIn_1 ?_
  refine lv_iload_n hx hb d_Cells_isAsIn_4 rfl (lv_at hl 2 rfl) ?_
  obtain ⟨hi1, h⟩ := chk_some h
  refine va_iald (f := g32 o0 0) hx hb hK (hP 0 _ rfl) 1 0 rfl rfl (inb_in hi1) d_Cells_isAsIn_5 ?_
  refine lv_aload_n hx hb d_Cells_isAsIn_6 rfl (lv_at hl 1 rfl) ?_
  refine va_get (D := (dC, dI)) (ci := 1) (v := .ref (a1 1)) (C := R_Cells) (T := T_Cells) (N := 4) hx hb hts in_Cells hown hK (hP 1 _ rfl) 0 rfl rfl 0 (by decide) (hts _ fl_Cells_9) (fun _ h9 => h9) rfl d_Cells_isAsIn_7 ?_
  refine lv_iload_n hx hb d_Cells_isAsIn_10 rfl (lv_at hl 2 rfl) ?_
  refine va_iald (f := g32 o1 0) hx hb hK (hP 1 _ rfl) 1 0 rfl rfl (inb_in hi1) d_Cells_isAsIn_11 ?_
  refine lv_icmp_ne (tgt := 51) hx hb d_Cells_isAsIn_12 (by decide) (fun c3 => ?_) (fun c3 => ?_)
  · have h := ite_f c3 h
    refine lv_iconst (v := 0) hx hb d_Cells_isAsIn_51 (by decide) ?_
    obtain rfl := res1 h
    exact W.zret hx hb hr rfl (fun t ht hW => ⟨rfl, ht.trans hS.1⟩) (bw_nil hS.2) d_Cells_isAsIn_52
  · have h := ite_t c3 h
    refine lv_aload_n hx hb d_Cells_isAsIn_15 rfl (lv_at hl 0 rfl) ?_
    refine va_get (D := (dC, dI)) (ci := 1) (v := .ref (a0 2)) (C := R_Cells) (T := T_Cells) (N := 4) hx hb hts in_Cells hown hK (hP 0 _ rfl) 0 rfl rfl 1 (by decide) (hts _ fl_Cells_15) (fun _ h9 => h9) rfl d_Cells_isAsIn_16 ?_
    refine lv_iload_n hx hb d_Cells_isAsIn_19 rfl (lv_at hl 2 rfl) ?_
    refine va_lald (f := g64 o0 1) hx hb hK (hP 0 _ rfl) 2 1 rfl rfl (inb_in hi1) d_Cells_isAsIn_20 ?_
    refine lv_aload_n hx hb d_Cells_isAsIn_21 rfl (lv_at hl 1 rfl) ?_
    refine va_get (D := (dC, dI)) (ci := 1) (v := .ref (a1 2)) (C := R_Cells) (T := T_Cells) (N := 4) hx hb hts in_Cells hown hK (hP 1 _ rfl) 0 rfl rfl 1 (by decide) (hts _ fl_Cells_15) (fun _ h9 => h9) rfl d_Cells_isAsIn_22 ?_
    refine lv_iload_n hx hb d_Cells_isAsIn_25 rfl (lv_at hl 2 rfl) ?_
    refine va_lald (f := g64 o1 1) hx hb hK (hP 1 _ rfl) 2 1 rfl rfl (inb_in hi1) d_Cells_isAsIn_26 ?_
    refine W.lcmp hx hb d_Cells_isAsIn_27 ?_
    refine lv_if_ne (tgt := 51) hx hb d_Cells_isAsIn_28 (by decide) (fun c6 => ?_) (fun c6 => ?_)
    · have h := ite_f c6 h
      refine lv_iconst (v := 0) hx hb d_Cells_isAsIn_51 (by decide) ?_
      obtain rfl := res1 h
      exact W.zret hx hb hr rfl (fun t ht hW => ⟨rfl, ht.trans hS.1⟩) (bw_nil hS.2) d_Cells_isAsIn_52
    · have h := ite_t c6 h
      refine lv_aload_n hx hb d_Cells_isAsIn_31 rfl (lv_at hl 0 rfl) ?_
      refine va_get (D := (dC, dI)) (ci := 1) (v := .ref (a0 3)) (C := R_Cells) (T := T_Cells) (N := 4) hx hb hts in_Cells hown hK (hP 0 _ rfl) 0 rfl rfl 2 (by decide) (hts _ fl_Cells_19) (fun _ h9 => h9) rfl d_Cells_isAsIn_32 ?_
      refine lv_iload_n hx hb d_Cells_isAsIn_35 rfl (lv_at hl 2 rfl) ?_
      refine va_lald (f := g64 o0 2) hx hb hK (hP 0 _ rfl) 3 1 rfl rfl (inb_in hi1) d_Cells_isAsIn_36 ?_
      refine lv_aload_n hx hb d_Cells_isAsIn_37 rfl (lv_at hl 1 rfl) ?_
      refine va_get (D := (dC, dI)) (ci := 1) (v := .ref (a1 3)) (C := R_Cells) (T := T_Cells) (N := 4) hx hb hts in_Cells hown hK (hP 1 _ rfl) 0 rfl rfl 2 (by decide) (hts _ fl_Cells_19) (fun _ h9 => h9) rfl d_Cells_isAsIn_38 ?_
      refine lv_iload_n hx hb d_Cells_isAsIn_41 rfl (lv_at hl 2 rfl) ?_
      refine va_lald (f := g64 o1 2) hx hb hK (hP 1 _ rfl) 3 1 rfl rfl (inb_in hi1) d_Cells_isAsIn_42 ?_
      refine W.lcmp hx hb d_Cells_isAsIn_43 ?_
      refine lv_if_ne (tgt := 51) hx hb d_Cells_isAsIn_44 (by decide) (fun c9 => ?_) (fun c9 => ?_)
      · have h := ite_f c9 h
        refine lv_iconst (v := 0) hx hb d_Cells_isAsIn_51 (by decide) ?_
        obtain rfl := res1 h
        exact W.zret hx hb hr rfl (fun t ht hW => ⟨rfl, ht.trans hS.1⟩) (bw_nil hS.2) d_Cells_isAsIn_52
      · have h := ite_t c9 h
        refine lv_iconst (v := 1) hx hb d_Cells_isAsIn_47 (by decide) ?_
        refine lv_goto (tgt := 52) hx hb d_Cells_isAsIn_48 (by decide) ?_
        obtain rfl := res1 h
        exact W.zret hx hb hr rfl (fun t ht hW => ⟨rfl, ht.trans hS.1⟩) (bw_nil hS.2) d_Cells_isAsIn_52
