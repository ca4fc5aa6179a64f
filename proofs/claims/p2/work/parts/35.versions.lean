/-! 35.versions -/
abbrev b_PF_version : ByteArray := prog_1_method_15_code
def y_PF_version : MethodName := ⟨R_PF, "version", "()I"⟩
abbrev b_PF_differs : ByteArray := prog_1_method_16_code
def y_PF_differs : MethodName := ⟨R_PF, "differs", "(II)I"⟩
theorem fl_PF_51 : Cond.fieldLink "PartFormulas" 51 "PartFormulas" "versionCount" "I" ∈ wsAll := wa_of 310 (by decide +kernel) (by decide +kernel)
theorem fl_PF_47 : Cond.fieldLink "PartFormulas" 47 "PartFormulas" "versions" "[LPartFormulas$Cells;" ∈ wsAll := wa_of 309 (by decide +kernel) (by decide +kernel)
theorem d_PF_differs_0 : decode b_PF_differs 0 = .ok (.aload_n 0, 1) := by decide +kernel
theorem d_PF_differs_1 : decode b_PF_differs 1 = .ok (.invokevirtual 125, 3) := by decide +kernel
theorem d_PF_differs_4 : decode b_PF_differs 4 = .ok (.iload_n 1, 1) := by decide +kernel
theorem d_PF_differs_5 : decode b_PF_differs 5 = .ok (.aload_n 0, 1) := by decide +kernel
theorem d_PF_differs_6 : decode b_PF_differs 6 = .ok (.getfield 51, 3) := by decide +kernel
theorem d_PF_differs_9 : decode b_PF_differs 9 = .ok (.invokestatic 85, 3) := by decide +kernel
theorem d_PF_differs_12 : decode b_PF_differs 12 = .ok (.iload_n 2, 1) := by decide +kernel
theorem d_PF_differs_13 : decode b_PF_differs 13 = .ok (.invokestatic 74, 3) := by decide +kernel
theorem d_PF_differs_16 : decode b_PF_differs 16 = .ok (.iconst 0, 1) := by decide +kernel
theorem d_PF_differs_17 : decode b_PF_differs 17 = .ok (.istore_n 3, 1) := by decide +kernel
theorem d_PF_differs_18 : decode b_PF_differs 18 = .ok (.iconst 0, 1) := by decide +kernel
theorem d_PF_differs_19 : decode b_PF_differs 19 = .ok (.istore 4, 2) := by decide +kernel
theorem d_PF_differs_21 : decode b_PF_differs 21 = .ok (.iload 4, 2) := by decide +kernel
theorem d_PF_differs_23 : decode b_PF_differs 23 = .ok (.bipush 60, 2) := by decide +kernel
theorem d_PF_differs_25 : decode b_PF_differs 25 = .ok (.if_icmp .ge 38, 3) := by decide +kernel
theorem d_PF_differs_28 : decode b_PF_differs 28 = .ok (.aload_n 0, 1) := by decide +kernel
theorem d_PF_differs_29 : decode b_PF_differs 29 = .ok (.getfield 40, 3) := by decide +kernel
theorem d_PF_differs_32 : decode b_PF_differs 32 = .ok (.aload_n 0, 1) := by decide +kernel
theorem d_PF_differs_33 : decode b_PF_differs 33 = .ok (.getfield 47, 3) := by decide +kernel
theorem d_PF_differs_36 : decode b_PF_differs 36 = .ok (.iload_n 1, 1) := by decide +kernel
theorem d_PF_differs_37 : decode b_PF_differs 37 = .ok (.aaload, 1) := by decide +kernel
theorem d_PF_differs_38 : decode b_PF_differs 38 = .ok (.iload 4, 2) := by decide +kernel
theorem d_PF_differs_40 : decode b_PF_differs 40 = .ok (.invokevirtual 182, 3) := by decide +kernel
theorem d_PF_differs_43 : decode b_PF_differs 43 = .ok (.ifCond .ne 14, 3) := by decide +kernel
theorem d_PF_differs_46 : decode b_PF_differs 46 = .ok (.iload_n 3, 1) := by decide +kernel
theorem d_PF_differs_47 : decode b_PF_differs 47 = .ok (.iload_n 2, 1) := by decide +kernel
theorem d_PF_differs_48 : decode b_PF_differs 48 = .ok (.if_icmp .ne 6, 3) := by decide +kernel
theorem d_PF_differs_51 : decode b_PF_differs 51 = .ok (.iload 4, 2) := by decide +kernel
theorem d_PF_differs_53 : decode b_PF_differs 53 = .ok (.ireturn, 1) := by decide +kernel
theorem d_PF_differs_54 : decode b_PF_differs 54 = .ok (.iinc 3 1, 3) := by decide +kernel
theorem d_PF_differs_57 : decode b_PF_differs 57 = .ok (.iinc 4 1, 3) := by decide +kernel
theorem d_PF_differs_60 : decode b_PF_differs 60 = .ok (.goto (-39), 3) := by decide +kernel
theorem d_PF_differs_63 : decode b_PF_differs 63 = .ok (.iconst (-1), 1) := by decide +kernel
theorem d_PF_differs_64 : decode b_PF_differs 64 = .ok (.ireturn, 1) := by decide +kernel
theorem d_PF_version_0 : decode b_PF_version 0 = .ok (.aload_n 0, 1) := by decide +kernel
theorem d_PF_version_1 : decode b_PF_version 1 = .ok (.invokevirtual 125, 3) := by decide +kernel
theorem d_PF_version_4 : decode b_PF_version 4 = .ok (.aload_n 0, 1) := by decide +kernel
theorem d_PF_version_5 : decode b_PF_version 5 = .ok (.getfield 51, 3) := by decide +kernel
theorem d_PF_version_8 : decode b_PF_version 8 = .ok (.iconst 4, 1) := by decide +kernel
theorem d_PF_version_9 : decode b_PF_version 9 = .ok (.if_icmp .lt 13, 3) := by decide +kernel
theorem d_PF_version_12 : decode b_PF_version 12 = .ok (.new 135, 3) := by decide +kernel
theorem d_PF_version_15 : decode b_PF_version 15 = .ok (.dup, 1) := by decide +kernel
theorem d_PF_version_16 : decode b_PF_version 16 = .ok (.ldc 180, 2) := by decide +kernel
theorem d_PF_version_18 : decode b_PF_version 18 = .ok (.invokespecial 139, 3) := by decide +kernel
theorem d_PF_version_21 : decode b_PF_version 21 = .ok (.athrow, 1) := by decide +kernel
theorem d_PF_version_22 : decode b_PF_version 22 = .ok (.aload_n 0, 1) := by decide +kernel
theorem d_PF_version_23 : decode b_PF_version 23 = .ok (.getfield 47, 3) := by decide +kernel
theorem d_PF_version_26 : decode b_PF_version 26 = .ok (.aload_n 0, 1) := by decide +kernel
theorem d_PF_version_27 : decode b_PF_version 27 = .ok (.getfield 51, 3) := by decide +kernel
theorem d_PF_version_30 : decode b_PF_version 30 = .ok (.aaload, 1) := by decide +kernel
theorem d_PF_version_31 : decode b_PF_version 31 = .ok (.aload_n 0, 1) := by decide +kernel
theorem d_PF_version_32 : decode b_PF_version 32 = .ok (.getfield 40, 3) := by decide +kernel
theorem d_PF_version_35 : decode b_PF_version 35 = .ok (.invokevirtual 172, 3) := by decide +kernel
theorem d_PF_version_38 : decode b_PF_version 38 = .ok (.aload_n 0, 1) := by decide +kernel
theorem d_PF_version_39 : decode b_PF_version 39 = .ok (.dup, 1) := by decide +kernel
theorem d_PF_version_40 : decode b_PF_version 40 = .ok (.getfield 51, 3) := by decide +kernel
theorem d_PF_version_43 : decode b_PF_version 43 = .ok (.iconst 1, 1) := by decide +kernel
theorem d_PF_version_44 : decode b_PF_version 44 = .ok (.iadd, 1) := by decide +kernel
theorem d_PF_version_45 : decode b_PF_version 45 = .ok (.putfield 51, 3) := by decide +kernel
theorem d_PF_version_48 : decode b_PF_version 48 = .ok (.aload_n 0, 1) := by decide +kernel
theorem d_PF_version_49 : decode b_PF_version 49 = .ok (.getfield 51, 3) := by decide +kernel
theorem d_PF_version_52 : decode b_PF_version 52 = .ok (.iconst 1, 1) := by decide +kernel
theorem d_PF_version_53 : decode b_PF_version 53 = .ok (.isub, 1) := by decide +kernel
theorem d_PF_version_54 : decode b_PF_version 54 = .ok (.ireturn, 1) := by decide +kernel
def F_PF_version  (o0 o1 o2 : Ob) : Option (Nat × Int32 × Ob × Ob) :=
  bind2 (F_PF_demandWorkedOut o0) (fun k_2 u_3 => if k_2 = 0 then (if (g32 o0 8 0) < (4 : Int32) then (pln (chk (inb (g32 o0 8 0) 4) (bind1 (F_Cells_copyFrom o2 o1) (fun o_8 => some ((((g32 o0 8 0) + (1 : Int32)) - (1 : Int32)), (s32 o0 8 0 ((g32 o0 8 0) + (1 : Int32))), o_8))))) else (some (1, ((0 : Int32), o0, o2)))) else (some (k_2, ((0 : Int32), o0, o2))))
abbrev ws_PF_version : List Cond := Cond.code y_PF_version b_PF_version 1 (some .int) :: wsAll
abbrev rm_PF_version : Room := { frames := 2, cells := 0, slots := 0, locals := 81 }
set_option maxHeartbeats 4000000 in
set_option maxRecDepth 100000 in
theorem c_PF_version (l : Launch) (ct dC : Nat → ClassId) (dI : Nat → Nat → Nat) (a0 a1 a2 : Nat → Nat) (r0_0 : Nat) (r0_1 : Nat) (r0_4 : Nat) (r0_6 : Nat) (v0 : Nat → Nat) (sz : Nat)  (o0 o1 o2 : Ob) (r : Int32) (n0 n2 : Ob) (hv : (inb (g32 o0 8 0) 4 = true → v0 (Int32.toNatClampNeg (g32 o0 8 0)) = a2 0)) (hF : F_PF_version o0 o1 o2 = some (0, (r, n0, n2))) : Met l y_PF_version ws_PF_version rm_PF_version (bw_Pc [.ref (a0 0)] (dC, dI) vwCl (tyA ct) [wPF ct a0 r0_0 r0_1 r0_4 (a1 0) r0_6 v0 o0, wCells ct a1 o1, wCells ct a2 o2] sz nx) (bw_Q (dC, dI) vwCl (some (.int r)) [wPF ct a0 r0_0 r0_1 r0_4 (a1 0) r0_6 v0 n0, wCells ct a1 o1, wCells ct a2 n2] (bw_A [adPF a0, adCells a1, adCells a2] sz)) 0 0 (bw_A [adPF a0, adCells a1, adCells a2] sz) := by
  refine Met.ofW (cc := b_PF_version) (maxL := 1) (ret := (some .int)) (by decide) rfl ?_
  intro p e s m args below meth c s₁ B hml hv
  obtain ⟨rfl, hsz, hP, hK, hN0, hnx⟩ := hv
  have hx := B.exec
  have hb := B.bytes
  have hr := B.returns
  have hts : ∀ w ∈ wsAll, w.before [.ref (a0 0)].toArray s = true := fun w h9 => atoms_spec (ws := ws_PF_version) B.pre w (List.mem_cons_of_mem _ h9)
  have hown : s.vm.findClass R_PF = some m.cls := findClass_of_methodNamed B.named
  have hlocks := B.notSynchronized
  subst hsz
  have hN : bw_N (bw_A [adPF a0, adCells a1, adCells a2] s.heap.size) [adPF a0, adCells a1, adCells a2] := hN0.self s.heap.size
  generalize hAe : bw_A [adPF a0, adCells a1, adCells a2] s.heap.size = A at hN ⊢
  have hA : ∀ q : Nat, s.heap.size ≤ q → A q := fun q h => by rw [← hAe]; exact Or.inr h
  have hS : va_S A s.heap s.heap [] := va_S.rf
  have hl := lv_entry ([.ref (a0 0)]) (n := 1) (Nat.le_of_ble_eq_true rfl)
  rw [lg_entry_eq]
  generalize (lg_sl ([.ref (a0 0)]) ++ List.replicate (1 - (lg_sl ([.ref (a0 0)])).length) Slot.unset).toArray = ls at hl ⊢
  have hl : lv_has ls 1 [(0, .ref (a0 0))] := hl
  have C0 : cx wsAll vwCl nx p s m [.ref (a0 0)].toArray meth c (dC, dI) (tyA ct) b_PF_version 1 (some .int) R_PF A [adPF a0, adCells a1, adCells a2] := ⟨hx, hb, hr, hml, hown, hlocks, hts, hK, hN, hA, hnx⟩
  have h := hF
  rw [F_PF_version] at h
  refine lv_aload_n hx hb d_PF_version_0 rfl (lv_at hl 0 rfl) ?_
  obtain ⟨k_2, u_3, hG1, h⟩ := bind2_some h
  by_cases hk4 : k_2 = 0
  · subst hk4
    have h := ite_t rfl h
    refine bw_callR (va_runV (As := []) (rest := []) ⟨hx, hb, hml, hown, hts⟩ (c_PF_demandWorkedOut l ct dC dI a0 r0_0 r0_1 r0_4 (a1 0) r0_6 v0 _ o0 hG1) (cwV 0 hts g_PF_125 rfl rfl rfl (by decide +kernel) ⟨Nat.le_of_ble_eq_true rfl, Nat.le_of_ble_eq_true rfl⟩) ⟨bw_blind nx_call, va_recv hK (hP 0 _ rfl) (ci := 5) (q0 := 0) rfl rfl, fun U hU hW => ⟨rfl, by rw [hU], by rw [hU]; exact hP.sub [0] rfl, va_K.moved hW.alike hK, (hN.sub [0] (by decide) rfl).weaken (fun _ _ => trivial), nx_warm hW hnx⟩⟩ rfl rfl hl.1 rfl (Nat.le_of_ble_eq_true rfl) d_PF_version_1 ⟨Nat.le_of_ble_eq_true rfl, Nat.le_of_ble_eq_true rfl⟩) ?_
    refine lv_aload_n hx hb d_PF_version_4 rfl (lv_at hl 0 rfl) ?_
    refine va_get (D := (dC, dI)) (ci := 5) (v := .int (g32 o0 8 0)) (C := R_PF) (T := T_PF) (N := 10) hx hb hts in_PF hown hK (hP 0 _ rfl) 0 rfl rfl 8 (by decide) (hts _ fl_PF_51) (fun _ h9 => h9) rfl d_PF_version_5 ?_
    refine lv_iconst (v := 4) hx hb d_PF_version_8 (by decide) ?_
    refine lv_icmp_lt (tgt := 22) hx hb d_PF_version_9 (by decide) (fun c5 => ?_) (fun c5 => ?_)
    · have h := ite_t c5 h
      have h := pln_some h
      refine lv_aload_n hx hb d_PF_version_22 rfl (lv_at hl 0 rfl) ?_
      refine va_get (D := (dC, dI)) (ci := 5) (v := .ref (a0 1)) (C := R_PF) (T := T_PF) (N := 10) hx hb hts in_PF hown hK (hP 0 _ rfl) 0 rfl rfl 7 (by decide) (hts _ fl_PF_47) (fun _ h9 => h9) rfl d_PF_version_23 ?_
      refine lv_aload_n hx hb d_PF_version_26 rfl (lv_at hl 0 rfl) ?_
      refine va_get (D := (dC, dI)) (ci := 5) (v := .int (g32 o0 8 0)) (C := R_PF) (T := T_PF) (N := 10) hx hb hts in_PF hown hK (hP 0 _ rfl) 0 rfl rfl 8 (by decide) (hts _ fl_PF_51) (fun _ h9 => h9) rfl d_PF_version_27 ?_
      obtain ⟨hi6, h⟩ := chk_some h
      refine va_aldq (f := fun z => some (v0 z)) hx hb hK (hP 0 _ rfl) 1 4 rfl rfl (inb_in hi6) d_PF_version_30 ?_
      rw [show va_rf ((fun z => some (v0 z)) (Int32.toNatClampNeg (g32 o0 8 0))) = Value.ref (a2 0) from congrArg Value.ref (hv hi6)]
      refine lv_aload_n hx hb d_PF_version_31 rfl (lv_at hl 0 rfl) ?_
      refine va_get (D := (dC, dI)) (ci := 5) (v := .ref (a1 0)) (C := R_PF) (T := T_PF) (N := 10) hx hb hts in_PF hown hK (hP 0 _ rfl) 0 rfl rfl 5 (by decide) (hts _ fl_PF_40) (fun _ h9 => h9) rfl d_PF_version_32 ?_
      obtain ⟨o_8, hG7, h⟩ := bind1_some h
      refine bw_call (Lc := [wCells ct a2 o2, wCells ct a1 o1]) (Lc' := [wCells ct a2 o_8, wCells ct a1 o1]) (L' := [wPF ct a0 r0_0 r0_1 r0_4 (a1 0) r0_6 v0 o0, wCells ct a1 o1, wCells ct a2 o_8]) [2, 1] (va_runV (As := [.ref (a1 0)]) (rest := []) ⟨hx, hb, hml, hown, hts⟩ (c_Cells_copyFrom l ct dC dI a2 a1 _ o2 o1 o_8 hG7) (cwV 1 hts g_PF_172 rfl rfl rfl (by decide +kernel) ⟨Nat.le_of_ble_eq_true rfl, Nat.le_of_ble_eq_true rfl⟩) ⟨bw_blind nx_call, va_recv hK (hP 2 _ rfl) (ci := 1) (q0 := 0) rfl rfl, fun U hU hW => ⟨rfl, by rw [hU], by rw [hU]; exact hP.sub [2, 1] rfl, va_K.moved hW.alike hK, (hN.sub [2, 1] (by decide) rfl).weaken (fun _ _ => trivial), nx_warm hW hnx⟩⟩ rfl rfl hl.1 rfl (Nat.le_of_ble_eq_true rfl) d_PF_version_35 ⟨Nat.le_of_ble_eq_true rfl, Nat.le_of_ble_eq_true rfl⟩) hP hN hS hA rfl rfl rfl (fun H locs hP hS => ?_)
      refine lv_aload_n hx hb d_PF_version_38 rfl (lv_at hl 0 rfl) ?_
      refine lv_dup hx hb d_PF_version_39 rfl ?_
      refine va_get (D := (dC, dI)) (ci := 5) (v := .int (g32 o0 8 0)) (C := R_PF) (T := T_PF) (N := 10) hx hb hts in_PF hown hK (hP 0 _ rfl) 0 rfl rfl 8 (by decide) (hts _ fl_PF_51) (fun _ h9 => h9) rfl d_PF_version_40 ?_
      refine lv_iconst (v := 1) hx hb d_PF_version_43 (by decide) ?_
      refine lv_iadd hx hb d_PF_version_44 ?_
      refine pt_PF_8 hx hb hts hown hK hP hN hS 0 rfl (hts _ fl_PF_51) d_PF_version_45 (fun H locs hP hS => ?_)
      have hP : bw_P (dC, dI) vwCl [wPF ct a0 r0_0 r0_1 r0_4 (a1 0) r0_6 v0 (s32 o0 8 0 ((g32 o0 8 0) + (1 : Int32))), wCells ct a1 o1, wCells ct a2 o_8] H := hP
      refine lv_aload_n hx hb d_PF_version_48 rfl (lv_at hl 0 rfl) ?_
      refine va_get (D := (dC, dI)) (ci := 5) (v := .int ((g32 o0 8 0) + (1 : Int32))) (C := R_PF) (T := T_PF) (N := 10) hx hb hts in_PF hown hK (hP 0 _ rfl) 0 rfl rfl 8 (by decide) (hts _ fl_PF_51) (fun _ h9 => h9) rfl d_PF_version_49 ?_
      refine lv_iconst (v := 1) hx hb d_PF_version_52 (by decide) ?_
      refine lv_isub hx hb d_PF_version_53 ?_
      obtain ⟨rfl, rfl, rfl⟩ := res3 h
      exact W.iret hx hb hr (fun t ht hW => ⟨rfl, by rw [ht]; exact hP, hS.F ht⟩) hS.2.2 d_PF_version_54
    · have h := ite_f c5 h
      exact (thr_ne h).elim
  · have h := ite_f hk4 h
    exact absurd (thr_eq h) hk4
abbrev rmx_PF_version : Room := { frames := 7, cells := 1, slots := 6, locals := 120 }
set_option maxHeartbeats 4000000 in
set_option maxRecDepth 100000 in
theorem x_PF_version (l : Launch) (hl0 : l.stackTraces = false) (ct dC : Nat → ClassId) (dI : Nat → Nat → Nat) (a0 a1 a2 : Nat → Nat) (r0_0 : Nat) (r0_1 : Nat) (r0_4 : Nat) (r0_6 : Nat) (v0 : Nat → Nat) (sz : Nat)  (o0 o1 o2 : Ob) (k : Nat) (r : Int32) (n0 n2 : Ob) (hF : F_PF_version o0 o1 o2 = some (k, (r, n0, n2))) (hk : ¬ k = 0) : MetT l y_PF_version ws_PF_version rmx_PF_version (bw_Pc [.ref (a0 0)] (dC, dI) vwCl (tyA ct) [wPF ct a0 r0_0 r0_1 r0_4 (a1 0) r0_6 v0 o0, wCells ct a1 o1, wCells ct a2 o2] sz thn) (bt_Q (exN k)) 1 6 := by
  refine MetT.ofW (cc := b_PF_version) (maxL := 1) (ret := (some .int)) (by decide) rfl ?_
  intro p e s m args below meth c s₁ B hml hv
  obtain ⟨rfl, hsz, hP, hK, hN0, hnx, hth⟩ := hv
  have hx := B.exec
  have hb := B.bytes
  have hr := B.returns
  have hts : ∀ w ∈ wsAll, w.before [.ref (a0 0)].toArray s = true := fun w h9 => atoms_spec (ws := ws_PF_version) B.pre w (List.mem_cons_of_mem _ h9)
  have hex : c.exceptionTable.isEmpty = true := B.noHandlers (atoms_spec (ws := ws_PF_version) B.pre _ List.mem_cons_self)
  have hown : s.vm.findClass R_PF = some m.cls := findClass_of_methodNamed B.named
  have hlocks := B.notSynchronized
  subst hsz
  have hN : bw_N (fun _ => True) [adPF a0, adCells a1, adCells a2] := hN0
  have hS : s.heap = s.heap ∧ ([] : List Loc) = [] := ⟨rfl, rfl⟩
  have hl := lv_entry ([.ref (a0 0)]) (n := 1) (Nat.le_of_ble_eq_true rfl)
  rw [lg_entry_eq]
  generalize (lg_sl ([.ref (a0 0)]) ++ List.replicate (1 - (lg_sl ([.ref (a0 0)])).length) Slot.unset).toArray = ls at hl ⊢
  have hl : lv_has ls 1 [(0, .ref (a0 0))] := hl
  have h := hF
  rw [F_PF_version] at h
  refine lv_aload_n hx hb d_PF_version_0 rfl (lv_at hl 0 rfl) ?_
  obtain ⟨k_2, u_3, hG1, h⟩ := bind2_some h
  by_cases hk4 : k_2 = 0
  · subst hk4
    have h := ite_t rfl h
    refine bw_callR (va_runV (As := []) (rest := []) ⟨hx, hb, hml, hown, hts⟩ (c_PF_demandWorkedOut l ct dC dI a0 r0_0 r0_1 r0_4 (a1 0) r0_6 v0 _ o0 hG1) (cwV 0 hts g_PF_125 rfl rfl rfl (by decide +kernel) ⟨Nat.le_of_ble_eq_true rfl, Nat.le_of_ble_eq_true rfl⟩) ⟨bw_blind nx_call, va_recv hK (hP 0 _ rfl) (ci := 5) (q0 := 0) rfl rfl, fun U hU hW => ⟨rfl, by rw [hU], by rw [hU]; exact hP.sub [0] rfl, va_K.moved hW.alike hK, (hN.sub [0] (by decide) rfl).weaken (fun _ _ => trivial), nx_warm hW hnx⟩⟩ rfl rfl hl.1 rfl (Nat.le_of_ble_eq_true rfl) d_PF_version_1 ⟨Nat.le_of_ble_eq_true rfl, Nat.le_of_ble_eq_true rfl⟩) ?_
    refine lv_aload_n hx hb d_PF_version_4 rfl (lv_at hl 0 rfl) ?_
    refine va_get (D := (dC, dI)) (ci := 5) (v := .int (g32 o0 8 0)) (C := R_PF) (T := T_PF) (N := 10) hx hb hts in_PF hown hK (hP 0 _ rfl) 0 rfl rfl 8 (by decide) (hts _ fl_PF_51) (fun _ h9 => h9) rfl d_PF_version_5 ?_
    refine lv_iconst (v := 4) hx hb d_PF_version_8 (by decide) ?_
    refine lv_icmp_lt (tgt := 22) hx hb d_PF_version_9 (by decide) (fun c5 => ?_) (fun c5 => ?_)
    · have h := ite_t c5 h
      exact absurd (pln_0 h) hk
    · have h := ite_f c5 h
      have e9 := (res2 h).1
      rw [e9]
      obtain ⟨q9, hq9⟩ := thx_s3 hth
      exact bt_throw hx hb hl0 hown (by decide) (by decide) (at_1 hts hth) (hts _ cl_PF_135) (hts _ ins_IllegalStateException) (hts _ ini_IllegalStateException) hq9 d_PF_version_12 d_PF_version_15 d_PF_version_16 d_PF_version_18 d_PF_version_21 hex (hl.1.trans hml.symm) hlocks (Nat.le_of_ble_eq_true rfl) (Nat.le_of_ble_eq_true rfl) (Nat.le_of_ble_eq_true rfl) (Nat.le_of_ble_eq_true rfl)
  · have h := ite_f hk4 h
    have e9 := (res2 h).1
    rw [e9]
    exact bt_outV (As := []) (rest := []) ⟨hx, hb, hml, hown, hts⟩ (x_PF_demandWorkedOut l hl0 ct dC dI a0 r0_0 r0_1 r0_4 (a1 0) r0_6 v0 _ o0 k_2 hG1 hk4) (cwV 0 hts g_PF_125 rfl rfl rfl (by decide +kernel) ⟨Nat.le_of_ble_eq_true rfl, Nat.le_of_ble_eq_true rfl⟩) ⟨bw_blind thx_call, va_recv hK (hP 0 _ rfl) (ci := 5) (q0 := 0) rfl rfl, fun U hU hW => ⟨rfl, by rw [hU], by rw [hU]; exact hP.sub [0] rfl, va_K.moved hW.alike hK, (hN.sub [0] (by decide) rfl).weaken (fun _ _ => trivial), ⟨nx_warm hW hnx, thx_warm hW hU hth⟩⟩⟩ rfl hl.1 rfl (Nat.le_of_ble_eq_true rfl) d_PF_version_1 hex hlocks ⟨Nat.le_of_ble_eq_true rfl, Nat.le_of_ble_eq_true rfl⟩
def F_PF_differs_21 (o0 o1 o2 : Ob)  : Nat → Int32 → Int32 → Int32 → Int32 → Option (Int32)
  | 0, _, _, _, _ => none
  | n + 1, x1, x2, x3, x4 =>
    if (60 : Int32) ≤ x4 then (some (-1 : Int32)) else (chk (inb x1 4) (bind1 (F_Cells_isAsIn x4 o1 o2) (fun v16 => if (b2i v16) = 0 then (if x3 = x2 then (some x4) else (F_PF_differs_21 o0 o1 o2 n x1 x2 (x3 + (1 : Int32)) (x4 + (1 : Int32)))) else (F_PF_differs_21 o0 o1 o2 n x1 x2 x3 (x4 + (1 : Int32))))))
def F_PF_differs (x1 : Int32) (x2 : Int32) (o0 o1 o2 : Ob) : Option (Nat × Int32) :=
  bind2 (F_PF_demandWorkedOut o0) (fun k_2 u_3 => if k_2 = 0 then (bind2 (F_PF_demandIndex x1 (g32 o0 8 0)) (fun k_6 u_7 => if k_6 = 0 then (bind2 (F_PF_demandNotNegative x2) (fun k_10 u_11 => if k_10 = 0 then (pln (F_PF_differs_21 o0 o1 o2 fuel x1 x2 (0 : Int32) (0 : Int32))) else (some (k_10, (0 : Int32))))) else (some (k_6, (0 : Int32))))) else (some (k_2, (0 : Int32))))
abbrev ws_PF_differs : List Cond := Cond.code y_PF_differs b_PF_differs 5 (some .int) :: wsAll
abbrev rm_PF_differs : Room := { frames := 1, cells := 0, slots := 0, locals := 22 }
set_option maxHeartbeats 4000000 in
set_option maxRecDepth 100000 in
theorem k_PF_differs_21 {p : Program} {l : Launch} {e : Env} {s : State} {m : MethodId} {args : Array Value} {below : List Frame} {meth : Method} {c : Code} {A : Nat → Prop} {ct dC : Nat → ClassId} {dI : Nat → Nat → Nat} {a0 a1 a2 : Nat → Nat} {r0_0 : Nat} {r0_1 : Nat} {r0_4 : Nat} {r0_6 : Nat} {v0 : Nat → Nat} {r : Int32} {o0 o1 o2 : Ob}  (C0 : cx wsAll vwCl nx p s m args meth c (dC, dI) (tyA ct) b_PF_differs 5 (some .int) R_PF A [adPF a0, adCells a1, adCells a2])  : ∀ (n : Nat) (x1 : Int32) (x2 : Int32) (x3 : Int32) (x4 : Int32) (H : Heap) (locs : List Loc) (ls : Array Slot), bw_P (dC, dI) vwCl [wPF ct a0 r0_0 r0_1 r0_4 (a1 0) r0_6 v0 o0, wCells ct a1 o1, wCells ct a2 o2] H → (H = s.heap ∧ locs = []) → lv_has ls 5 [(0, .ref (a0 0)), (1, .int x1), (2, .int x2), (3, .int x3), (4, .int x4)] → (inb x1 4 = true → v0 (Int32.toNatClampNeg x1) = a2 0) → F_PF_differs_21 o0 o1 o2 n x1 x2 x3 x4 = some r → W p l e (headSpec ws_PF_differs rm_PF_differs).room s m args below meth c H locs 0 0 (MQ below (bw_QR (some (.int r))) args s 0 0 (fun _ => False)) (F0 m 21 ls []) := by
  obtain ⟨hx, hb, hr, hml, hown, hlocks, hts, hK, hN, hA, hnx⟩ := id C0
  intro n
  induction n with
  | zero =>
    intro x1 x2 x3 x4 H locs ls hP hS hl hv h
    cases h
  | succ n ih =>
    intro x1 x2 x3 x4 H locs ls hP hS hl hv h
    rw [F_PF_differs_21] at h
    refine lv_iload hx hb d_PF_differs_21 (lv_at hl 4 rfl) ?_
    refine lv_bipush (v := 60) hx hb d_PF_differs_23 (by decide) ?_
    refine lv_icmp_ge (tgt := 63) hx hb d_PF_differs_25 (by decide) (fun c13 => ?_) (fun c13 => ?_)
    · have h := ite_t c13 h
      refine lv_iconst (v := -1) hx hb d_PF_differs_63 (by decide) ?_
      obtain rfl := res1 h
      exact W.iret hx hb hr (fun t ht hW => ⟨rfl, ht.trans hS.1⟩) (bw_nil hS.2) d_PF_differs_64
    · have h := ite_f c13 h
      refine lv_aload_n hx hb d_PF_differs_28 rfl (lv_at hl 0 rfl) ?_
      refine va_get (D := (dC, dI)) (ci := 5) (v := .ref (a1 0)) (C := R_PF) (T := T_PF) (N := 10) hx hb hts in_PF hown hK (hP 0 _ rfl) 0 rfl rfl 5 (by decide) (hts _ fl_PF_40) (fun _ h9 => h9) rfl d_PF_differs_29 ?_
      refine lv_aload_n hx hb d_PF_differs_32 rfl (lv_at hl 0 rfl) ?_
      refine va_get (D := (dC, dI)) (ci := 5) (v := .ref (a0 1)) (C := R_PF) (T := T_PF) (N := 10) hx hb hts in_PF hown hK (hP 0 _ rfl) 0 rfl rfl 7 (by decide) (hts _ fl_PF_47) (fun _ h9 => h9) rfl d_PF_differs_33 ?_
      refine lv_iload_n hx hb d_PF_differs_36 rfl (lv_at hl 1 rfl) ?_
      obtain ⟨hi14, h⟩ := chk_some h
      refine va_aldq (f := fun z => some (v0 z)) hx hb hK (hP 0 _ rfl) 1 4 rfl rfl (inb_in hi14) d_PF_differs_37 ?_
      rw [show va_rf ((fun z => some (v0 z)) (Int32.toNatClampNeg x1)) = Value.ref (a2 0) from congrArg Value.ref (hv hi14)]
      refine lv_iload hx hb d_PF_differs_38 (lv_at hl 4 rfl) ?_
      obtain ⟨v16, hG15, h⟩ := bind1_some h
      refine bw_callR (va_runV (As := [.ref (a2 0), .int x4]) (rest := []) ⟨hx, hb, hml, hown, hts⟩ (c_Cells_isAsIn l ct dC dI a1 a2 _ x4 o1 o2 v16 hG15) (cwV 2 hts g_PF_182 rfl rfl rfl (by decide +kernel) ⟨Nat.le_of_ble_eq_true rfl, Nat.le_of_ble_eq_true rfl⟩) ⟨bw_blind nx_call, va_recv hK (hP 1 _ rfl) (ci := 1) (q0 := 0) rfl rfl, fun U hU hW => ⟨rfl, by rw [hU], by rw [hU]; exact hP.sub [1, 2] rfl, va_K.moved hW.alike hK, (hN.sub [1, 2] (by decide) rfl).weaken (fun _ _ => trivial), nx_warm hW hnx⟩⟩ rfl rfl hl.1 rfl (Nat.le_of_ble_eq_true rfl) d_PF_differs_40 ⟨Nat.le_of_ble_eq_true rfl, Nat.le_of_ble_eq_true rfl⟩) ?_
      refine lv_if_ne (tgt := 57) hx hb d_PF_differs_43 (by decide) (fun c17 => ?_) (fun c17 => ?_)
      · have h := ite_f c17 h
        refine lv_iinc (v := (x4 + (1 : Int32))) (lv' := [(4, .int (x4 + (1 : Int32))), (0, .ref (a0 0)), (1, .int x1), (2, .int x2), (3, .int x3)]) hx hb d_PF_differs_57 hl (k := 4) rfl rfl (by decide) rfl (fun ls hl => ?_)
        refine lv_goto (tgt := 21) hx hb d_PF_differs_60 (by decide) ?_
        exact ih x1 x2 x3 (x4 + (1 : Int32)) _ _ _ hP hS (lv_sub hl [1, 2, 3, 4, 0] rfl) hv h
      · have h := ite_t c17 h
        refine lv_iload_n hx hb d_PF_differs_46 rfl (lv_at hl 3 rfl) ?_
        refine lv_iload_n hx hb d_PF_differs_47 rfl (lv_at hl 2 rfl) ?_
        refine lv_icmp_ne (tgt := 54) hx hb d_PF_differs_48 (by decide) (fun c18 => ?_) (fun c18 => ?_)
        · have h := ite_f c18 h
          refine lv_iinc (v := (x3 + (1 : Int32))) (lv' := [(3, .int (x3 + (1 : Int32))), (0, .ref (a0 0)), (1, .int x1), (2, .int x2), (4, .int x4)]) hx hb d_PF_differs_54 hl (k := 3) rfl rfl (by decide) rfl (fun ls hl => ?_)
          refine lv_iinc (v := (x4 + (1 : Int32))) (lv' := [(4, .int (x4 + (1 : Int32))), (3, .int (x3 + (1 : Int32))), (0, .ref (a0 0)), (1, .int x1), (2, .int x2)]) hx hb d_PF_differs_57 hl (k := 4) rfl rfl (by decide) rfl (fun ls hl => ?_)
          refine lv_goto (tgt := 21) hx hb d_PF_differs_60 (by decide) ?_
          exact ih x1 x2 (x3 + (1 : Int32)) (x4 + (1 : Int32)) _ _ _ hP hS (lv_sub hl [2, 3, 4, 1, 0] rfl) hv h
        · have h := ite_t c18 h
          refine lv_iload hx hb d_PF_differs_51 (lv_at hl 4 rfl) ?_
          obtain rfl := res1 h
          exact W.iret hx hb hr (fun t ht hW => ⟨rfl, ht.trans hS.1⟩) (bw_nil hS.2) d_PF_differs_53
set_option maxHeartbeats 4000000 in
set_option maxRecDepth 100000 in
theorem c_PF_differs (l : Launch) (ct dC : Nat → ClassId) (dI : Nat → Nat → Nat) (a0 a1 a2 : Nat → Nat) (r0_0 : Nat) (r0_1 : Nat) (r0_4 : Nat) (r0_6 : Nat) (v0 : Nat → Nat) (sz : Nat) (x1 : Int32) (x2 : Int32) (o0 o1 o2 : Ob) (r : Int32) (hv : (inb x1 4 = true → v0 (Int32.toNatClampNeg x1) = a2 0)) (hF : F_PF_differs x1 x2 o0 o1 o2 = some (0, r)) : Met l y_PF_differs ws_PF_differs rm_PF_differs (bw_Pc [.ref (a0 0), .int x1, .int x2] (dC, dI) vwCl (tyA ct) [wPF ct a0 r0_0 r0_1 r0_4 (a1 0) r0_6 v0 o0, wCells ct a1 o1, wCells ct a2 o2] sz nx) (bw_QR (some (.int r))) 0 0 (fun _ => False) := by
  refine Met.ofW (cc := b_PF_differs) (maxL := 5) (ret := (some .int)) (by decide) rfl ?_
  intro p e s m args below meth c s₁ B hml hv
  obtain ⟨rfl, hsz, hP, hK, hN0, hnx⟩ := hv
  have hx := B.exec
  have hb := B.bytes
  have hr := B.returns
  have hts : ∀ w ∈ wsAll, w.before [.ref (a0 0), .int x1, .int x2].toArray s = true := fun w h9 => atoms_spec (ws := ws_PF_differs) B.pre w (List.mem_cons_of_mem _ h9)
  have hown : s.vm.findClass R_PF = some m.cls := findClass_of_methodNamed B.named
  have hlocks := B.notSynchronized
  subst hsz
  have hN : bw_N (fun _ => True) [adPF a0, adCells a1, adCells a2] := hN0
  generalize hAe : (fun _ : Nat => True) = A at hN
  have hA : ∀ q : Nat, s.heap.size ≤ q → A q := fun q _ => by rw [← hAe]; trivial
  have hS : s.heap = s.heap ∧ ([] : List Loc) = [] := ⟨rfl, rfl⟩
  have hl := lv_entry ([.ref (a0 0), .int x1, .int x2]) (n := 5) (Nat.le_of_ble_eq_true rfl)
  rw [lg_entry_eq]
  generalize (lg_sl ([.ref (a0 0), .int x1, .int x2]) ++ List.replicate (5 - (lg_sl ([.ref (a0 0), .int x1, .int x2])).length) Slot.unset).toArray = ls at hl ⊢
  have hl : lv_has ls 5 [(0, .ref (a0 0)), (1, .int x1), (2, .int x2)] := hl
  have C0 : cx wsAll vwCl nx p s m [.ref (a0 0), .int x1, .int x2].toArray meth c (dC, dI) (tyA ct) b_PF_differs 5 (some .int) R_PF A [adPF a0, adCells a1, adCells a2] := ⟨hx, hb, hr, hml, hown, hlocks, hts, hK, hN, hA, hnx⟩
  have h := hF
  rw [F_PF_differs] at h
  refine lv_aload_n hx hb d_PF_differs_0 rfl (lv_at hl 0 rfl) ?_
  obtain ⟨k_2, u_3, hG1, h⟩ := bind2_some h
  by_cases hk4 : k_2 = 0
  · subst hk4
    have h := ite_t rfl h
    refine bw_callR (va_runV (As := []) (rest := []) ⟨hx, hb, hml, hown, hts⟩ (c_PF_demandWorkedOut l ct dC dI a0 r0_0 r0_1 r0_4 (a1 0) r0_6 v0 _ o0 hG1) (cwV 0 hts g_PF_125 rfl rfl rfl (by decide +kernel) ⟨Nat.le_of_ble_eq_true rfl, Nat.le_of_ble_eq_true rfl⟩) ⟨bw_blind nx_call, va_recv hK (hP 0 _ rfl) (ci := 5) (q0 := 0) rfl rfl, fun U hU hW => ⟨rfl, by rw [hU], by rw [hU]; exact hP.sub [0] rfl, va_K.moved hW.alike hK, (hN.sub [0] (by decide) rfl).weaken (fun _ _ => trivial), nx_warm hW hnx⟩⟩ rfl rfl hl.1 rfl (Nat.le_of_ble_eq_true rfl) d_PF_differs_1 ⟨Nat.le_of_ble_eq_true rfl, Nat.le_of_ble_eq_true rfl⟩) ?_
    refine lv_iload_n hx hb d_PF_differs_4 rfl (lv_at hl 1 rfl) ?_
    refine lv_aload_n hx hb d_PF_differs_5 rfl (lv_at hl 0 rfl) ?_
    refine va_get (D := (dC, dI)) (ci := 5) (v := .int (g32 o0 8 0)) (C := R_PF) (T := T_PF) (N := 10) hx hb hts in_PF hown hK (hP 0 _ rfl) 0 rfl rfl 8 (by decide) (hts _ fl_PF_51) (fun _ h9 => h9) rfl d_PF_differs_6 ?_
    obtain ⟨k_6, u_7, hG5, h⟩ := bind2_some h
    by_cases hk8 : k_6 = 0
    · subst hk8
      have h := ite_t rfl h
      refine bw_callR (va_runS (As := [.int x1, .int (g32 o0 8 0)]) (rest := []) ⟨hx, hb, hml, hown, hts⟩ (c_PF_demandIndex l ct dC dI _ x1 (g32 o0 8 0) hG5) (cwS 2 hts g_PF_85 rfl rfl rfl (by decide +kernel) ⟨Nat.le_of_ble_eq_true rfl, Nat.le_of_ble_eq_true rfl⟩) ⟨bw_blind nx_call, fun U hU hW => ⟨rfl, by rw [hU], by rw [hU]; exact hP.sub [] rfl, va_K.moved hW.alike hK, (hN.sub [] (by decide) rfl).weaken (fun _ _ => trivial), nx_warm hW hnx⟩⟩ rfl rfl hl.1 rfl (Nat.le_of_ble_eq_true rfl) d_PF_differs_9 ⟨Nat.le_of_ble_eq_true rfl, Nat.le_of_ble_eq_true rfl⟩) ?_
      refine lv_iload_n hx hb d_PF_differs_12 rfl (lv_at hl 2 rfl) ?_
      obtain ⟨k_10, u_11, hG9, h⟩ := bind2_some h
      by_cases hk12 : k_10 = 0
      · subst hk12
        have h := ite_t rfl h
        refine bw_callR (va_runS (As := [.int x2]) (rest := []) ⟨hx, hb, hml, hown, hts⟩ (c_PF_demandNotNegative l ct dC dI _ x2 hG9) (cwS 1 hts g_PF_74 rfl rfl rfl (by decide +kernel) ⟨Nat.le_of_ble_eq_true rfl, Nat.le_of_ble_eq_true rfl⟩) ⟨bw_blind nx_call, fun U hU hW => ⟨rfl, by rw [hU], by rw [hU]; exact hP.sub [] rfl, va_K.moved hW.alike hK, (hN.sub [] (by decide) rfl).weaken (fun _ _ => trivial), nx_warm hW hnx⟩⟩ rfl rfl hl.1 rfl (Nat.le_of_ble_eq_true rfl) d_PF_differs_13 ⟨Nat.le_of_ble_eq_true rfl, Nat.le_of_ble_eq_true rfl⟩) ?_
        have h := pln_some h
        refine lv_iconst (v := 0) hx hb d_PF_differs_16 (by decide) ?_
        refine lv_istore_n (lv' := [(3, .int (0 : Int32)), (0, .ref (a0 0)), (1, .int x1), (2, .int x2)]) hx hb d_PF_differs_17 rfl hl (by decide) rfl (fun ls hl => ?_)
        refine lv_iconst (v := 0) hx hb d_PF_differs_18 (by decide) ?_
        refine lv_istore (lv' := [(4, .int (0 : Int32)), (3, .int (0 : Int32)), (0, .ref (a0 0)), (1, .int x1), (2, .int x2)]) hx hb d_PF_differs_19 hl (by decide) rfl (fun ls hl => ?_)
        exact k_PF_differs_21 C0 fuel x1 x2 (0 : Int32) (0 : Int32) _ _ _ hP hS (lv_sub hl [2, 3, 4, 1, 0] rfl) hv h
      · have h := ite_f hk12 h
        exact absurd (thr_eq h) hk12
    · have h := ite_f hk8 h
      exact absurd (thr_eq h) hk8
  · have h := ite_f hk4 h
    exact absurd (thr_eq h) hk4
abbrev rmx_PF_differs : Room := { frames := 7, cells := 1, slots := 6, locals := 121 }
set_option maxHeartbeats 4000000 in
set_option maxRecDepth 100000 in
theorem x_PF_differs (l : Launch) (hl0 : l.stackTraces = false) (ct dC : Nat → ClassId) (dI : Nat → Nat → Nat) (a0 a1 a2 : Nat → Nat) (r0_0 : Nat) (r0_1 : Nat) (r0_4 : Nat) (r0_6 : Nat) (v0 : Nat → Nat) (sz : Nat) (x1 : Int32) (x2 : Int32) (o0 o1 o2 : Ob) (k : Nat) (r : Int32) (hF : F_PF_differs x1 x2 o0 o1 o2 = some (k, r)) (hk : ¬ k = 0) : MetT l y_PF_differs ws_PF_differs rmx_PF_differs (bw_Pc [.ref (a0 0), .int x1, .int x2] (dC, dI) vwCl (tyA ct) [wPF ct a0 r0_0 r0_1 r0_4 (a1 0) r0_6 v0 o0, wCells ct a1 o1, wCells ct a2 o2] sz thn) (bt_Q (exN k)) 1 6 := by
  refine MetT.ofW (cc := b_PF_differs) (maxL := 5) (ret := (some .int)) (by decide) rfl ?_
  intro p e s m args below meth c s₁ B hml hv
  obtain ⟨rfl, hsz, hP, hK, hN0, hnx, hth⟩ := hv
  have hx := B.exec
  have hb := B.bytes
  have hr := B.returns
  have hts : ∀ w ∈ wsAll, w.before [.ref (a0 0), .int x1, .int x2].toArray s = true := fun w h9 => atoms_spec (ws := ws_PF_differs) B.pre w (List.mem_cons_of_mem _ h9)
  have hex : c.exceptionTable.isEmpty = true := B.noHandlers (atoms_spec (ws := ws_PF_differs) B.pre _ List.mem_cons_self)
  have hown : s.vm.findClass R_PF = some m.cls := findClass_of_methodNamed B.named
  have hlocks := B.notSynchronized
  subst hsz
  have hN : bw_N (fun _ => True) [adPF a0, adCells a1, adCells a2] := hN0
  have hS : s.heap = s.heap ∧ ([] : List Loc) = [] := ⟨rfl, rfl⟩
  have hl := lv_entry ([.ref (a0 0), .int x1, .int x2]) (n := 5) (Nat.le_of_ble_eq_true rfl)
  rw [lg_entry_eq]
  generalize (lg_sl ([.ref (a0 0), .int x1, .int x2]) ++ List.replicate (5 - (lg_sl ([.ref (a0 0), .int x1, .int x2])).length) Slot.unset).toArray = ls at hl ⊢
  have hl : lv_has ls 5 [(0, .ref (a0 0)), (1, .int x1), (2, .int x2)] := hl
  have h := hF
  rw [F_PF_differs] at h
  refine lv_aload_n hx hb d_PF_differs_0 rfl (lv_at hl 0 rfl) ?_
  obtain ⟨k_2, u_3, hG1, h⟩ := bind2_some h
  by_cases hk4 : k_2 = 0
  · subst hk4
    have h := ite_t rfl h
    refine bw_callR (va_runV (As := []) (rest := []) ⟨hx, hb, hml, hown, hts⟩ (c_PF_demandWorkedOut l ct dC dI a0 r0_0 r0_1 r0_4 (a1 0) r0_6 v0 _ o0 hG1) (cwV 0 hts g_PF_125 rfl rfl rfl (by decide +kernel) ⟨Nat.le_of_ble_eq_true rfl, Nat.le_of_ble_eq_true rfl⟩) ⟨bw_blind nx_call, va_recv hK (hP 0 _ rfl) (ci := 5) (q0 := 0) rfl rfl, fun U hU hW => ⟨rfl, by rw [hU], by rw [hU]; exact hP.sub [0] rfl, va_K.moved hW.alike hK, (hN.sub [0] (by decide) rfl).weaken (fun _ _ => trivial), nx_warm hW hnx⟩⟩ rfl rfl hl.1 rfl (Nat.le_of_ble_eq_true rfl) d_PF_differs_1 ⟨Nat.le_of_ble_eq_true rfl, Nat.le_of_ble_eq_true rfl⟩) ?_
    refine lv_iload_n hx hb d_PF_differs_4 rfl (lv_at hl 1 rfl) ?_
    refine lv_aload_n hx hb d_PF_differs_5 rfl (lv_at hl 0 rfl) ?_
    refine va_get (D := (dC, dI)) (ci := 5) (v := .int (g32 o0 8 0)) (C := R_PF) (T := T_PF) (N := 10) hx hb hts in_PF hown hK (hP 0 _ rfl) 0 rfl rfl 8 (by decide) (hts _ fl_PF_51) (fun _ h9 => h9) rfl d_PF_differs_6 ?_
    obtain ⟨k_6, u_7, hG5, h⟩ := bind2_some h
    by_cases hk8 : k_6 = 0
    · subst hk8
      have h := ite_t rfl h
      refine bw_callR (va_runS (As := [.int x1, .int (g32 o0 8 0)]) (rest := []) ⟨hx, hb, hml, hown, hts⟩ (c_PF_demandIndex l ct dC dI _ x1 (g32 o0 8 0) hG5) (cwS 2 hts g_PF_85 rfl rfl rfl (by decide +kernel) ⟨Nat.le_of_ble_eq_true rfl, Nat.le_of_ble_eq_true rfl⟩) ⟨bw_blind nx_call, fun U hU hW => ⟨rfl, by rw [hU], by rw [hU]; exact hP.sub [] rfl, va_K.moved hW.alike hK, (hN.sub [] (by decide) rfl).weaken (fun _ _ => trivial), nx_warm hW hnx⟩⟩ rfl rfl hl.1 rfl (Nat.le_of_ble_eq_true rfl) d_PF_differs_9 ⟨Nat.le_of_ble_eq_true rfl, Nat.le_of_ble_eq_true rfl⟩) ?_
      refine lv_iload_n hx hb d_PF_differs_12 rfl (lv_at hl 2 rfl) ?_
      obtain ⟨k_10, u_11, hG9, h⟩ := bind2_some h
      by_cases hk12 : k_10 = 0
      · subst hk12
        have h := ite_t rfl h
        refine bw_callR (va_runS (As := [.int x2]) (rest := []) ⟨hx, hb, hml, hown, hts⟩ (c_PF_demandNotNegative l ct dC dI _ x2 hG9) (cwS 1 hts g_PF_74 rfl rfl rfl (by decide +kernel) ⟨Nat.le_of_ble_eq_true rfl, Nat.le_of_ble_eq_true rfl⟩) ⟨bw_blind nx_call, fun U hU hW => ⟨rfl, by rw [hU], by rw [hU]; exact hP.sub [] rfl, va_K.moved hW.alike hK, (hN.sub [] (by decide) rfl).weaken (fun _ _ => trivial), nx_warm hW hnx⟩⟩ rfl rfl hl.1 rfl (Nat.le_of_ble_eq_true rfl) d_PF_differs_13 ⟨Nat.le_of_ble_eq_true rfl, Nat.le_of_ble_eq_true rfl⟩) ?_
        exact absurd (pln_0 h) hk
      · have h := ite_f hk12 h
        have e9 := (res2 h).1
        rw [e9]
        exact bt_outS (As := [.int x2]) (rest := []) ⟨hx, hb, hml, hown, hts⟩ (x_PF_demandNotNegative l hl0 ct dC dI _ x2 k_10 hG9 hk12) (cwS 1 hts g_PF_74 rfl rfl rfl (by decide +kernel) ⟨Nat.le_of_ble_eq_true rfl, Nat.le_of_ble_eq_true rfl⟩) ⟨bw_blind thx_call, fun U hU hW => ⟨rfl, by rw [hU], by rw [hU]; exact hP.sub [] rfl, va_K.moved hW.alike hK, (hN.sub [] (by decide) rfl).weaken (fun _ _ => trivial), ⟨nx_warm hW hnx, thx_warm hW hU hth⟩⟩⟩ rfl hl.1 rfl (Nat.le_of_ble_eq_true rfl) d_PF_differs_13 hex hlocks ⟨Nat.le_of_ble_eq_true rfl, Nat.le_of_ble_eq_true rfl⟩
    · have h := ite_f hk8 h
      have e9 := (res2 h).1
      rw [e9]
      exact bt_outS (As := [.int x1, .int (g32 o0 8 0)]) (rest := []) ⟨hx, hb, hml, hown, hts⟩ (x_PF_demandIndex l hl0 ct dC dI _ x1 (g32 o0 8 0) k_6 hG5 hk8) (cwS 2 hts g_PF_85 rfl rfl rfl (by decide +kernel) ⟨Nat.le_of_ble_eq_true rfl, Nat.le_of_ble_eq_true rfl⟩) ⟨bw_blind thx_call, fun U hU hW => ⟨rfl, by rw [hU], by rw [hU]; exact hP.sub [] rfl, va_K.moved hW.alike hK, (hN.sub [] (by decide) rfl).weaken (fun _ _ => trivial), ⟨nx_warm hW hnx, thx_warm hW hU hth⟩⟩⟩ rfl hl.1 rfl (Nat.le_of_ble_eq_true rfl) d_PF_differs_9 hex hlocks ⟨Nat.le_of_ble_eq_true rfl, Nat.le_of_ble_eq_true rfl⟩
  · have h := ite_f hk4 h
    have e9 := (res2 h).1
    rw [e9]
    exact bt_outV (As := []) (rest := []) ⟨hx, hb, hml, hown, hts⟩ (x_PF_demandWorkedOut l hl0 ct dC dI a0 r0_0 r0_1 r0_4 (a1 0) r0_6 v0 _ o0 k_2 hG1 hk4) (cwV 0 hts g_PF_125 rfl rfl rfl (by decide +kernel) ⟨Nat.le_of_ble_eq_true rfl, Nat.le_of_ble_eq_true rfl⟩) ⟨bw_blind thx_call, va_recv hK (hP 0 _ rfl) (ci := 5) (q0 := 0) rfl rfl, fun U hU hW => ⟨rfl, by rw [hU], by rw [hU]; exact hP.sub [0] rfl, va_K.moved hW.alike hK, (hN.sub [0] (by decide) rfl).weaken (fun _ _ => trivial), ⟨nx_warm hW hnx, thx_warm hW hU hth⟩⟩⟩ rfl hl.1 rfl (Nat.le_of_ble_eq_true rfl) d_PF_differs_1 hex hlocks ⟨Nat.le_of_ble_eq_true rfl, Nat.le_of_ble_eq_true rfl⟩
