/-! PF.read: the texts may change places -/
abbrev b_PF_read : ByteArray := prog_1_method_3_code
def y_PF_read : MethodName := ⟨R_PF, "read", "()I"⟩
theorem cd_Reader_readCollected : Cond.code ⟨"PartFormulas$Reader", "readCollected", "()I"⟩ prog_3_method_3_code 3 (some .int) ∈ wsAll := wa_of 348 (by decide +kernel) (by decide +kernel)
theorem ml_PF_63 : Cond.methodLink "PartFormulas" 63 ⟨"PartFormulas$Reader", "readCollected", "()I"⟩ ∈ wsAll := wa_of 345 (by decide +kernel) (by decide +kernel)
theorem im_Reader_readCollected : Cond.instanceMethod ⟨"PartFormulas$Reader", "readCollected", "()I"⟩ ∈ wsAll := wa_of 346 (by decide +kernel) (by decide +kernel)
theorem se_Reader_readCollected : Cond.selects "PartFormulas$Reader" ⟨"PartFormulas$Reader", "readCollected", "()I"⟩ ⟨"PartFormulas$Reader", "readCollected", "()I"⟩ ∈ wsAll := wa_of 347 (by decide +kernel) (by decide +kernel)
theorem cd_Reader_exchange : Cond.code ⟨"PartFormulas$Reader", "exchange", "(LPartFormulas$Text;)LPartFormulas$Text;"⟩ prog_3_method_4_code 3 (some (.object "PartFormulas$Text")) ∈ wsAll := wa_of 587 (by decide +kernel) (by decide +kernel)
theorem ml_PF_67 : Cond.methodLink "PartFormulas" 67 ⟨"PartFormulas$Reader", "exchange", "(LPartFormulas$Text;)LPartFormulas$Text;"⟩ ∈ wsAll := wa_of 584 (by decide +kernel) (by decide +kernel)
theorem im_Reader_exchange : Cond.instanceMethod ⟨"PartFormulas$Reader", "exchange", "(LPartFormulas$Text;)LPartFormulas$Text;"⟩ ∈ wsAll := wa_of 585 (by decide +kernel) (by decide +kernel)
theorem se_Reader_exchange : Cond.selects "PartFormulas$Reader" ⟨"PartFormulas$Reader", "exchange", "(LPartFormulas$Text;)LPartFormulas$Text;"⟩ ⟨"PartFormulas$Reader", "exchange", "(LPartFormulas$Text;)LPartFormulas$Text;"⟩ ∈ wsAll := wa_of 586 (by decide +kernel) (by decide +kernel)
theorem d_PF_read_0 : decode b_PF_read 0 = .ok (.aload_n 0, 1) := by decide +kernel
theorem d_PF_read_1 : decode b_PF_read 1 = .ok (.getfield 12, 3) := by decide +kernel
theorem d_PF_read_4 : decode b_PF_read 4 = .ok (.invokevirtual 63, 3) := by decide +kernel
theorem d_PF_read_7 : decode b_PF_read 7 = .ok (.istore_n 1, 1) := by decide +kernel
theorem d_PF_read_8 : decode b_PF_read 8 = .ok (.iload_n 1, 1) := by decide +kernel
theorem d_PF_read_9 : decode b_PF_read 9 = .ok (.ifCond .lt 28, 3) := by decide +kernel
theorem d_PF_read_12 : decode b_PF_read 12 = .ok (.aload_n 0, 1) := by decide +kernel
theorem d_PF_read_13 : decode b_PF_read 13 = .ok (.aload_n 0, 1) := by decide +kernel
theorem d_PF_read_14 : decode b_PF_read 14 = .ok (.getfield 12, 3) := by decide +kernel
theorem d_PF_read_17 : decode b_PF_read 17 = .ok (.aload_n 0, 1) := by decide +kernel
theorem d_PF_read_18 : decode b_PF_read 18 = .ok (.getfield 19, 3) := by decide +kernel
theorem d_PF_read_21 : decode b_PF_read 21 = .ok (.invokevirtual 67, 3) := by decide +kernel
theorem d_PF_read_24 : decode b_PF_read 24 = .ok (.putfield 19, 3) := by decide +kernel
theorem d_PF_read_27 : decode b_PF_read 27 = .ok (.aload_n 0, 1) := by decide +kernel
theorem d_PF_read_28 : decode b_PF_read 28 = .ok (.iconst 1, 1) := by decide +kernel
theorem d_PF_read_29 : decode b_PF_read 29 = .ok (.putfield 23, 3) := by decide +kernel
theorem d_PF_read_32 : decode b_PF_read 32 = .ok (.aload_n 0, 1) := by decide +kernel
theorem d_PF_read_33 : decode b_PF_read 33 = .ok (.iconst 0, 1) := by decide +kernel
theorem d_PF_read_34 : decode b_PF_read 34 = .ok (.putfield 27, 3) := by decide +kernel
theorem d_PF_read_37 : decode b_PF_read 37 = .ok (.iload_n 1, 1) := by decide +kernel
theorem d_PF_read_38 : decode b_PF_read 38 = .ok (.ireturn, 1) := by decide +kernel
theorem g_PF_63 : GoodIn wsAll (wsV R_PF 63 R_Reader y_Reader_readCollected ws_Reader_readCollected) := gd_V ml_PF_63 im_Reader_readCollected se_Reader_readCollected ini_Reader cd_Reader_readCollected
theorem g_PF_67 : GoodIn wsAll (wsV R_PF 67 R_Reader y_Reader_exchange ws_Reader_exchange) := gd_V ml_PF_67 im_Reader_exchange se_Reader_exchange ini_Reader cd_Reader_exchange
def F_PF_read (o0 o1 o2 o3 : Ob) : Option (Int32 × Ob × Ob × Ob × Ob) :=
  bind4 (F_Reader_readCollected o1 o2 o3) (fun r n1 n2 n3 => some (r, (if r < 0 then o0 else (s32 (s32 o0 2 0 (1 : Int32)) 3 0 (0 : Int32))), n1, n2, n3))
abbrev ws_PF_read : List Cond := Cond.code y_PF_read b_PF_read 2 (some .int) :: wsAll
abbrev rm_PF_read : Room := { frames := 10, cells := 0, slots := 0, locals := 366 }
set_option maxHeartbeats 4000000 in
set_option maxRecDepth 100000 in
theorem c_PF_read_no (l : Launch) (ct dC : Nat → ClassId) (dI : Nat → Nat → Nat) (a0 a1 a2 a3 : Nat → Nat) (rT r4 r5 r6 : Nat) (v0 : Nat → Nat) (sz : Nat) (o0 o1 o2 o3 : Ob) (r : Int32) (n0 n1 n2 n3 : Ob) (hF : F_PF_read o0 o1 o2 o3 = some (r, n0, n1, n2, n3)) (hc : r < 0) : Met l y_PF_read ws_PF_read rm_PF_read (bw_Pc [.ref (a0 0)] (dC, dI) vwCl (tyA ct) [wPF ct a0 (a1 0) rT r4 r5 r6 v0 o0, wReader ct a1 (a2 0) o1, wText ct a2 (a3 0) o2, wSteps ct a3 o3] sz (nxs (bw_A [adPF a0, adReader a1, adText a2, adSteps a3] sz))) (bw_Q (dC, dI) vwCl (some (.int r)) [wPF ct a0 (a1 0) rT r4 r5 r6 v0 n0, wReader ct a1 (a2 0) n1, wText ct a2 (a3 0) n2, wSteps ct a3 n3] (bw_A [adPF a0, adReader a1, adText a2, adSteps a3] sz)) 0 0 (bw_A [adPF a0, adReader a1, adText a2, adSteps a3] sz) := by
  refine Met.ofW (cc := b_PF_read) (maxL := 2) (ret := (some .int)) (by decide) rfl ?_
  intro p e s m args below meth c s₁ B hml hv
  obtain ⟨rfl, hsz, hP, hK, hN0, hnx, hsx⟩ := hv
  have hx := B.exec
  have hb := B.bytes
  have hr := B.returns
  have hts : ∀ w ∈ wsAll, w.before [.ref (a0 0)].toArray s = true := fun w h9 => atoms_spec (ws := ws_PF_read) B.pre w (List.mem_cons_of_mem _ h9)
  have hown : s.vm.findClass R_PF = some m.cls := findClass_of_methodNamed B.named
  have hlocks := B.notSynchronized
  subst hsz
  have hN : bw_N (bw_A [adPF a0, adReader a1, adText a2, adSteps a3] s.heap.size) [adPF a0, adReader a1, adText a2, adSteps a3] := hN0.self s.heap.size
  generalize hAe : bw_A [adPF a0, adReader a1, adText a2, adSteps a3] s.heap.size = A at hsx hN ⊢
  have hA : ∀ q : Nat, s.heap.size ≤ q → A q := fun q h => by rw [← hAe]; exact Or.inr h
  have hS : va_S A s.heap s.heap [] := va_S.rf
  have hl := lv_entry ([.ref (a0 0)]) (n := 2) (Nat.le_of_ble_eq_true rfl)
  rw [lg_entry_eq]
  generalize (lg_sl ([.ref (a0 0)]) ++ List.replicate (2 - (lg_sl ([.ref (a0 0)])).length) Slot.unset).toArray = ls at hl ⊢
  have hl : lv_has ls 2 [(0, .ref (a0 0))] := hl
  have h := hF
  rw [F_PF_read] at h
  obtain ⟨r1, m1, m2, m3, hG, h⟩ := bind4_some h
  obtain ⟨rfl, rfl, rfl, rfl, rfl⟩ := res5 h
  refine lv_aload_n hx hb d_PF_read_0 rfl (lv_at hl 0 rfl) ?_
  refine va_get (D := (dC, dI)) (ci := 5) (v := .ref (a1 0)) (C := R_PF) (T := T_PF) (N := 10) hx hb hts in_PF hown hK (hP 0 _ rfl) 0 rfl rfl 0 (by decide) (hts _ fl_PF_12) (fun _ h9 => h9) rfl d_PF_read_1 ?_
  refine bw_call (Lc := [wReader ct a1 (a2 0) o1, wText ct a2 (a3 0) o2, wSteps ct a3 o3]) (Lc' := [wReader ct a1 (a2 0) n1, wText ct a2 (a3 0) n2, wSteps ct a3 n3]) (L' := [wPF ct a0 (a1 0) rT r4 r5 r6 v0 o0, wReader ct a1 (a2 0) n1, wText ct a2 (a3 0) n2, wSteps ct a3 n3]) [1, 2, 3] (va_runV (As := []) (rest := []) ⟨hx, hb, hml, hown, hts⟩ (c_Reader_readCollected l ct dC dI a1 a2 a3 _ o1 o2 o3 r n1 n2 n3 hG) (cwV 0 hts g_PF_63 rfl rfl rfl (by decide +kernel) ⟨Nat.le_of_ble_eq_true rfl, Nat.le_of_ble_eq_true rfl⟩) ⟨bw_blind nxs_call, va_recv hK (hP 1 _ rfl) (ci := 3) (q0 := 0) rfl rfl, fun U hU hW => ⟨rfl, by rw [hU], by rw [hU]; exact hP.sub [1, 2, 3] rfl, va_K.moved hW.alike hK, (hN.sub [1, 2, 3] (by decide) rfl).weaken (fun _ _ => trivial), ⟨nx_warm hW hnx, sx_call hsx hS hN hA [1, 2, 3] rfl hU hW⟩⟩⟩ rfl rfl hl.1 rfl (Nat.le_of_ble_eq_true rfl) d_PF_read_4 ⟨Nat.le_of_ble_eq_true rfl, Nat.le_of_ble_eq_true rfl⟩) hP hN hS hA rfl rfl rfl (fun H locs hP hS => ?_)
  refine lv_istore_n (lv' := [(1, .int r), (0, .ref (a0 0))]) hx hb d_PF_read_7 rfl hl (by decide) rfl (fun ls hl => ?_)
  refine lv_iload_n hx hb d_PF_read_8 rfl (lv_at hl 0 rfl) ?_
  refine lv_if_lt (tgt := 37) hx hb d_PF_read_9 (by decide) (fun c1 => ?_) (fun c1 => absurd hc c1)
  rw [if_pos hc]
  refine lv_iload_n hx hb d_PF_read_37 rfl (lv_at hl 0 rfl) ?_
  exact W.iret hx hb hr (fun t ht hW => ⟨rfl, by rw [ht]; exact hP, hS.F ht⟩) hS.2.2 d_PF_read_38
set_option maxHeartbeats 4000000 in
set_option maxRecDepth 100000 in
theorem c_PF_read_yes (l : Launch) (ct dC : Nat → ClassId) (dI : Nat → Nat → Nat) (a0 a1 a2 a3 : Nat → Nat) (rT r4 r5 r6 : Nat) (v0 : Nat → Nat) (sz : Nat) (o0 o1 o2 o3 : Ob) (r : Int32) (n0 n1 n2 n3 : Ob) (hF : F_PF_read o0 o1 o2 o3 = some (r, n0, n1, n2, n3)) (hc : ¬ r < 0) : Met l y_PF_read ws_PF_read rm_PF_read (bw_Pc [.ref (a0 0)] (dC, dI) vwCl (tyA ct) [wPF ct a0 (a1 0) rT r4 r5 r6 v0 o0, wReader ct a1 (a2 0) o1, wText ct a2 (a3 0) o2, wSteps ct a3 o3] sz (nxs (bw_A [adPF a0, adReader a1, adText a2, adSteps a3] sz))) (bw_Q (dC, dI) vwCl (some (.int r)) [wPF ct a0 (a1 0) (a2 0) r4 r5 r6 v0 n0, wReader ct a1 rT n1, wText ct a2 (a3 0) n2, wSteps ct a3 n3] (bw_A [adPF a0, adReader a1, adText a2, adSteps a3] sz)) 0 0 (bw_A [adPF a0, adReader a1, adText a2, adSteps a3] sz) := by
  refine Met.ofW (cc := b_PF_read) (maxL := 2) (ret := (some .int)) (by decide) rfl ?_
  intro p e s m args below meth c s₁ B hml hv
  obtain ⟨rfl, hsz, hP, hK, hN0, hnx, hsx⟩ := hv
  have hx := B.exec
  have hb := B.bytes
  have hr := B.returns
  have hts : ∀ w ∈ wsAll, w.before [.ref (a0 0)].toArray s = true := fun w h9 => atoms_spec (ws := ws_PF_read) B.pre w (List.mem_cons_of_mem _ h9)
  have hown : s.vm.findClass R_PF = some m.cls := findClass_of_methodNamed B.named
  have hlocks := B.notSynchronized
  subst hsz
  have hN : bw_N (bw_A [adPF a0, adReader a1, adText a2, adSteps a3] s.heap.size) [adPF a0, adReader a1, adText a2, adSteps a3] := hN0.self s.heap.size
  generalize hAe : bw_A [adPF a0, adReader a1, adText a2, adSteps a3] s.heap.size = A at hsx hN ⊢
  have hA : ∀ q : Nat, s.heap.size ≤ q → A q := fun q h => by rw [← hAe]; exact Or.inr h
  have hS : va_S A s.heap s.heap [] := va_S.rf
  have hl := lv_entry ([.ref (a0 0)]) (n := 2) (Nat.le_of_ble_eq_true rfl)
  rw [lg_entry_eq]
  generalize (lg_sl ([.ref (a0 0)]) ++ List.replicate (2 - (lg_sl ([.ref (a0 0)])).length) Slot.unset).toArray = ls at hl ⊢
  have hl : lv_has ls 2 [(0, .ref (a0 0))] := hl
  have h := hF
  rw [F_PF_read] at h
  obtain ⟨r1, m1, m2, m3, hG, h⟩ := bind4_some h
  obtain ⟨rfl, rfl, rfl, rfl, rfl⟩ := res5 h
  refine lv_aload_n hx hb d_PF_read_0 rfl (lv_at hl 0 rfl) ?_
  refine va_get (D := (dC, dI)) (ci := 5) (v := .ref (a1 0)) (C := R_PF) (T := T_PF) (N := 10) hx hb hts in_PF hown hK (hP 0 _ rfl) 0 rfl rfl 0 (by decide) (hts _ fl_PF_12) (fun _ h9 => h9) rfl d_PF_read_1 ?_
  refine bw_call (Lc := [wReader ct a1 (a2 0) o1, wText ct a2 (a3 0) o2, wSteps ct a3 o3]) (Lc' := [wReader ct a1 (a2 0) n1, wText ct a2 (a3 0) n2, wSteps ct a3 n3]) (L' := [wPF ct a0 (a1 0) rT r4 r5 r6 v0 o0, wReader ct a1 (a2 0) n1, wText ct a2 (a3 0) n2, wSteps ct a3 n3]) [1, 2, 3] (va_runV (As := []) (rest := []) ⟨hx, hb, hml, hown, hts⟩ (c_Reader_readCollected l ct dC dI a1 a2 a3 _ o1 o2 o3 r n1 n2 n3 hG) (cwV 0 hts g_PF_63 rfl rfl rfl (by decide +kernel) ⟨Nat.le_of_ble_eq_true rfl, Nat.le_of_ble_eq_true rfl⟩) ⟨bw_blind nxs_call, va_recv hK (hP 1 _ rfl) (ci := 3) (q0 := 0) rfl rfl, fun U hU hW => ⟨rfl, by rw [hU], by rw [hU]; exact hP.sub [1, 2, 3] rfl, va_K.moved hW.alike hK, (hN.sub [1, 2, 3] (by decide) rfl).weaken (fun _ _ => trivial), ⟨nx_warm hW hnx, sx_call hsx hS hN hA [1, 2, 3] rfl hU hW⟩⟩⟩ rfl rfl hl.1 rfl (Nat.le_of_ble_eq_true rfl) d_PF_read_4 ⟨Nat.le_of_ble_eq_true rfl, Nat.le_of_ble_eq_true rfl⟩) hP hN hS hA rfl rfl rfl (fun H locs hP hS => ?_)
  refine lv_istore_n (lv' := [(1, .int r), (0, .ref (a0 0))]) hx hb d_PF_read_7 rfl hl (by decide) rfl (fun ls hl => ?_)
  refine lv_iload_n hx hb d_PF_read_8 rfl (lv_at hl 0 rfl) ?_
  refine lv_if_lt (tgt := 37) hx hb d_PF_read_9 (by decide) (fun c1 => absurd c1 hc) (fun c1 => ?_)
  rw [if_neg hc]
  refine lv_aload_n hx hb d_PF_read_12 rfl (lv_at hl 1 rfl) ?_
  refine lv_aload_n hx hb d_PF_read_13 rfl (lv_at hl 1 rfl) ?_
  refine va_get (D := (dC, dI)) (ci := 5) (v := .ref (a1 0)) (C := R_PF) (T := T_PF) (N := 10) hx hb hts in_PF hown hK (hP 0 _ rfl) 0 rfl rfl 0 (by decide) (hts _ fl_PF_12) (fun _ h9 => h9) rfl d_PF_read_14 ?_
  refine lv_aload_n hx hb d_PF_read_17 rfl (lv_at hl 1 rfl) ?_
  refine va_get (D := (dC, dI)) (ci := 5) (v := .ref rT) (C := R_PF) (T := T_PF) (N := 10) hx hb hts in_PF hown hK (hP 0 _ rfl) 0 rfl rfl 1 (by decide) (hts _ fl_PF_19) (fun _ h9 => h9) rfl d_PF_read_18 ?_
  refine bw_call (Lc := [wReader ct a1 (a2 0) n1]) (Lc' := [wReader ct a1 rT n1]) (L' := [wPF ct a0 (a1 0) rT r4 r5 r6 v0 o0, wReader ct a1 rT n1, wText ct a2 (a3 0) n2, wSteps ct a3 n3]) [1] (va_runV (As := [.ref rT]) (rest := [.ref (a0 0)]) ⟨hx, hb, hml, hown, hts⟩ (c_Reader_exchange l ct dC dI a1 (a2 0) rT _ n1) (cwV 1 hts g_PF_67 rfl rfl rfl (by decide +kernel) ⟨Nat.le_of_ble_eq_true rfl, Nat.le_of_ble_eq_true rfl⟩) ⟨bw_blind nx_call, va_recv hK (hP 1 _ rfl) (ci := 3) (q0 := 0) rfl rfl, fun U hU hW => ⟨rfl, by rw [hU], by rw [hU]; exact hP.sub [1] rfl, va_K.moved hW.alike hK, (hN.sub [1] (by decide) rfl).weaken (fun _ _ => trivial), nx_warm hW hnx⟩⟩ rfl rfl hl.1 rfl (Nat.le_of_ble_eq_true rfl) d_PF_read_21 ⟨Nat.le_of_ble_eq_true rfl, Nat.le_of_ble_eq_true rfl⟩) hP hN hS hA rfl rfl rfl (fun H locs hP hS => ?_)
  refine bw_put (D := (dC, dI)) (ci := 5) (v := .ref (a2 0)) (ty := .object "PartFormulas$Text") (C := R_PF) (T := T_PF) (N := 10) hx hb hts in_PF ty_PF tyok_PF nm_PF hown hK hP hN hS 0 0 rfl rfl rfl 1 (by decide) (hts _ fl_PF_19) (fun _ h9 => h9) rfl (by decide +kernel) rfl rfl (Nat.le_of_ble_eq_true rfl) d_PF_read_24 (fun H locs hP hS => ?_)
  have hP : bw_P (dC, dI) vwCl [wPF ct a0 (a1 0) (a2 0) r4 r5 r6 v0 o0, wReader ct a1 rT n1, wText ct a2 (a3 0) n2, wSteps ct a3 n3] H := hP
  refine lv_aload_n hx hb d_PF_read_27 rfl (lv_at hl 1 rfl) ?_
  refine lv_iconst (v := 1) hx hb d_PF_read_28 (by decide) ?_
  refine pt_PF_2 hx hb hts hown hK hP hN hS 0 rfl (hts _ fl_PF_23) rfl rfl d_PF_read_29 (fun H locs hP hS => ?_)
  have hP : bw_P (dC, dI) vwCl [wPF ct a0 (a1 0) (a2 0) r4 r5 r6 v0 (s32 o0 2 0 (1 : Int32)), wReader ct a1 rT n1, wText ct a2 (a3 0) n2, wSteps ct a3 n3] H := hP
  refine lv_aload_n hx hb d_PF_read_32 rfl (lv_at hl 1 rfl) ?_
  refine lv_iconst (v := 0) hx hb d_PF_read_33 (by decide) ?_
  refine pt_PF_3 hx hb hts hown hK hP hN hS 0 rfl (hts _ fl_PF_27) rfl rfl d_PF_read_34 (fun H locs hP hS => ?_)
  have hP : bw_P (dC, dI) vwCl [wPF ct a0 (a1 0) (a2 0) r4 r5 r6 v0 (s32 (s32 o0 2 0 (1 : Int32)) 3 0 (0 : Int32)), wReader ct a1 rT n1, wText ct a2 (a3 0) n2, wSteps ct a3 n3] H := hP
  refine lv_iload_n hx hb d_PF_read_37 rfl (lv_at hl 0 rfl) ?_
  exact W.iret hx hb hr (fun t ht hW => ⟨rfl, by rw [ht]; exact hP, hS.F ht⟩) hS.2.2 d_PF_read_38
