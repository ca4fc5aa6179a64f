/-! THE LAW: its entry -/
theorem cl_Law_8 : Cond.classLink "PartFormulasLaw" 8 "PartFormulas" ∈ wsAll := wa_of 95 (by decide +kernel) (by decide +kernel)
theorem ins_PF : Cond.instantiable "PartFormulas" 10 ∈ wsAll := wa_of 96 (by decide +kernel) (by decide +kernel)
theorem cd_PF_init : Cond.code ⟨"PartFormulas", "<init>", "()V"⟩ prog_1_method_1_code 2 (none : Option Jvm.ClassFile.FieldType) ∈ wsAll := wa_of 99 (by decide +kernel) (by decide +kernel)
theorem im_PF_init : Cond.instanceMethod ⟨"PartFormulas", "<init>", "()V"⟩ ∈ wsAll := wa_of 98 (by decide +kernel) (by decide +kernel)
theorem ml_Law_64 : Cond.methodLink "PartFormulasLaw" 64 ⟨"PartFormulas", "<init>", "()V"⟩ ∈ wsAll := wa_of 97 (by decide +kernel) (by decide +kernel)
theorem cl_Law_65 : Cond.classLink "PartFormulasLaw" 65 "PartFormulasModel" ∈ wsAll := wa_of 909 (by decide +kernel) (by decide +kernel)
theorem ins_Mod : Cond.instantiable "PartFormulasModel" 36 ∈ wsAll := wa_of 910 (by decide +kernel) (by decide +kernel)
theorem cd_Mod_init : Cond.code ⟨"PartFormulasModel", "<init>", "()V"⟩ prog_8_method_1_code 2 (none : Option Jvm.ClassFile.FieldType) ∈ wsAll := wa_of 913 (by decide +kernel) (by decide +kernel)
theorem im_Mod_init : Cond.instanceMethod ⟨"PartFormulasModel", "<init>", "()V"⟩ ∈ wsAll := wa_of 912 (by decide +kernel) (by decide +kernel)
theorem ml_Law_67 : Cond.methodLink "PartFormulasLaw" 67 ⟨"PartFormulasModel", "<init>", "()V"⟩ ∈ wsAll := wa_of 911 (by decide +kernel) (by decide +kernel)
theorem d_Law_law_0 : decode b_Law_law 0 = .ok (.new 8, 3) := by decide +kernel
theorem d_Law_law_3 : decode b_Law_law 3 = .ok (.dup, 1) := by decide +kernel
theorem d_Law_law_4 : decode b_Law_law 4 = .ok (.invokespecial 64, 3) := by decide +kernel
theorem d_Law_law_7 : decode b_Law_law 7 = .ok (.astore_n 1, 1) := by decide +kernel
theorem d_Law_law_8 : decode b_Law_law 8 = .ok (.new 65, 3) := by decide +kernel
theorem d_Law_law_11 : decode b_Law_law 11 = .ok (.dup, 1) := by decide +kernel
theorem d_Law_law_12 : decode b_Law_law 12 = .ok (.invokespecial 67, 3) := by decide +kernel
theorem d_Law_law_15 : decode b_Law_law 15 = .ok (.astore_n 2, 1) := by decide +kernel
theorem d_Law_law_16 : decode b_Law_law 16 = .ok (.iconst 1, 1) := by decide +kernel
theorem d_Law_law_17 : decode b_Law_law 17 = .ok (.newarray .long, 2) := by decide +kernel
theorem d_Law_law_19 : decode b_Law_law 19 = .ok (.astore_n 3, 1) := by decide +kernel
theorem d_Law_law_20 : decode b_Law_law 20 = .ok (.iconst 0, 1) := by decide +kernel
theorem d_Law_law_21 : decode b_Law_law 21 = .ok (.istore 4, 2) := by decide +kernel
set_option maxHeartbeats 8000000 in
set_option maxRecDepth 100000 in
theorem law_start {p : Program} {l : Launch} {e : Env} {s : State} {m : MethodId} {below : List Frame} {meth : Method} {c : Code} {b L : Nat} {xs : Nat → Int32} {ct dC : Nat → ClassId} {dI : Nat → Nat → Nat} (C0 : lcx p s m meth c b L xs (fun q : Nat => s.heap.size ≤ q) ct dC dI) (hao : va_AO "PartFormulas$Cells" s) (hl0 : l.stackTraces = false) (hF : F_Law_law_23 L xs 520 0 ob0 ob0 ob0 ob0 ob0 ob0 oReckoner0 ob0 ob0 ob0 ob0 ob0 ob0 oMod0 ob0 = some ()) : W p l e room_1 s m #[Value.ref b] below meth c s.heap [] 0 0 (lw_Z below #[Value.ref b] s) (entryFrame m ([Value.ref b] : List Value).toArray 8) := by
  obtain ⟨hx, hb, hr, hml, hown, hlocks, hts, hK, hA, hAs, hX, hbl, hnx, hthy, hex9, hsx⟩ := id C0
  have hS : va_S (fun q : Nat => s.heap.size ≤ q) s.heap s.heap [] := va_S.rf
  have hP : va_P (dC, dI) vwCl [] s.heap := fun k q h => by simp at h
  have hD : va_D (fun q : Nat => s.heap.size ≤ q) [] := ⟨fun i j p q h => by simp at h, fun k q h => by simp at h⟩
  have hl := lv_entry ([.ref b]) (n := 8) (Nat.le_of_ble_eq_true rfl)
  rw [lg_entry_eq]
  generalize (lg_sl ([.ref b]) ++ List.replicate (8 - (lg_sl ([.ref b])).length) Slot.unset).toArray = ls at hl ⊢
  have hl : lv_has ls 8 [(0, .ref b)] := hl
  refine va_new (ci := 5) (fs := [.null, .null, .int 0, .int 0, .null, .null, .null, .null, .int 0, .long 0]) (C := R_PF) (T := T_PF) (N := 10) hx hb hts in_PF ty_PF tyok_PF hown (hts _ cl_Law_8) (hts _ ins_PF) (hts _ ini_PF) hK hP hD hS hA rfl df_PF (Nat.le_of_ble_eq_true rfl) (Nat.le_of_ble_eq_true rfl) d_Law_law_0 (fun q1 H hP1 hD1 hS1 => ?_)
  clear hP hD hS
  have hP := hP1
  have hD := hD1
  have hS := hS1
  clear hP1 hD1 hS1
  refine lv_dup hx hb d_Law_law_3 rfl ?_
  refine bn_call (wr := []) (F := (fun u => (wPF ct (u 0) (u 1 0) (u 4 0) (u 6 0) (u 7 0) (u 8 0) (fun i => [u 9 0, u 10 0, u 11 0, u 12 0].getD i 0) ob0) ++ (wReader ct (u 1) (u 2 0) ob0) ++ (wText ct (u 2) (u 3 0) ob0) ++ (wSteps ct (u 3) ob0) ++ (wText ct (u 4) (u 5 0) ob0) ++ (wSteps ct (u 5) ob0) ++ (wReckoner ct (u 6) oReckoner0) ++ (wCells ct (u 7) ob0) ++ (wCells ct (u 8) ob0) ++ (wCells ct (u 9) ob0) ++ (wCells ct (u 10) ob0) ++ (wCells ct (u 11) ob0) ++ (wCells ct (u 12) ob0))) (va_runI (As := []) (rest := [.ref q1]) ⟨hx, hb, hml, hown, hts⟩ (c_PF_init l ct dC dI q1 H.size) (cwI 0 hts (gd_C cd_PF_init) rfl rfl rfl (hts _ ini_PF) (hts _ ml_Law_64) (hts _ im_PF_init) rfl (by decide +kernel) ⟨Nat.le_of_ble_eq_true rfl, Nat.le_of_ble_eq_true rfl⟩) (bn_pre hP hK hnx hao) rfl rfl hl.1 rfl (Nat.le_of_ble_eq_true rfl) d_Law_law_4 ⟨Nat.le_of_ble_eq_true rfl, Nat.le_of_ble_eq_true rfl⟩) hP hD hS hA (fun u H locs hu hP1 hD1 hS1 => ?_)
  clear hP hD hS
  subst hu
  have hP := hP1
  have hD := hD1
  have hS := hS1
  clear hP1 hD1 hS1
  obtain ⟨Z1, hZ1⟩ : ∃ z : va_W, z = ((wPF ct (u 0) (u 1 0) (u 4 0) (u 6 0) (u 7 0) (u 8 0) (fun i => [u 9 0, u 10 0, u 11 0, u 12 0].getD i 0) ob0) ++ (wReader ct (u 1) (u 2 0) ob0) ++ (wText ct (u 2) (u 3 0) ob0) ++ (wSteps ct (u 3) ob0) ++ (wText ct (u 4) (u 5 0) ob0) ++ (wSteps ct (u 5) ob0) ++ (wReckoner ct (u 6) oReckoner0) ++ (wCells ct (u 7) ob0) ++ (wCells ct (u 8) ob0) ++ (wCells ct (u 9) ob0) ++ (wCells ct (u 10) ob0) ++ (wCells ct (u 11) ob0) ++ (wCells ct (u 12) ob0)) := ⟨_, rfl⟩
  have hP2 : va_P (dC, dI) vwCl Z1 H := by rw [hZ1]; exact hP
  have hD2 : va_D (fun q : Nat => s.heap.size ≤ q) Z1 := by rw [hZ1]; exact hD
  clear hP hD
  have hP := hP2
  have hD := hD2
  clear hP2 hD2
  refine lv_astore_n (lv' := [(1, .ref (u 0 0)), (0, .ref b)]) hx hb d_Law_law_7 rfl hl (by decide) rfl (fun ls hl => ?_)
  refine va_new (ci := 6) (fs := [.int 0, .null, .int 0, .int 0, .int 0, .null, .null, .null, .null, .null, .null, .int 0, .int 0, .null, .int 0, .null, .null, .null, .null, .null, .null, .null, .null, .long 0, .int 0, .null, .null, .null, .null, .null, .int 0, .int 0, .null, .int 0, .null, .null]) (C := R_Mod) (T := T_Mod) (N := 36) hx hb hts in_Mod ty_Mod tyok_Mod hown (hts _ cl_Law_65) (hts _ ins_Mod) (hts _ ini_Mod) hK hP hD hS hA rfl df_Mod (Nat.le_of_ble_eq_true rfl) (Nat.le_of_ble_eq_true rfl) d_Law_law_8 (fun q2 H hP1 hD1 hS1 => ?_)
  clear hP hD hS
  have hP := hP1
  have hD := hD1
  have hS := hS1
  clear hP1 hD1 hS1
  refine lv_dup hx hb d_Law_law_11 rfl ?_
  refine bn_call (wr := Z1) (F := (fun u => wMod ct (u 0) oMod0)) (va_runI (As := []) (rest := [.ref q2]) ⟨hx, hb, hml, hown, hts⟩ (c_Mod_init l ct dC dI q2 H.size) (cwI 0 hts (gd_C cd_Mod_init) rfl rfl rfl (hts _ ini_Mod) (hts _ ml_Law_67) (hts _ im_Mod_init) rfl (by decide +kernel) ⟨Nat.le_of_ble_eq_true rfl, Nat.le_of_ble_eq_true rfl⟩) (bn_pre hP hK hnx hao) rfl rfl hl.1 rfl (Nat.le_of_ble_eq_true rfl) d_Law_law_12 ⟨Nat.le_of_ble_eq_true rfl, Nat.le_of_ble_eq_true rfl⟩) hP hD hS hA (fun w H locs hu hP1 hD1 hS1 => ?_)
  clear hP hD hS
  subst hu
  have hP := hP1
  have hD := hD1
  have hS := hS1
  clear hP1 hD1 hS1
  obtain ⟨Z2, hZ2⟩ : ∃ z : va_W, z = (wMod ct (w 0) oMod0) := ⟨_, rfl⟩
  have hP2 : va_P (dC, dI) vwCl (Z1 ++ Z2) H := by rw [hZ2]; exact hP
  have hD2 : va_D (fun q : Nat => s.heap.size ≤ q) (Z1 ++ Z2) := by rw [hZ2]; exact hD
  clear hP hD
  have hP := hP2
  have hD := hD2
  clear hP2 hD2
  refine lv_astore_n (lv' := [(2, .ref (w 0 0)), (1, .ref (u 0 0)), (0, .ref b)]) hx hb d_Law_law_15 rfl hl (by decide) rfl (fun ls hl => ?_)
  refine lv_iconst (v := 1) hx hb d_Law_law_16 (by decide) ?_
  refine bn_newa (atype := .long) (cT := ct 1) (a0 := (1, .inr (.inl (fun _ => 0)))) (N' := 1) hx hb (hts _ ac_long) (hK.2 1 _ rfl).2 hP hD hS hA rfl (by decide +kernel) (by decide +kernel) (by decide +kernel) (Nat.le_of_ble_eq_true rfl) (Nat.le_of_ble_eq_true rfl) d_Law_law_17 (fun q3 H hP1 hD1 hS1 => ?_)
  clear hP hD hS
  have hP : va_P (dC, dI) vwCl ((Z1 ++ Z2) ++ (wOut ct (fun _ => q3) ob0)) H := hP1
  have hD : va_D (fun q : Nat => s.heap.size ≤ q) ((Z1 ++ Z2) ++ (wOut ct (fun _ => q3) ob0)) := hD1
  have hS := hS1
  clear hP1 hD1 hS1
  refine lv_astore_n (lv' := [(3, .ref q3), (2, .ref (w 0 0)), (1, .ref (u 0 0)), (0, .ref b)]) hx hb d_Law_law_19 rfl hl (by decide) rfl (fun ls hl => ?_)
  refine lv_iconst (v := 0) hx hb d_Law_law_20 (by decide) ?_
  refine lv_istore (lv' := [(4, .int 0), (3, .ref q3), (2, .ref (w 0 0)), (1, .ref (u 0 0)), (0, .ref b)]) hx hb d_Law_law_21 hl (by decide) rfl (fun ls hl => ?_)
  refine W.widen (k := 200 + 0) (n := 40000 + 6 * 0) (by omega) (by omega) ?_
  have hfl : (Z1 ++ Z2) ++ (wOut ct (fun _ => q3) ob0) = ([(wPF ct (u 0) (u 1 0) (u 4 0) (u 6 0) (u 7 0) (u 8 0) (fun i => [u 9 0, u 10 0, u 11 0, u 12 0].getD i 0) ob0), (wReader ct (u 1) (u 2 0) ob0), (wText ct (u 2) (u 3 0) ob0), (wSteps ct (u 3) ob0), (wText ct (u 4) (u 5 0) ob0), (wSteps ct (u 5) ob0), (wReckoner ct (u 6) oReckoner0), (wCells ct (u 7) ob0), (wCells ct (u 8) ob0), (wCells ct (u 9) ob0), (wCells ct (u 10) ob0), (wCells ct (u 11) ob0), (wCells ct (u 12) ob0), wMod ct (w 0) oMod0, (wOut ct (fun _ => q3) ob0)] : List va_W).flatten := by
    rw [hZ1, hZ2]
    simp only [List.flatten_cons, List.flatten_nil, List.append_assoc, List.append_nil]
  rw [hfl] at hP hD
  have hN9 := bn_flatN hD
  have hP9 := bn_flatP hP
  exact k_Law_law_23 C0 hl0 520 0 (by omega) (u 0) (u 1) (u 2) (u 3) (u 4) (u 5) (u 6) (u 7) (u 8) (u 9) (u 10) (u 11) (u 12) (w 0) (fun _ => q3) (fun i => [u 9 0, u 10 0, u 11 0, u 12 0].getD i 0) 0 ob0 ob0 ob0 ob0 ob0 ob0 oReckoner0 ob0 ob0 ob0 ob0 ob0 ob0 oMod0 ob0 _ _ _ hN9 ⟨rfl, rfl, rfl, rfl⟩ hP9 hS (lv_sub hl [4, 3, 2, 1, 0] rfl) hF
