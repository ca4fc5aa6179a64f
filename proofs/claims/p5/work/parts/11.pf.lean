/-! 11.pf -/
abbrev b_PF_unit : ByteArray := prog_1_method_2_code
def y_PF_unit : MethodName := ⟨R_PF, "unit", "(I)Z"⟩
abbrev b_PF_reckoned : ByteArray := prog_1_method_18_code
def y_PF_reckoned : MethodName := ⟨R_PF, "reckoned", "()J"⟩
theorem fl_PF_12 : Cond.fieldLink "PartFormulas" 12 "PartFormulas" "reader" "LPartFormulas$Reader;" ∈ wsAll := wa_of 302 (by decide +kernel) (by decide +kernel)
theorem cd_Reader_collect : Cond.code ⟨"PartFormulas$Reader", "collect", "(C)Z"⟩ prog_3_method_2_code 2 (some .boolean) ∈ wsAll := wa_of 340 (by decide +kernel) (by decide +kernel)
theorem ml_PF_59 : Cond.methodLink "PartFormulas" 59 ⟨"PartFormulas$Reader", "collect", "(C)Z"⟩ ∈ wsAll := wa_of 337 (by decide +kernel) (by decide +kernel)
theorem im_Reader_collect : Cond.instanceMethod ⟨"PartFormulas$Reader", "collect", "(C)Z"⟩ ∈ wsAll := wa_of 338 (by decide +kernel) (by decide +kernel)
theorem se_Reader_collect : Cond.selects "PartFormulas$Reader" ⟨"PartFormulas$Reader", "collect", "(C)Z"⟩ ⟨"PartFormulas$Reader", "collect", "(C)Z"⟩ ∈ wsAll := wa_of 339 (by decide +kernel) (by decide +kernel)
theorem fl_PF_55 : Cond.fieldLink "PartFormulas" 55 "PartFormulas" "reckonedCells" "J" ∈ wsAll := wa_of 311 (by decide +kernel) (by decide +kernel)
theorem d_PF_reckoned_0 : decode b_PF_reckoned 0 = .ok (.aload_n 0, 1) := by decide +kernel
theorem d_PF_reckoned_1 : decode b_PF_reckoned 1 = .ok (.getfield 55, 3) := by decide +kernel
theorem d_PF_reckoned_4 : decode b_PF_reckoned 4 = .ok (.lreturn, 1) := by decide +kernel
theorem d_PF_unit_0 : decode b_PF_unit 0 = .ok (.iload_n 1, 1) := by decide +kernel
theorem d_PF_unit_1 : decode b_PF_unit 1 = .ok (.bipush 33, 2) := by decide +kernel
theorem d_PF_unit_3 : decode b_PF_unit 3 = .ok (.if_icmp .lt 25, 3) := by decide +kernel
theorem d_PF_unit_6 : decode b_PF_unit 6 = .ok (.iload_n 1, 1) := by decide +kernel
theorem d_PF_unit_7 : decode b_PF_unit 7 = .ok (.bipush 126, 2) := by decide +kernel
theorem d_PF_unit_9 : decode b_PF_unit 9 = .ok (.if_icmp .gt 19, 3) := by decide +kernel
theorem d_PF_unit_12 : decode b_PF_unit 12 = .ok (.aload_n 0, 1) := by decide +kernel
theorem d_PF_unit_13 : decode b_PF_unit 13 = .ok (.getfield 12, 3) := by decide +kernel
theorem d_PF_unit_16 : decode b_PF_unit 16 = .ok (.iload_n 1, 1) := by decide +kernel
theorem d_PF_unit_17 : decode b_PF_unit 17 = .ok (.i2c, 1) := by decide +kernel
theorem d_PF_unit_18 : decode b_PF_unit 18 = .ok (.invokevirtual 59, 3) := by decide +kernel
theorem d_PF_unit_21 : decode b_PF_unit 21 = .ok (.ifCond .eq 7, 3) := by decide +kernel
theorem d_PF_unit_24 : decode b_PF_unit 24 = .ok (.iconst 1, 1) := by decide +kernel
theorem d_PF_unit_25 : decode b_PF_unit 25 = .ok (.goto 4, 3) := by decide +kernel
theorem d_PF_unit_28 : decode b_PF_unit 28 = .ok (.iconst 0, 1) := by decide +kernel
theorem d_PF_unit_29 : decode b_PF_unit 29 = .ok (.ireturn, 1) := by decide +kernel
theorem g_PF_59 : GoodIn wsAll (wsV R_PF 59 R_Reader y_Reader_collect ws_Reader_collect) := gd_V ml_PF_59 im_Reader_collect se_Reader_collect ini_Reader cd_Reader_collect
def F_PF_unit (x1 : Int32) (o0 o1 : Ob) : Option (Bool × Ob) :=
  if x1 < (33 : Int32) then (some (false, o1)) else (if (126 : Int32) < x1 then (some (false, o1)) else (bind2 (F_Reader_collect (i2c x1) o1) (fun v4 o_5 => if (b2i v4) = 0 then (some (false, o_5)) else (some (true, o_5)))))
abbrev ws_PF_unit : List Cond := Cond.code y_PF_unit b_PF_unit 2 (some .boolean) :: wsAll
abbrev rm_PF_unit : Room := { frames := 1, cells := 0, slots := 0, locals := 21 }
set_option maxHeartbeats 4000000 in
set_option maxRecDepth 100000 in
theorem c_PF_unit (l : Launch) (ct dC : Nat → ClassId) (dI : Nat → Nat → Nat) (a0 a1 : Nat → Nat) (r0_1 : Nat) (r0_4 : Nat) (r0_5 : Nat) (r0_6 : Nat) (v0 : Nat → Nat) (r1_4 : Nat) (sz : Nat) (x1 : Int32) (o0 o1 : Ob) (r : Bool) (n1 : Ob) (hF : F_PF_unit x1 o0 o1 = some (r, n1)) : Met l y_PF_unit ws_PF_unit rm_PF_unit (bw_Pc [.ref (a0 0), .int x1] (dC, dI) vwCl (tyA ct) [wPF ct a0 (a1 0) r0_1 r0_4 r0_5 r0_6 v0 o0, wReader ct a1 r1_4 o1] sz nx) (bw_Q (dC, dI) vwCl (some (.int (b2i r))) [wPF ct a0 (a1 0) r0_1 r0_4 r0_5 r0_6 v0 o0, wReader ct a1 r1_4 n1] (bw_A [adPF a0, adReader a1] sz)) 0 0 (bw_A [adPF a0, adReader a1] sz) := by
  refine Met.ofW (cc := b_PF_unit) (maxL := 2) (ret := (some .boolean)) (by decide) rfl ?_
  intro p e s m args below meth c s₁ B hml hv
  obtain ⟨rfl, hsz, hP, hK, hN0, hnx⟩ := hv
  have hx := B.exec
  have hb := B.bytes
  have hr := B.returns
  have hts : ∀ w ∈ wsAll, w.before [.ref (a0 0), .int x1].toArray s = true := fun w h9 => atoms_spec (ws := ws_PF_unit) B.pre w (List.mem_cons_of_mem _ h9)
  have hown : s.vm.findClass R_PF = some m.cls := findClass_of_methodNamed B.named
  have hlocks := B.notSynchronized
  subst hsz
  have hN : bw_N (bw_A [adPF a0, adReader a1] s.heap.size) [adPF a0, adReader a1] := hN0.self s.heap.size
  generalize hAe : bw_A [adPF a0, adReader a1] s.heap.size = A at hN ⊢
  have hA : ∀ q : Nat, s.heap.size ≤ q → A q := fun q h => by rw [← hAe]; exact Or.inr h
  have hS : va_S A s.heap s.heap [] := va_S.rf
  have hl := lv_entry ([.ref (a0 0), .int x1]) (n := 2) (Nat.le_of_ble_eq_true rfl)
  rw [lg_entry_eq]
  generalize (lg_sl ([.ref (a0 0), .int x1]) ++ List.replicate (2 - (lg_sl ([.ref (a0 0), .int x1])).length) Slot.unset).toArray = ls at hl ⊢
  have hl : lv_has ls 2 [(0, .ref (a0 0)), (1, .int x1)] := hl
  have C0 : cx wsAll vwCl nx p s m [.ref (a0 0), .int x1].toArray meth c (dC, dI) (tyA ct) b_PF_unit 2 (some .boolean) R_PF A [adPF a0, adReader a1] := ⟨hx, hb, hr, hml, hown, hlocks, hts, hK, hN, hA, hnx⟩
  have h := hF
  rw [F_PF_unit] at h
  refine lv_iload_n hx hb d_PF_unit_0 rfl (lv_at hl 1 rfl) ?_
  refine lv_bipush (v := 33) hx hb d_PF_unit_1 (by decide) ?_
  refine lv_icmp_lt (tgt := 28) hx hb d_PF_unit_3 (by decide) (fun c1 => ?_) (fun c1 => ?_)
  · have h := ite_t c1 h
    refine lv_iconst (v := 0) hx hb d_PF_unit_28 (by decide) ?_
    obtain ⟨rfl, rfl⟩ := res2 h
    exact W.zret hx hb hr rfl (fun t ht hW => ⟨rfl, by rw [ht]; exact hP, hS.F ht⟩) hS.2.2 d_PF_unit_29
  · have h := ite_f c1 h
    refine lv_iload_n hx hb d_PF_unit_6 rfl (lv_at hl 1 rfl) ?_
    refine lv_bipush (v := 126) hx hb d_PF_unit_7 (by decide) ?_
    refine lv_icmp_gt (tgt := 28) hx hb d_PF_unit_9 (by decide) (fun c2 => ?_) (fun c2 => ?_)
    · have h := ite_t c2 h
      refine lv_iconst (v := 0) hx hb d_PF_unit_28 (by decide) ?_
      obtain ⟨rfl, rfl⟩ := res2 h
      exact W.zret hx hb hr rfl (fun t ht hW => ⟨rfl, by rw [ht]; exact hP, hS.F ht⟩) hS.2.2 d_PF_unit_29
    · have h := ite_f c2 h
      refine lv_aload_n hx hb d_PF_unit_12 rfl (lv_at hl 0 rfl) ?_
      refine va_get (D := (dC, dI)) (ci := 5) (v := .ref (a1 0)) (C := R_PF) (T := T_PF) (N := 10) hx hb hts in_PF hown hK (hP 0 _ rfl) 0 rfl rfl 0 (by decide) (hts _ fl_PF_12) (fun _ h9 => h9) rfl d_PF_unit_13 ?_
      refine lv_iload_n hx hb d_PF_unit_16 rfl (lv_at hl 1 rfl) ?_
      refine lv_i2c (v := (i2c x1)) hx hb d_PF_unit_17 rfl ?_
      obtain ⟨v4, o_5, hG3, h⟩ := bind2_some h
      refine bw_call (Lc := [wReader ct a1 r1_4 o1]) (Lc' := [wReader ct a1 r1_4 o_5]) (L' := [wPF ct a0 (a1 0) r0_1 r0_4 r0_5 r0_6 v0 o0, wReader ct a1 r1_4 o_5]) [1] (va_runV (As := [.int (i2c x1)]) (rest := []) ⟨hx, hb, hml, hown, hts⟩ (c_Reader_collect l ct dC dI a1 r1_4 _ (i2c x1) o1 v4 o_5 hG3) (cwV 1 hts g_PF_59 rfl rfl rfl (by decide +kernel) ⟨Nat.le_of_ble_eq_true rfl, Nat.le_of_ble_eq_true rfl⟩) ⟨bw_blind nx_call, va_recv hK (hP 1 _ rfl) (ci := 3) (q0 := 0) rfl rfl, fun U hU hW => ⟨rfl, by rw [hU], by rw [hU]; exact hP.sub [1] rfl, va_K.moved hW.alike hK, (hN.sub [1] (by decide) rfl).weaken (fun _ _ => trivial), nx_warm hW hnx⟩⟩ rfl rfl hl.1 rfl (Nat.le_of_ble_eq_true rfl) d_PF_unit_18 ⟨Nat.le_of_ble_eq_true rfl, Nat.le_of_ble_eq_true rfl⟩) hP hN hS hA rfl rfl rfl (fun H locs hP hS => ?_)
      refine lv_if_eq (tgt := 28) hx hb d_PF_unit_21 (by decide) (fun c6 => ?_) (fun c6 => ?_)
      · have h := ite_t c6 h
        refine lv_iconst (v := 0) hx hb d_PF_unit_28 (by decide) ?_
        obtain ⟨rfl, rfl⟩ := res2 h
        exact W.zret hx hb hr rfl (fun t ht hW => ⟨rfl, by rw [ht]; exact hP, hS.F ht⟩) hS.2.2 d_PF_unit_29
      · have h := ite_f c6 h
        refine lv_iconst (v := 1) hx hb d_PF_unit_24 (by decide) ?_
        refine lv_goto (tgt := 29) hx hb d_PF_unit_25 (by decide) ?_
        obtain ⟨rfl, rfl⟩ := res2 h
        exact W.zret hx hb hr rfl (fun t ht hW => ⟨rfl, by rw [ht]; exact hP, hS.F ht⟩) hS.2.2 d_PF_unit_29
def F_PF_reckoned  (o0 : Ob) : Option (Int64) :=
  some (g64 o0 9 0)
abbrev ws_PF_reckoned : List Cond := Cond.code y_PF_reckoned b_PF_reckoned 1 (some .long) :: wsAll
abbrev rm_PF_reckoned : Room := { frames := 0, cells := 0, slots := 0, locals := 0 }
set_option maxHeartbeats 4000000 in
set_option maxRecDepth 100000 in
theorem c_PF_reckoned (l : Launch) (ct dC : Nat → ClassId) (dI : Nat → Nat → Nat) (a0 : Nat → Nat) (r0_0 : Nat) (r0_1 : Nat) (r0_4 : Nat) (r0_5 : Nat) (r0_6 : Nat) (v0 : Nat → Nat) (sz : Nat)  (o0 : Ob) (r : Int64) (hF : F_PF_reckoned o0 = some r) : Met l y_PF_reckoned ws_PF_reckoned rm_PF_reckoned (bw_Pc [.ref (a0 0)] (dC, dI) vwCl (tyA ct) [wPF ct a0 r0_0 r0_1 r0_4 r0_5 r0_6 v0 o0] sz nx) (bw_QR (some (.long r))) 0 0 (fun _ => False) := by
  refine Met.ofW (cc := b_PF_reckoned) (maxL := 1) (ret := (some .long)) (by decide) rfl ?_
  intro p e s m args below meth c s₁ B hml hv
  obtain ⟨rfl, hsz, hP, hK, hN0, hnx⟩ := hv
  have hx := B.exec
  have hb := B.bytes
  have hr := B.returns
  have hts : ∀ w ∈ wsAll, w.before [.ref (a0 0)].toArray s = true := fun w h9 => atoms_spec (ws := ws_PF_reckoned) B.pre w (List.mem_cons_of_mem _ h9)
  have hown : s.vm.findClass R_PF = some m.cls := findClass_of_methodNamed B.named
  have hlocks := B.notSynchronized
  subst hsz
  have hN : bw_N (fun _ => True) [adPF a0] := hN0
  generalize hAe : (fun _ : Nat => True) = A at hN
  have hA : ∀ q : Nat, s.heap.size ≤ q → A q := fun q _ => by rw [← hAe]; trivial
  have hS : s.heap = s.heap ∧ ([] : List Loc) = [] := ⟨rfl, rfl⟩
  have hl := lv_entry ([.ref (a0 0)]) (n := 1) (Nat.le_of_ble_eq_true rfl)
  rw [lg_entry_eq]
  generalize (lg_sl ([.ref (a0 0)]) ++ List.replicate (1 - (lg_sl ([.ref (a0 0)])).length) Slot.unset).toArray = ls at hl ⊢
  have hl : lv_has ls 1 [(0, .ref (a0 0))] := hl
  have C0 : cx wsAll vwCl nx p s m [.ref (a0 0)].toArray meth c (dC, dI) (tyA ct) b_PF_reckoned 1 (some .long) R_PF A [adPF a0] := ⟨hx, hb, hr, hml, hown, hlocks, hts, hK, hN, hA, hnx⟩
  have h := hF
  rw [F_PF_reckoned] at h
  refine lv_aload_n hx hb d_PF_reckoned_0 rfl (lv_at hl 0 rfl) ?_
  refine va_get (D := (dC, dI)) (ci := 5) (v := .long (g64 o0 9 0)) (C := R_PF) (T := T_PF) (N := 10) hx hb hts in_PF hown hK (hP 0 _ rfl) 0 rfl rfl 9 (by decide) (hts _ fl_PF_55) (fun _ h9 => h9) rfl d_PF_reckoned_1 ?_
  obtain rfl := res1 h
  exact W.lret hx hb hr (fun t ht hW => ⟨rfl, ht.trans hS.1⟩) (bw_nil hS.2) d_PF_reckoned_4
