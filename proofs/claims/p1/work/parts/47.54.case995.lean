/-! THE LAW: case at 995 -/
def F_Law_law_995 (L : Nat) (xs : Nat → Int32) (k23 : Int32 → Ob → Ob → Ob → Ob → Ob → Ob → Ob → Ob → Ob → Ob → Ob → Ob → Ob → Ob → Ob → Option Unit) (x4 : Int32) (o0 o1 o2 o3 o4 o5 o6 o7 o8 o9 o10 o11 o12 o13 o14 : Ob) : Option Unit :=
  chk (inb (x4 + (1 : Int32)) L) (chk (inb (x4 + (2 : Int32)) L) (if (xs (Int32.toNatClampNeg (x4 + (1 : Int32)))) = 0 then (bind2 (F_Law_differs (xs (Int32.toNatClampNeg (x4 + (1 : Int32)))) (xs (Int32.toNatClampNeg (x4 + (2 : Int32)))) o0 o7 o9 o14) (fun v310 o_311 => bind2 (F_Mod_differs (xs (Int32.toNatClampNeg (x4 + (1 : Int32)))) (xs (Int32.toNatClampNeg (x4 + (2 : Int32)))) o13) (fun v315 o_316 => bind1 (F_Mod_thrown o_316) (fun v318 => if v318 = v310 then (if v310 = 0 then (chk (inb (0 : Int32) 1) (if (lg_cmp (g64 o_311 0 (Int32.toNatClampNeg (0 : Int32))) (Int32.toInt64 v315)) = 0 then (k23 (x4 + (6 : Int32)) o0 o1 o2 o3 o4 o5 o6 o7 o8 o9 o10 o11 o12 o_316 o_311) else (none))) else (k23 (x4 + (6 : Int32)) o0 o1 o2 o3 o4 o5 o6 o7 o8 o9 o10 o11 o12 o_316 o_311)) else (none))))) else (if (xs (Int32.toNatClampNeg (x4 + (1 : Int32)))) = 1 then (bind2 (F_Law_differs (xs (Int32.toNatClampNeg (x4 + (1 : Int32)))) (xs (Int32.toNatClampNeg (x4 + (2 : Int32)))) o0 o7 o10 o14) (fun v325 o_326 => bind2 (F_Mod_differs (xs (Int32.toNatClampNeg (x4 + (1 : Int32)))) (xs (Int32.toNatClampNeg (x4 + (2 : Int32)))) o13) (fun v330 o_331 => bind1 (F_Mod_thrown o_331) (fun v333 => if v333 = v325 then (if v325 = 0 then (chk (inb (0 : Int32) 1) (if (lg_cmp (g64 o_326 0 (Int32.toNatClampNeg (0 : Int32))) (Int32.toInt64 v330)) = 0 then (k23 (x4 + (6 : Int32)) o0 o1 o2 o3 o4 o5 o6 o7 o8 o9 o10 o11 o12 o_331 o_326) else (none))) else (k23 (x4 + (6 : Int32)) o0 o1 o2 o3 o4 o5 o6 o7 o8 o9 o10 o11 o12 o_331 o_326)) else (none))))) else (if (xs (Int32.toNatClampNeg (x4 + (1 : Int32)))) = 2 then (bind2 (F_Law_differs (xs (Int32.toNatClampNeg (x4 + (1 : Int32)))) (xs (Int32.toNatClampNeg (x4 + (2 : Int32)))) o0 o7 o11 o14) (fun v340 o_341 => bind2 (F_Mod_differs (xs (Int32.toNatClampNeg (x4 + (1 : Int32)))) (xs (Int32.toNatClampNeg (x4 + (2 : Int32)))) o13) (fun v345 o_346 => bind1 (F_Mod_thrown o_346) (fun v348 => if v348 = v340 then (if v340 = 0 then (chk (inb (0 : Int32) 1) (if (lg_cmp (g64 o_341 0 (Int32.toNatClampNeg (0 : Int32))) (Int32.toInt64 v345)) = 0 then (k23 (x4 + (6 : Int32)) o0 o1 o2 o3 o4 o5 o6 o7 o8 o9 o10 o11 o12 o_346 o_341) else (none))) else (k23 (x4 + (6 : Int32)) o0 o1 o2 o3 o4 o5 o6 o7 o8 o9 o10 o11 o12 o_346 o_341)) else (none))))) else (if (xs (Int32.toNatClampNeg (x4 + (1 : Int32)))) = 3 then (bind2 (F_Law_differs (xs (Int32.toNatClampNeg (x4 + (1 : Int32)))) (xs (Int32.toNatClampNeg (x4 + (2 : Int32)))) o0 o7 o12 o14) (fun v355 o_356 => bind2 (F_Mod_differs (xs (Int32.toNatClampNeg (x4 + (1 : Int32)))) (xs (Int32.toNatClampNeg (x4 + (2 : Int32)))) o13) (fun v360 o_361 => bind1 (F_Mod_thrown o_361) (fun v363 => if v363 = v355 then (if v355 = 0 then (chk (inb (0 : Int32) 1) (if (lg_cmp (g64 o_356 0 (Int32.toNatClampNeg (0 : Int32))) (Int32.toInt64 v360)) = 0 then (k23 (x4 + (6 : Int32)) o0 o1 o2 o3 o4 o5 o6 o7 o8 o9 o10 o11 o12 o_361 o_356) else (none))) else (k23 (x4 + (6 : Int32)) o0 o1 o2 o3 o4 o5 o6 o7 o8 o9 o10 o11 o12 o_361 o_356)) else (none))))) else (bind2 (F_Law_differs (xs (Int32.toNatClampNeg (x4 + (1 : Int32)))) (xs (Int32.toNatClampNeg (x4 + (2 : Int32)))) o0 o7 o9 o14) (fun v370 o_371 => bind2 (F_Mod_differs (xs (Int32.toNatClampNeg (x4 + (1 : Int32)))) (xs (Int32.toNatClampNeg (x4 + (2 : Int32)))) o13) (fun v375 o_376 => bind1 (F_Mod_thrown o_376) (fun v378 => if v378 = v370 then (if v370 = 0 then (chk (inb (0 : Int32) 1) (if (lg_cmp (g64 o_371 0 (Int32.toNatClampNeg (0 : Int32))) (Int32.toInt64 v375)) = 0 then (k23 (x4 + (6 : Int32)) o0 o1 o2 o3 o4 o5 o6 o7 o8 o9 o10 o11 o12 o_376 o_371) else (none))) else (k23 (x4 + (6 : Int32)) o0 o1 o2 o3 o4 o5 o6 o7 o8 o9 o10 o11 o12 o_376 o_371)) else (none))))))))))
set_option maxHeartbeats 8000000 in
set_option maxRecDepth 100000 in
theorem k_Law_law_995 {p : Program} {l : Launch} {e : Env} {s : State} {m : MethodId} {below : List Frame} {meth : Method} {c : Code} {b L : Nat} {xs : Nat → Int32} {A : Nat → Prop} {ct dC : Nat → ClassId} {dI : Nat → Nat → Nat} (C0 : lcx p s m meth c b L xs A ct dC dI) (hl0 : l.stackTraces = false) {it : Nat} (hit : it + 1 ≤ 600) {k23 : Int32 → Ob → Ob → Ob → Ob → Ob → Ob → Ob → Ob → Ob → Ob → Ob → Ob → Ob → Ob → Ob → Option Unit} (hk23 : ∀ (a0 a1 a2 a3 a4 a5 a6 a7 a8 a9 a10 a11 a12 a13 a14 : Nat → Nat) (v0 : Nat → Nat) (x4 : Int32) (o0 o1 o2 o3 o4 o5 o6 o7 o8 o9 o10 o11 o12 o13 o14 : Ob) (H : Heap) (locs : List Loc) (ls : Array Slot), bw_N A [adPF a0, adReader a1, adText a2, adSteps a3, adText a4, adSteps a5, adReckoner a6, adCells a7, adCells a8, adCells a9, adCells a10, adCells a11, adCells a12, adMod a13, adOut a14] → (v0 0 = a9 0 ∧ v0 1 = a10 0 ∧ v0 2 = a11 0 ∧ v0 3 = a12 0) → bw_P (dC, dI) vwCl [wPF ct a0 (a1 0) (a4 0) (a6 0) (a7 0) (a8 0) v0 o0, wReader ct a1 (a2 0) o1, wText ct a2 (a3 0) o2, wSteps ct a3 o3, wText ct a4 (a5 0) o4, wSteps ct a5 o5, wReckoner ct a6 o6, wCells ct a7 o7, wCells ct a8 o8, wCells ct a9 o9, wCells ct a10 o10, wCells ct a11 o11, wCells ct a12 o12, wMod ct a13 o13, wOut ct a14 o14] H → va_S A s.heap H locs → lv_has ls 8 [(0, .ref b), (1, .ref (a0 0)), (2, .ref (a13 0)), (3, .ref (a14 0)), (4, .int x4)] → k23 x4 o0 o1 o2 o3 o4 o5 o6 o7 o8 o9 o10 o11 o12 o13 o14 = some () → W p l e room_1 s m #[Value.ref b] below meth c H locs (200 + (it + 1)) (40000 + 6 * (it + 1)) (lw_Z below #[Value.ref b] s) (F0 m 23 ls [])) : ∀ (a0 a1 a2 a3 a4 a5 a6 a7 a8 a9 a10 a11 a12 a13 a14 : Nat → Nat) (v0 : Nat → Nat) (x4 : Int32) (o0 o1 o2 o3 o4 o5 o6 o7 o8 o9 o10 o11 o12 o13 o14 : Ob) (H : Heap) (locs : List Loc) (ls : Array Slot), bw_N A [adPF a0, adReader a1, adText a2, adSteps a3, adText a4, adSteps a5, adReckoner a6, adCells a7, adCells a8, adCells a9, adCells a10, adCells a11, adCells a12, adMod a13, adOut a14] → (v0 0 = a9 0 ∧ v0 1 = a10 0 ∧ v0 2 = a11 0 ∧ v0 3 = a12 0) → bw_P (dC, dI) vwCl [wPF ct a0 (a1 0) (a4 0) (a6 0) (a7 0) (a8 0) v0 o0, wReader ct a1 (a2 0) o1, wText ct a2 (a3 0) o2, wSteps ct a3 o3, wText ct a4 (a5 0) o4, wSteps ct a5 o5, wReckoner ct a6 o6, wCells ct a7 o7, wCells ct a8 o8, wCells ct a9 o9, wCells ct a10 o10, wCells ct a11 o11, wCells ct a12 o12, wMod ct a13 o13, wOut ct a14 o14] H → va_S A s.heap H locs → lv_has ls 8 [(0, .ref b), (1, .ref (a0 0)), (2, .ref (a13 0)), (3, .ref (a14 0)), (4, .int x4)] → F_Law_law_995 L xs k23 x4 o0 o1 o2 o3 o4 o5 o6 o7 o8 o9 o10 o11 o12 o13 o14 = some () → W p l e room_1 s m #[Value.ref b] below meth c H locs (200 + it) (40000 + 6 * it) (lw_Z below #[Value.ref b] s) (F0 m 995 ls []) := by
  obtain ⟨hx, hb, hr, hml, hown, hlocks, hts, hK, hA, hAs, hX, hbl, hnx, hthy, hex9, hsx⟩ := id C0
  have hbA : ¬ A b := fun z => absurd (hAs b z) (Nat.not_le.mpr hbl)
  intro a0 a1 a2 a3 a4 a5 a6 a7 a8 a9 a10 a11 a12 a13 a14 v0 x4 o0 o1 o2 o3 o4 o5 o6 o7 o8 o9 o10 o11 o12 o13 o14 H locs ls hN hver hP hS hl h
  rw [F_Law_law_995] at h
  refine lv_aload_n hx hb d_Law_law_995 rfl (lv_at hl 1 rfl) ?_
  refine lv_aload_n hx hb d_Law_law_996 rfl (lv_at hl 0 rfl) ?_
  refine lv_iload hx hb d_Law_law_997 (lv_at hl 4 rfl) ?_
  refine lv_iconst (v := 1) hx hb d_Law_law_999 (by decide) ?_
  refine lv_iadd hx hb d_Law_law_1000 ?_
  obtain ⟨hi306, h⟩ := chk_some h
  refine va_sld hx hb hX hbl hbA hS (inb_in hi306) d_Law_law_1001 ?_
  refine lv_aload_n hx hb d_Law_law_1002 rfl (lv_at hl 0 rfl) ?_
  refine lv_iload hx hb d_Law_law_1003 (lv_at hl 4 rfl) ?_
  refine lv_iconst (v := 2) hx hb d_Law_law_1005 (by decide) ?_
  refine lv_iadd hx hb d_Law_law_1006 ?_
  obtain ⟨hi307, h⟩ := chk_some h
  refine va_sld hx hb hX hbl hbA hS (inb_in hi307) d_Law_law_1007 ?_
  refine lv_aload_n hx hb d_Law_law_1008 rfl (lv_at hl 3 rfl) ?_
  by_cases c308 : (xs (Int32.toNatClampNeg (x4 + (1 : Int32)))) = 0
  · have h := ite_t c308 h
    obtain ⟨v310, o_311, hG309, h⟩ := bind2_some h
    refine bw_call (Lc := [wPF ct a0 (a1 0) (a4 0) (a6 0) (a7 0) (a8 0) v0 o0, wCells ct a7 o7, wCells ct a9 o9, wOut ct a14 o14]) (Lc' := [wPF ct a0 (a1 0) (a4 0) (a6 0) (a7 0) (a8 0) v0 o0, wCells ct a7 o7, wCells ct a9 o9, wOut ct a14 o_311]) (L' := [wPF ct a0 (a1 0) (a4 0) (a6 0) (a7 0) (a8 0) v0 o0, wReader ct a1 (a2 0) o1, wText ct a2 (a3 0) o2, wSteps ct a3 o3, wText ct a4 (a5 0) o4, wSteps ct a5 o5, wReckoner ct a6 o6, wCells ct a7 o7, wCells ct a8 o8, wCells ct a9 o9, wCells ct a10 o10, wCells ct a11 o11, wCells ct a12 o12, wMod ct a13 o13, wOut ct a14 o_311]) [0, 7, 9, 14] (bt_runSW (n := 4) (As := [.ref (a0 0), .int (xs (Int32.toNatClampNeg (x4 + (1 : Int32)))), .int (xs (Int32.toNatClampNeg (x4 + (2 : Int32)))), .ref (a14 0)]) (rest := []) ⟨hx, hb, hml, hown, hts⟩ (c_Law_differs l hl0 ct dC dI a0 a7 a9 a14 (a1 0) (a4 0) (a6 0) (a8 0) v0 _ (xs (Int32.toNatClampNeg (x4 + (1 : Int32)))) (xs (Int32.toNatClampNeg (x4 + (2 : Int32)))) o0 o7 o9 o14 v310 o_311 (fun _ => by rw [c308]; exact hver.1) hG309) (gd_any cd_Law_differs) rfl rfl rfl (hts _ ini_Law) (hts _ ml_Law_125) (hts _ st_Law_differs) (by decide +kernel) ⟨Nat.le_of_ble_eq_true rfl, Nat.le_of_ble_eq_true rfl⟩ ⟨bw_blind thh_call, fun U hU hW => ⟨rfl, by rw [hU], by rw [hU]; exact hP.sub [0, 7, 9, 14] rfl, va_K.moved hW.alike hK, (hN.sub [0, 7, 9, 14] (by decide) rfl).weaken (fun _ _ => trivial), ⟨nx_warm hW hnx, thy_x hthy hS hAs hW hU, exX.moved hW.alike hex9⟩⟩⟩ rfl rfl hl.1 rfl (Nat.le_of_ble_eq_true rfl) d_Law_law_1009 ⟨by rw [room_c]; omega, by rw [room_s]; omega⟩) hP hN hS hA rfl rfl rfl (fun H locs hP hS => ?_)
    refine lv_istore (lv' := [(5, .int v310), (0, .ref b), (1, .ref (a0 0)), (2, .ref (a13 0)), (3, .ref (a14 0)), (4, .int x4)]) hx hb d_Law_law_1012 hl (by decide) rfl (fun ls hl => ?_)
    refine lv_aload_n hx hb d_Law_law_1014 rfl (lv_at hl 3 rfl) ?_
    refine lv_aload_n hx hb d_Law_law_1015 rfl (lv_at hl 1 rfl) ?_
    refine lv_iload hx hb d_Law_law_1016 (lv_at hl 5 rfl) ?_
    refine lv_iconst (v := 1) hx hb d_Law_law_1018 (by decide) ?_
    refine lv_iadd hx hb d_Law_law_1019 ?_
    refine va_sld hx hb hX hbl hbA hS (inb_in hi306) d_Law_law_1020 ?_
    refine lv_aload_n hx hb d_Law_law_1021 rfl (lv_at hl 1 rfl) ?_
    refine lv_iload hx hb d_Law_law_1022 (lv_at hl 5 rfl) ?_
    refine lv_iconst (v := 2) hx hb d_Law_law_1024 (by decide) ?_
    refine lv_iadd hx hb d_Law_law_1025 ?_
    refine va_sld hx hb hX hbl hbA hS (inb_in hi307) d_Law_law_1026 ?_
    obtain ⟨v315, o_316, hG314, h⟩ := bind2_some h
    refine bw_call (Lc := [wMod ct a13 o13]) (Lc' := [wMod ct a13 o_316]) (L' := [wPF ct a0 (a1 0) (a4 0) (a6 0) (a7 0) (a8 0) v0 o0, wReader ct a1 (a2 0) o1, wText ct a2 (a3 0) o2, wSteps ct a3 o3, wText ct a4 (a5 0) o4, wSteps ct a5 o5, wReckoner ct a6 o6, wCells ct a7 o7, wCells ct a8 o8, wCells ct a9 o9, wCells ct a10 o10, wCells ct a11 o11, wCells ct a12 o12, wMod ct a13 o_316, wOut ct a14 o_311]) [13] (va_runV (As := [.int (xs (Int32.toNatClampNeg (x4 + (1 : Int32)))), .int (xs (Int32.toNatClampNeg (x4 + (2 : Int32))))]) (rest := []) ⟨hx, hb, hml, hown, hts⟩ (c_Mod_differs l ct dC dI a13 _ (xs (Int32.toNatClampNeg (x4 + (1 : Int32)))) (xs (Int32.toNatClampNeg (x4 + (2 : Int32)))) o13 v315 o_316 hG314) (cwV 2 hts g_Law_127 rfl rfl rfl (by decide +kernel) ⟨Nat.le_of_ble_eq_true rfl, Nat.le_of_ble_eq_true rfl⟩) ⟨bw_blind nx_call, va_recv hK (hP 13 _ rfl) (ci := 6) (q0 := 0) rfl rfl, fun U hU hW => ⟨rfl, by rw [hU], by rw [hU]; exact hP.sub [13] rfl, va_K.moved hW.alike hK, (hN.sub [13] (by decide) rfl).weaken (fun _ _ => trivial), nx_warm hW hnx⟩⟩ rfl rfl hl.1 rfl (Nat.le_of_ble_eq_true rfl) d_Law_law_1027 ⟨by rw [room_c]; omega, by rw [room_s]; omega⟩) hP hN hS hA rfl rfl rfl (fun H locs hP hS => ?_)
    refine lv_istore (lv' := [(6, .int v315), (5, .int v310), (0, .ref b), (1, .ref (a0 0)), (2, .ref (a13 0)), (3, .ref (a14 0)), (4, .int x4)]) hx hb d_Law_law_1030 hl (by decide) rfl (fun ls hl => ?_)
    refine lv_aload_n hx hb d_Law_law_1032 rfl (lv_at hl 4 rfl) ?_
    obtain ⟨v318, hG317, h⟩ := bind1_some h
    refine bw_callR (va_runV (As := []) (rest := []) ⟨hx, hb, hml, hown, hts⟩ (c_Mod_thrown l ct dC dI a13 _ o_316 v318 hG317) (cwV 0 hts g_Law_83 rfl rfl rfl (by decide +kernel) ⟨Nat.le_of_ble_eq_true rfl, Nat.le_of_ble_eq_true rfl⟩) ⟨bw_blind nx_call, va_recv hK (hP 13 _ rfl) (ci := 6) (q0 := 0) rfl rfl, fun U hU hW => ⟨rfl, by rw [hU], by rw [hU]; exact hP.sub [13] rfl, va_K.moved hW.alike hK, (hN.sub [13] (by decide) rfl).weaken (fun _ _ => trivial), nx_warm hW hnx⟩⟩ rfl rfl hl.1 rfl (Nat.le_of_ble_eq_true rfl) d_Law_law_1033 ⟨by rw [room_c]; omega, by rw [room_s]; omega⟩) ?_
    refine lv_iload hx hb d_Law_law_1036 (lv_at hl 1 rfl) ?_
    refine lv_icmp_eq (tgt := 1043) hx hb d_Law_law_1038 (by decide) (fun c319 => ?_) (fun c319 => ?_)
    · have h := ite_t c319 h
      refine lv_iload hx hb d_Law_law_1043 (lv_at hl 1 rfl) ?_
      refine lv_if_ne (tgt := 1060) hx hb d_Law_law_1045 (by decide) (fun c320 => ?_) (fun c320 => ?_)
      · have h := ite_f c320 h
        refine lv_goto (tgt := 1128) hx hb d_Law_law_1060 (by decide) ?_
        refine lv_iinc (v := (x4 + (6 : Int32))) (lv' := [(4, .int (x4 + (6 : Int32))), (6, .int v315), (5, .int v310), (0, .ref b), (1, .ref (a0 0)), (2, .ref (a13 0)), (3, .ref (a14 0))]) hx hb d_Law_law_1128 hl (k := 6) rfl rfl (by decide) rfl (fun ls hl => ?_)
        refine lv_goto (tgt := 23) hx hb d_Law_law_1131 (by decide) ?_
        refine W.widen (k := 200 + (it + 1)) (n := 40000 + 6 * (it + 1)) (by omega) (by omega) ?_
        exact hk23 a0 a1 a2 a3 a4 a5 a6 a7 a8 a9 a10 a11 a12 a13 a14 v0 (x4 + (6 : Int32)) o0 o1 o2 o3 o4 o5 o6 o7 o8 o9 o10 o11 o12 o_316 o_311 _ _ _ hN hver hP hS (lv_sub hl [3, 4, 5, 6, 0] rfl) h
      · have h := ite_t c320 h
        refine lv_aload_n hx hb d_Law_law_1048 rfl (lv_at hl 5 rfl) ?_
        refine lv_iconst (v := 0) hx hb d_Law_law_1049 (by decide) ?_
        obtain ⟨hi321, h⟩ := chk_some h
        refine va_lald (f := g64 o_311 0) hx hb hK (hP 14 _ rfl) 0 1 rfl rfl (inb_in hi321) d_Law_law_1050 ?_
        refine lv_iload hx hb d_Law_law_1051 (lv_at hl 0 rfl) ?_
        refine lv_i2l (v := (Int32.toInt64 v315)) hx hb d_Law_law_1053 rfl ?_
        refine W.lcmp hx hb d_Law_law_1054 ?_
        refine lv_if_eq (tgt := 1060) hx hb d_Law_law_1055 (by decide) (fun c322 => ?_) (fun c322 => ?_)
        · have h := ite_t c322 h
          refine lv_goto (tgt := 1128) hx hb d_Law_law_1060 (by decide) ?_
          refine lv_iinc (v := (x4 + (6 : Int32))) (lv' := [(4, .int (x4 + (6 : Int32))), (6, .int v315), (5, .int v310), (0, .ref b), (1, .ref (a0 0)), (2, .ref (a13 0)), (3, .ref (a14 0))]) hx hb d_Law_law_1128 hl (k := 6) rfl rfl (by decide) rfl (fun ls hl => ?_)
          refine lv_goto (tgt := 23) hx hb d_Law_law_1131 (by decide) ?_
          refine W.widen (k := 200 + (it + 1)) (n := 40000 + 6 * (it + 1)) (by omega) (by omega) ?_
          exact hk23 a0 a1 a2 a3 a4 a5 a6 a7 a8 a9 a10 a11 a12 a13 a14 v0 (x4 + (6 : Int32)) o0 o1 o2 o3 o4 o5 o6 o7 o8 o9 o10 o11 o12 o_316 o_311 _ _ _ hN hver hP hS (lv_sub hl [3, 4, 5, 6, 0] rfl) h
        · have h := ite_f c322 h
          refine lv_iconst (v := 0) hx hb d_Law_law_1058 (by decide) ?_
          cases h
    · have h := ite_f c319 h
      refine lv_iconst (v := 0) hx hb d_Law_law_1041 (by decide) ?_
      cases h
  · have h := ite_f c308 h
    by_cases c323 : (xs (Int32.toNatClampNeg (x4 + (1 : Int32)))) = 1
    · have h := ite_t c323 h
      obtain ⟨v325, o_326, hG324, h⟩ := bind2_some h
      refine bw_call (Lc := [wPF ct a0 (a1 0) (a4 0) (a6 0) (a7 0) (a8 0) v0 o0, wCells ct a7 o7, wCells ct a10 o10, wOut ct a14 o14]) (Lc' := [wPF ct a0 (a1 0) (a4 0) (a6 0) (a7 0) (a8 0) v0 o0, wCells ct a7 o7, wCells ct a10 o10, wOut ct a14 o_326]) (L' := [wPF ct a0 (a1 0) (a4 0) (a6 0) (a7 0) (a8 0) v0 o0, wReader ct a1 (a2 0) o1, wText ct a2 (a3 0) o2, wSteps ct a3 o3, wText ct a4 (a5 0) o4, wSteps ct a5 o5, wReckoner ct a6 o6, wCells ct a7 o7, wCells ct a8 o8, wCells ct a9 o9, wCells ct a10 o10, wCells ct a11 o11, wCells ct a12 o12, wMod ct a13 o13, wOut ct a14 o_326]) [0, 7, 10, 14] (bt_runSW (n := 4) (As := [.ref (a0 0), .int (xs (Int32.toNatClampNeg (x4 + (1 : Int32)))), .int (xs (Int32.toNatClampNeg (x4 + (2 : Int32)))), .ref (a14 0)]) (rest := []) ⟨hx, hb, hml, hown, hts⟩ (c_Law_differs l hl0 ct dC dI a0 a7 a10 a14 (a1 0) (a4 0) (a6 0) (a8 0) v0 _ (xs (Int32.toNatClampNeg (x4 + (1 : Int32)))) (xs (Int32.toNatClampNeg (x4 + (2 : Int32)))) o0 o7 o10 o14 v325 o_326 (fun _ => by rw [c323]; exact hver.2.1) hG324) (gd_any cd_Law_differs) rfl rfl rfl (hts _ ini_Law) (hts _ ml_Law_125) (hts _ st_Law_differs) (by decide +kernel) ⟨Nat.le_of_ble_eq_true rfl, Nat.le_of_ble_eq_true rfl⟩ ⟨bw_blind thh_call, fun U hU hW => ⟨rfl, by rw [hU], by rw [hU]; exact hP.sub [0, 7, 10, 14] rfl, va_K.moved hW.alike hK, (hN.sub [0, 7, 10, 14] (by decide) rfl).weaken (fun _ _ => trivial), ⟨nx_warm hW hnx, thy_x hthy hS hAs hW hU, exX.moved hW.alike hex9⟩⟩⟩ rfl rfl hl.1 rfl (Nat.le_of_ble_eq_true rfl) d_Law_law_1009 ⟨by rw [room_c]; omega, by rw [room_s]; omega⟩) hP hN hS hA rfl rfl rfl (fun H locs hP hS => ?_)
      refine lv_istore (lv' := [(5, .int v325), (0, .ref b), (1, .ref (a0 0)), (2, .ref (a13 0)), (3, .ref (a14 0)), (4, .int x4)]) hx hb d_Law_law_1012 hl (by decide) rfl (fun ls hl => ?_)
      refine lv_aload_n hx hb d_Law_law_1014 rfl (lv_at hl 3 rfl) ?_
      refine lv_aload_n hx hb d_Law_law_1015 rfl (lv_at hl 1 rfl) ?_
      refine lv_iload hx hb d_Law_law_1016 (lv_at hl 5 rfl) ?_
      refine lv_iconst (v := 1) hx hb d_Law_law_1018 (by decide) ?_
      refine lv_iadd hx hb d_Law_law_1019 ?_
      refine va_sld hx hb hX hbl hbA hS (inb_in hi306) d_Law_law_1020 ?_
      refine lv_aload_n hx hb d_Law_law_1021 rfl (lv_at hl 1 rfl) ?_
      refine lv_iload hx hb d_Law_law_1022 (lv_at hl 5 rfl) ?_
      refine lv_iconst (v := 2) hx hb d_Law_law_1024 (by decide) ?_
      refine lv_iadd hx hb d_Law_law_1025 ?_
      refine va_sld hx hb hX hbl hbA hS (inb_in hi307) d_Law_law_1026 ?_
      obtain ⟨v330, o_331, hG329, h⟩ := bind2_some h
      refine bw_call (Lc := [wMod ct a13 o13]) (Lc' := [wMod ct a13 o_331]) (L' := [wPF ct a0 (a1 0) (a4 0) (a6 0) (a7 0) (a8 0) v0 o0, wReader ct a1 (a2 0) o1, wText ct a2 (a3 0) o2, wSteps ct a3 o3, wText ct a4 (a5 0) o4, wSteps ct a5 o5, wReckoner ct a6 o6, wCells ct a7 o7, wCells ct a8 o8, wCells ct a9 o9, wCells ct a10 o10, wCells ct a11 o11, wCells ct a12 o12, wMod ct a13 o_331, wOut ct a14 o_326]) [13] (va_runV (As := [.int (xs (Int32.toNatClampNeg (x4 + (1 : Int32)))), .int (xs (Int32.toNatClampNeg (x4 + (2 : Int32))))]) (rest := []) ⟨hx, hb, hml, hown, hts⟩ (c_Mod_differs l ct dC dI a13 _ (xs (Int32.toNatClampNeg (x4 + (1 : Int32)))) (xs (Int32.toNatClampNeg (x4 + (2 : Int32)))) o13 v330 o_331 hG329) (cwV 2 hts g_Law_127 rfl rfl rfl (by decide +kernel) ⟨Nat.le_of_ble_eq_true rfl, Nat.le_of_ble_eq_true rfl⟩) ⟨bw_blind nx_call, va_recv hK (hP 13 _ rfl) (ci := 6) (q0 := 0) rfl rfl, fun U hU hW => ⟨rfl, by rw [hU], by rw [hU]; exact hP.sub [13] rfl, va_K.moved hW.alike hK, (hN.sub [13] (by decide) rfl).weaken (fun _ _ => trivial), nx_warm hW hnx⟩⟩ rfl rfl hl.1 rfl (Nat.le_of_ble_eq_true rfl) d_Law_law_1027 ⟨by rw [room_c]; omega, by rw [room_s]; omega⟩) hP hN hS hA rfl rfl rfl (fun H locs hP hS => ?_)
      refine lv_istore (lv' := [(6, .int v330), (5, .int v325), (0, .ref b), (1, .ref (a0 0)), (2, .ref (a13 0)), (3, .ref (a14 0)), (4, .int x4)]) hx hb d_Law_law_1030 hl (by decide) rfl (fun ls hl => ?_)
      refine lv_aload_n hx hb d_Law_law_1032 rfl (lv_at hl 4 rfl) ?_
      obtain ⟨v333, hG332, h⟩ := bind1_some h
      refine bw_callR (va_runV (As := []) (rest := []) ⟨hx, hb, hml, hown, hts⟩ (c_Mod_thrown l ct dC dI a13 _ o_331 v333 hG332) (cwV 0 hts g_Law_83 rfl rfl rfl (by decide +kernel) ⟨Nat.le_of_ble_eq_true rfl, Nat.le_of_ble_eq_true rfl⟩) ⟨bw_blind nx_call, va_recv hK (hP 13 _ rfl) (ci := 6) (q0 := 0) rfl rfl, fun U hU hW => ⟨rfl, by rw [hU], by rw [hU]; exact hP.sub [13] rfl, va_K.moved hW.alike hK, (hN.sub [13] (by decide) rfl).weaken (fun _ _ => trivial), nx_warm hW hnx⟩⟩ rfl rfl hl.1 rfl (Nat.le_of_ble_eq_true rfl) d_Law_law_1033 ⟨by rw [room_c]; omega, by rw [room_s]; omega⟩) ?_
      refine lv_iload hx hb d_Law_law_1036 (lv_at hl 1 rfl) ?_
      refine lv_icmp_eq (tgt := 1043) hx hb d_Law_law_1038 (by decide) (fun c334 => ?_) (fun c334 => ?_)
      · have h := ite_t c334 h
        refine lv_iload hx hb d_Law_law_1043 (lv_at hl 1 rfl) ?_
        refine lv_if_ne (tgt := 1060) hx hb d_Law_law_1045 (by decide) (fun c335 => ?_) (fun c335 => ?_)
        · have h := ite_f c335 h
          refine lv_goto (tgt := 1128) hx hb d_Law_law_1060 (by decide) ?_
          refine lv_iinc (v := (x4 + (6 : Int32))) (lv' := [(4, .int (x4 + (6 : Int32))), (6, .int v330), (5, .int v325), (0, .ref b), (1, .ref (a0 0)), (2, .ref (a13 0)), (3, .ref (a14 0))]) hx hb d_Law_law_1128 hl (k := 6) rfl rfl (by decide) rfl (fun ls hl => ?_)
          refine lv_goto (tgt := 23) hx hb d_Law_law_1131 (by decide) ?_
          refine W.widen (k := 200 + (it + 1)) (n := 40000 + 6 * (it + 1)) (by omega) (by omega) ?_
          exact hk23 a0 a1 a2 a3 a4 a5 a6 a7 a8 a9 a10 a11 a12 a13 a14 v0 (x4 + (6 : Int32)) o0 o1 o2 o3 o4 o5 o6 o7 o8 o9 o10 o11 o12 o_331 o_326 _ _ _ hN hver hP hS (lv_sub hl [3, 4, 5, 6, 0] rfl) h
        · have h := ite_t c335 h
          refine lv_aload_n hx hb d_Law_law_1048 rfl (lv_at hl 5 rfl) ?_
          refine lv_iconst (v := 0) hx hb d_Law_law_1049 (by decide) ?_
          obtain ⟨hi336, h⟩ := chk_some h
          refine va_lald (f := g64 o_326 0) hx hb hK (hP 14 _ rfl) 0 1 rfl rfl (inb_in hi336) d_Law_law_1050 ?_
          refine lv_iload hx hb d_Law_law_1051 (lv_at hl 0 rfl) ?_
          refine lv_i2l (v := (Int32.toInt64 v330)) hx hb d_Law_law_1053 rfl ?_
          refine W.lcmp hx hb d_Law_law_1054 ?_
          refine lv_if_eq (tgt := 1060) hx hb d_Law_law_1055 (by decide) (fun c337 => ?_) (fun c337 => ?_)
          · have h := ite_t c337 h
            refine lv_goto (tgt := 1128) hx hb d_Law_law_1060 (by decide) ?_
            refine lv_iinc (v := (x4 + (6 : Int32))) (lv' := [(4, .int (x4 + (6 : Int32))), (6, .int v330), (5, .int v325), (0, .ref b), (1, .ref (a0 0)), (2, .ref (a13 0)), (3, .ref (a14 0))]) hx hb d_Law_law_1128 hl (k := 6) rfl rfl (by decide) rfl (fun ls hl => ?_)
            refine lv_goto (tgt := 23) hx hb d_Law_law_1131 (by decide) ?_
            refine W.widen (k := 200 + (it + 1)) (n := 40000 + 6 * (it + 1)) (by omega) (by omega) ?_
            exact hk23 a0 a1 a2 a3 a4 a5 a6 a7 a8 a9 a10 a11 a12 a13 a14 v0 (x4 + (6 : Int32)) o0 o1 o2 o3 o4 o5 o6 o7 o8 o9 o10 o11 o12 o_331 o_326 _ _ _ hN hver hP hS (lv_sub hl [3, 4, 5, 6, 0] rfl) h
          · have h := ite_f c337 h
            refine lv_iconst (v := 0) hx hb d_Law_law_1058 (by decide) ?_
            cases h
      · have h := ite_f c334 h
        refine lv_iconst (v := 0) hx hb d_Law_law_1041 (by decide) ?_
        cases h
    · have h := ite_f c323 h
      by_cases c338 : (xs (Int32.toNatClampNeg (x4 + (1 : Int32)))) = 2
      · have h := ite_t c338 h
        obtain ⟨v340, o_341, hG339, h⟩ := bind2_some h
        refine bw_call (Lc := [wPF ct a0 (a1 0) (a4 0) (a6 0) (a7 0) (a8 0) v0 o0, wCells ct a7 o7, wCells ct a11 o11, wOut ct a14 o14]) (Lc' := [wPF ct a0 (a1 0) (a4 0) (a6 0) (a7 0) (a8 0) v0 o0, wCells ct a7 o7, wCells ct a11 o11, wOut ct a14 o_341]) (L' := [wPF ct a0 (a1 0) (a4 0) (a6 0) (a7 0) (a8 0) v0 o0, wReader ct a1 (a2 0) o1, wText ct a2 (a3 0) o2, wSteps ct a3 o3, wText ct a4 (a5 0) o4, wSteps ct a5 o5, wReckoner ct a6 o6, wCells ct a7 o7, wCells ct a8 o8, wCells ct a9 o9, wCells ct a10 o10, wCells ct a11 o11, wCells ct a12 o12, wMod ct a13 o13, wOut ct a14 o_341]) [0, 7, 11, 14] (bt_runSW (n := 4) (As := [.ref (a0 0), .int (xs (Int32.toNatClampNeg (x4 + (1 : Int32)))), .int (xs (Int32.toNatClampNeg (x4 + (2 : Int32)))), .ref (a14 0)]) (rest := []) ⟨hx, hb, hml, hown, hts⟩ (c_Law_differs l hl0 ct dC dI a0 a7 a11 a14 (a1 0) (a4 0) (a6 0) (a8 0) v0 _ (xs (Int32.toNatClampNeg (x4 + (1 : Int32)))) (xs (Int32.toNatClampNeg (x4 + (2 : Int32)))) o0 o7 o11 o14 v340 o_341 (fun _ => by rw [c338]; exact hver.2.2.1) hG339) (gd_any cd_Law_differs) rfl rfl rfl (hts _ ini_Law) (hts _ ml_Law_125) (hts _ st_Law_differs) (by decide +kernel) ⟨Nat.le_of_ble_eq_true rfl, Nat.le_of_ble_eq_true rfl⟩ ⟨bw_blind thh_call, fun U hU hW => ⟨rfl, by rw [hU], by rw [hU]; exact hP.sub [0, 7, 11, 14] rfl, va_K.moved hW.alike hK, (hN.sub [0, 7, 11, 14] (by decide) rfl).weaken (fun _ _ => trivial), ⟨nx_warm hW hnx, thy_x hthy hS hAs hW hU, exX.moved hW.alike hex9⟩⟩⟩ rfl rfl hl.1 rfl (Nat.le_of_ble_eq_true rfl) d_Law_law_1009 ⟨by rw [room_c]; omega, by rw [room_s]; omega⟩) hP hN hS hA rfl rfl rfl (fun H locs hP hS => ?_)
        refine lv_istore (lv' := [(5, .int v340), (0, .ref b), (1, .ref (a0 0)), (2, .ref (a13 0)), (3, .ref (a14 0)), (4, .int x4)]) hx hb d_Law_law_1012 hl (by decide) rfl (fun ls hl => ?_)
        refine lv_aload_n hx hb d_Law_law_1014 rfl (lv_at hl 3 rfl) ?_
        refine lv_aload_n hx hb d_Law_law_1015 rfl (lv_at hl 1 rfl) ?_
        refine lv_iload hx hb d_Law_law_1016 (lv_at hl 5 rfl) ?_
        refine lv_iconst (v := 1) hx hb d_Law_law_1018 (by decide) ?_
        refine lv_iadd hx hb d_Law_law_1019 ?_
        refine va_sld hx hb hX hbl hbA hS (inb_in hi306) d_Law_law_1020 ?_
        refine lv_aload_n hx hb d_Law_law_1021 rfl (lv_at hl 1 rfl) ?_
        refine lv_iload hx hb d_Law_law_1022 (lv_at hl 5 rfl) ?_
        refine lv_iconst (v := 2) hx hb d_Law_law_1024 (by decide) ?_
        refine lv_iadd hx hb d_Law_law_1025 ?_
        refine va_sld hx hb hX hbl hbA hS (inb_in hi307) d_Law_law_1026 ?_
        obtain ⟨v345, o_346, hG344, h⟩ := bind2_some h
        refine bw_call (Lc := [wMod ct a13 o13]) (Lc' := [wMod ct a13 o_346]) (L' := [wPF ct a0 (a1 0) (a4 0) (a6 0) (a7 0) (a8 0) v0 o0, wReader ct a1 (a2 0) o1, wText ct a2 (a3 0) o2, wSteps ct a3 o3, wText ct a4 (a5 0) o4, wSteps ct a5 o5, wReckoner ct a6 o6, wCells ct a7 o7, wCells ct a8 o8, wCells ct a9 o9, wCells ct a10 o10, wCells ct a11 o11, wCells ct a12 o12, wMod ct a13 o_346, wOut ct a14 o_341]) [13] (va_runV (As := [.int (xs (Int32.toNatClampNeg (x4 + (1 : Int32)))), .int (xs (Int32.toNatClampNeg (x4 + (2 : Int32))))]) (rest := []) ⟨hx, hb, hml, hown, hts⟩ (c_Mod_differs l ct dC dI a13 _ (xs (Int32.toNatClampNeg (x4 + (1 : Int32)))) (xs (Int32.toNatClampNeg (x4 + (2 : Int32)))) o13 v345 o_346 hG344) (cwV 2 hts g_Law_127 rfl rfl rfl (by decide +kernel) ⟨Nat.le_of_ble_eq_true rfl, Nat.le_of_ble_eq_true rfl⟩) ⟨bw_blind nx_call, va_recv hK (hP 13 _ rfl) (ci := 6) (q0 := 0) rfl rfl, fun U hU hW => ⟨rfl, by rw [hU], by rw [hU]; exact hP.sub [13] rfl, va_K.moved hW.alike hK, (hN.sub [13] (by decide) rfl).weaken (fun _ _ => trivial), nx_warm hW hnx⟩⟩ rfl rfl hl.1 rfl (Nat.le_of_ble_eq_true rfl) d_Law_law_1027 ⟨by rw [room_c]; omega, by rw [room_s]; omega⟩) hP hN hS hA rfl rfl rfl (fun H locs hP hS => ?_)
        refine lv_istore (lv' := [(6, .int v345), (5, .int v340), (0, .ref b), (1, .ref (a0 0)), (2, .ref (a13 0)), (3, .ref (a14 0)), (4, .int x4)]) hx hb d_Law_law_1030 hl (by decide) rfl (fun ls hl => ?_)
        refine lv_aload_n hx hb d_Law_law_1032 rfl (lv_at hl 4 rfl) ?_
        obtain ⟨v348, hG347, h⟩ := bind1_some h
        refine bw_callR (va_runV (As := []) (rest := []) ⟨hx, hb, hml, hown, hts⟩ (c_Mod_thrown l ct dC dI a13 _ o_346 v348 hG347) (cwV 0 hts g_Law_83 rfl rfl rfl (by decide +kernel) ⟨Nat.le_of_ble_eq_true rfl, Nat.le_of_ble_eq_true rfl⟩) ⟨bw_blind nx_call, va_recv hK (hP 13 _ rfl) (ci := 6) (q0 := 0) rfl rfl, fun U hU hW => ⟨rfl, by rw [hU], by rw [hU]; exact hP.sub [13] rfl, va_K.moved hW.alike hK, (hN.sub [13] (by decide) rfl).weaken (fun _ _ => trivial), nx_warm hW hnx⟩⟩ rfl rfl hl.1 rfl (Nat.le_of_ble_eq_true rfl) d_Law_law_1033 ⟨by rw [room_c]; omega, by rw [room_s]; omega⟩) ?_
        refine lv_iload hx hb d_Law_law_1036 (lv_at hl 1 rfl) ?_
        refine lv_icmp_eq (tgt := 1043) hx hb d_Law_law_1038 (by decide) (fun c349 => ?_) (fun c349 => ?_)
        · have h := ite_t c349 h
          refine lv_iload hx hb d_Law_law_1043 (lv_at hl 1 rfl) ?_
          refine lv_if_ne (tgt := 1060) hx hb d_Law_law_1045 (by decide) (fun c350 => ?_) (fun c350 => ?_)
          · have h := ite_f c350 h
            refine lv_goto (tgt := 1128) hx hb d_Law_law_1060 (by decide) ?_
            refine lv_iinc (v := (x4 + (6 : Int32))) (lv' := [(4, .int (x4 + (6 : Int32))), (6, .int v345), (5, .int v340), (0, .ref b), (1, .ref (a0 0)), (2, .ref (a13 0)), (3, .ref (a14 0))]) hx hb d_Law_law_1128 hl (k := 6) rfl rfl (by decide) rfl (fun ls hl => ?_)
            refine lv_goto (tgt := 23) hx hb d_Law_law_1131 (by decide) ?_
            refine W.widen (k := 200 + (it + 1)) (n := 40000 + 6 * (it + 1)) (by omega) (by omega) ?_
            exact hk23 a0 a1 a2 a3 a4 a5 a6 a7 a8 a9 a10 a11 a12 a13 a14 v0 (x4 + (6 : Int32)) o0 o1 o2 o3 o4 o5 o6 o7 o8 o9 o10 o11 o12 o_346 o_341 _ _ _ hN hver hP hS (lv_sub hl [3, 4, 5, 6, 0] rfl) h
          · have h := ite_t c350 h
            refine lv_aload_n hx hb d_Law_law_1048 rfl (lv_at hl 5 rfl) ?_
            refine lv_iconst (v := 0) hx hb d_Law_law_1049 (by decide) ?_
            obtain ⟨hi351, h⟩ := chk_some h
            refine va_lald (f := g64 o_341 0) hx hb hK (hP 14 _ rfl) 0 1 rfl rfl (inb_in hi351) d_Law_law_1050 ?_
            refine lv_iload hx hb d_Law_law_1051 (lv_at hl 0 rfl) ?_
            refine lv_i2l (v := (Int32.toInt64 v345)) hx hb d_Law_law_1053 rfl ?_
            refine W.lcmp hx hb d_Law_law_1054 ?_
            refine lv_if_eq (tgt := 1060) hx hb d_Law_law_1055 (by decide) (fun c352 => ?_) (fun c352 => ?_)
            · have h := ite_t c352 h
              refine lv_goto (tgt := 1128) hx hb d_Law_law_1060 (by decide) ?_
              refine lv_iinc (v := (x4 + (6 : Int32))) (lv' := [(4, .int (x4 + (6 : Int32))), (6, .int v345), (5, .int v340), (0, .ref b), (1, .ref (a0 0)), (2, .ref (a13 0)), (3, .ref (a14 0))]) hx hb d_Law_law_1128 hl (k := 6) rfl rfl (by decide) rfl (fun ls hl => ?_)
              refine lv_goto (tgt := 23) hx hb d_Law_law_1131 (by decide) ?_
              refine W.widen (k := 200 + (it + 1)) (n := 40000 + 6 * (it + 1)) (by omega) (by omega) ?_
              exact hk23 a0 a1 a2 a3 a4 a5 a6 a7 a8 a9 a10 a11 a12 a13 a14 v0 (x4 + (6 : Int32)) o0 o1 o2 o3 o4 o5 o6 o7 o8 o9 o10 o11 o12 o_346 o_341 _ _ _ hN hver hP hS (lv_sub hl [3, 4, 5, 6, 0] rfl) h
            · have h := ite_f c352 h
              refine lv_iconst (v := 0) hx hb d_Law_law_1058 (by decide) ?_
              cases h
        · have h := ite_f c349 h
          refine lv_iconst (v := 0) hx hb d_Law_law_1041 (by decide) ?_
          cases h
      · have h := ite_f c338 h
        by_cases c353 : (xs (Int32.toNatClampNeg (x4 + (1 : Int32)))) = 3
        · have h := ite_t c353 h
          obtain ⟨v355, o_356, hG354, h⟩ := bind2_some h
          refine bw_call (Lc := [wPF ct a0 (a1 0) (a4 0) (a6 0) (a7 0) (a8 0) v0 o0, wCells ct a7 o7, wCells ct a12 o12, wOut ct a14 o14]) (Lc' := [wPF ct a0 (a1 0) (a4 0) (a6 0) (a7 0) (a8 0) v0 o0, wCells ct a7 o7, wCells ct a12 o12, wOut ct a14 o_356]) (L' := [wPF ct a0 (a1 0) (a4 0) (a6 0) (a7 0) (a8 0) v0 o0, wReader ct a1 (a2 0) o1, wText ct a2 (a3 0) o2, wSteps ct a3 o3, wText ct a4 (a5 0) o4, wSteps ct a5 o5, wReckoner ct a6 o6, wCells ct a7 o7, wCells ct a8 o8, wCells ct a9 o9, wCells ct a10 o10, wCells ct a11 o11, wCells ct a12 o12, wMod ct a13 o13, wOut ct a14 o_356]) [0, 7, 12, 14] (bt_runSW (n := 4) (As := [.ref (a0 0), .int (xs (Int32.toNatClampNeg (x4 + (1 : Int32)))), .int (xs (Int32.toNatClampNeg (x4 + (2 : Int32)))), .ref (a14 0)]) (rest := []) ⟨hx, hb, hml, hown, hts⟩ (c_Law_differs l hl0 ct dC dI a0 a7 a12 a14 (a1 0) (a4 0) (a6 0) (a8 0) v0 _ (xs (Int32.toNatClampNeg (x4 + (1 : Int32)))) (xs (Int32.toNatClampNeg (x4 + (2 : Int32)))) o0 o7 o12 o14 v355 o_356 (fun _ => by rw [c353]; exact hver.2.2.2) hG354) (gd_any cd_Law_differs) rfl rfl rfl (hts _ ini_Law) (hts _ ml_Law_125) (hts _ st_Law_differs) (by decide +kernel) ⟨Nat.le_of_ble_eq_true rfl, Nat.le_of_ble_eq_true rfl⟩ ⟨bw_blind thh_call, fun U hU hW => ⟨rfl, by rw [hU], by rw [hU]; exact hP.sub [0, 7, 12, 14] rfl, va_K.moved hW.alike hK, (hN.sub [0, 7, 12, 14] (by decide) rfl).weaken (fun _ _ => trivial), ⟨nx_warm hW hnx, thy_x hthy hS hAs hW hU, exX.moved hW.alike hex9⟩⟩⟩ rfl rfl hl.1 rfl (Nat.le_of_ble_eq_true rfl) d_Law_law_1009 ⟨by rw [room_c]; omega, by rw [room_s]; omega⟩) hP hN hS hA rfl rfl rfl (fun H locs hP hS => ?_)
          refine lv_istore (lv' := [(5, .int v355), (0, .ref b), (1, .ref (a0 0)), (2, .ref (a13 0)), (3, .ref (a14 0)), (4, .int x4)]) hx hb d_Law_law_1012 hl (by decide) rfl (fun ls hl => ?_)
          refine lv_aload_n hx hb d_Law_law_1014 rfl (lv_at hl 3 rfl) ?_
          refine lv_aload_n hx hb d_Law_law_1015 rfl (lv_at hl 1 rfl) ?_
          refine lv_iload hx hb d_Law_law_1016 (lv_at hl 5 rfl) ?_
          refine lv_iconst (v := 1) hx hb d_Law_law_1018 (by decide) ?_
          refine lv_iadd hx hb d_Law_law_1019 ?_
          refine va_sld hx hb hX hbl hbA hS (inb_in hi306) d_Law_law_1020 ?_
          refine lv_aload_n hx hb d_Law_law_1021 rfl (lv_at hl 1 rfl) ?_
          refine lv_iload hx hb d_Law_law_1022 (lv_at hl 5 rfl) ?_
          refine lv_iconst (v := 2) hx hb d_Law_law_1024 (by decide) ?_
          refine lv_iadd hx hb d_Law_law_1025 ?_
          refine va_sld hx hb hX hbl hbA hS (inb_in hi307) d_Law_law_1026 ?_
          obtain ⟨v360, o_361, hG359, h⟩ := bind2_some h
          refine bw_call (Lc := [wMod ct a13 o13]) (Lc' := [wMod ct a13 o_361]) (L' := [wPF ct a0 (a1 0) (a4 0) (a6 0) (a7 0) (a8 0) v0 o0, wReader ct a1 (a2 0) o1, wText ct a2 (a3 0) o2, wSteps ct a3 o3, wText ct a4 (a5 0) o4, wSteps ct a5 o5, wReckoner ct a6 o6, wCells ct a7 o7, wCells ct a8 o8, wCells ct a9 o9, wCells ct a10 o10, wCells ct a11 o11, wCells ct a12 o12, wMod ct a13 o_361, wOut ct a14 o_356]) [13] (va_runV (As := [.int (xs (Int32.toNatClampNeg (x4 + (1 : Int32)))), .int (xs (Int32.toNatClampNeg (x4 + (2 : Int32))))]) (rest := []) ⟨hx, hb, hml, hown, hts⟩ (c_Mod_differs l ct dC dI a13 _ (xs (Int32.toNatClampNeg (x4 + (1 : Int32)))) (xs (Int32.toNatClampNeg (x4 + (2 : Int32)))) o13 v360 o_361 hG359) (cwV 2 hts g_Law_127 rfl rfl rfl (by decide +kernel) ⟨Nat.le_of_ble_eq_true rfl, Nat.le_of_ble_eq_true rfl⟩) ⟨bw_blind nx_call, va_recv hK (hP 13 _ rfl) (ci := 6) (q0 := 0) rfl rfl, fun U hU hW => ⟨rfl, by rw [hU], by rw [hU]; exact hP.sub [13] rfl, va_K.moved hW.alike hK, (hN.sub [13] (by decide) rfl).weaken (fun _ _ => trivial), nx_warm hW hnx⟩⟩ rfl rfl hl.1 rfl (Nat.le_of_ble_eq_true rfl) d_Law_law_1027 ⟨by rw [room_c]; omega, by rw [room_s]; omega⟩) hP hN hS hA rfl rfl rfl (fun H locs hP hS => ?_)
          refine lv_istore (lv' := [(6, .int v360), (5, .int v355), (0, .ref b), (1, .ref (a0 0)), (2, .ref (a13 0)), (3, .ref (a14 0)), (4, .int x4)]) hx hb d_Law_law_1030 hl (by decide) rfl (fun ls hl => ?_)
          refine lv_aload_n hx hb d_Law_law_1032 rfl (lv_at hl 4 rfl) ?_
          obtain ⟨v363, hG362, h⟩ := bind1_some h
          refine bw_callR (va_runV (As := []) (rest := []) ⟨hx, hb, hml, hown, hts⟩ (c_Mod_thrown l ct dC dI a13 _ o_361 v363 hG362) (cwV 0 hts g_Law_83 rfl rfl rfl (by decide +kernel) ⟨Nat.le_of_ble_eq_true rfl, Nat.le_of_ble_eq_true rfl⟩) ⟨bw_blind nx_call, va_recv hK (hP 13 _ rfl) (ci := 6) (q0 := 0) rfl rfl, fun U hU hW => ⟨rfl, by rw [hU], by rw [hU]; exact hP.sub [13] rfl, va_K.moved hW.alike hK, (hN.sub [13] (by decide) rfl).weaken (fun _ _ => trivial), nx_warm hW hnx⟩⟩ rfl rfl hl.1 rfl (Nat.le_of_ble_eq_true rfl) d_Law_law_1033 ⟨by rw [room_c]; omega, by rw [room_s]; omega⟩) ?_
          refine lv_iload hx hb d_Law_law_1036 (lv_at hl 1 rfl) ?_
          refine lv_icmp_eq (tgt := 1043) hx hb d_Law_law_1038 (by decide) (fun c364 => ?_) (fun c364 => ?_)
          · have h := ite_t c364 h
            refine lv_iload hx hb d_Law_law_1043 (lv_at hl 1 rfl) ?_
            refine lv_if_ne (tgt := 1060) hx hb d_Law_law_1045 (by decide) (fun c365 => ?_) (fun c365 => ?_)
            · have h := ite_f c365 h
              refine lv_goto (tgt := 1128) hx hb d_Law_law_1060 (by decide) ?_
              refine lv_iinc (v := (x4 + (6 : Int32))) (lv' := [(4, .int (x4 + (6 : Int32))), (6, .int v360), (5, .int v355), (0, .ref b), (1, .ref (a0 0)), (2, .ref (a13 0)), (3, .ref (a14 0))]) hx hb d_Law_law_1128 hl (k := 6) rfl rfl (by decide) rfl (fun ls hl => ?_)
              refine lv_goto (tgt := 23) hx hb d_Law_law_1131 (by decide) ?_
              refine W.widen (k := 200 + (it + 1)) (n := 40000 + 6 * (it + 1)) (by omega) (by omega) ?_
              exact hk23 a0 a1 a2 a3 a4 a5 a6 a7 a8 a9 a10 a11 a12 a13 a14 v0 (x4 + (6 : Int32)) o0 o1 o2 o3 o4 o5 o6 o7 o8 o9 o10 o11 o12 o_361 o_356 _ _ _ hN hver hP hS (lv_sub hl [3, 4, 5, 6, 0] rfl) h
            · have h := ite_t c365 h
              refine lv_aload_n hx hb d_Law_law_1048 rfl (lv_at hl 5 rfl) ?_
              refine lv_iconst (v := 0) hx hb d_Law_law_1049 (by decide) ?_
              obtain ⟨hi366, h⟩ := chk_some h
              refine va_lald (f := g64 o_356 0) hx hb hK (hP 14 _ rfl) 0 1 rfl rfl (inb_in hi366) d_Law_law_1050 ?_
              refine lv_iload hx hb d_Law_law_1051 (lv_at hl 0 rfl) ?_
              refine lv_i2l (v := (Int32.toInt64 v360)) hx hb d_Law_law_1053 rfl ?_
              refine W.lcmp hx hb d_Law_law_1054 ?_
              refine lv_if_eq (tgt := 1060) hx hb d_Law_law_1055 (by decide) (fun c367 => ?_) (fun c367 => ?_)
              · have h := ite_t c367 h
                refine lv_goto (tgt := 1128) hx hb d_Law_law_1060 (by decide) ?_
                refine lv_iinc (v := (x4 + (6 : Int32))) (lv' := [(4, .int (x4 + (6 : Int32))), (6, .int v360), (5, .int v355), (0, .ref b), (1, .ref (a0 0)), (2, .ref (a13 0)), (3, .ref (a14 0))]) hx hb d_Law_law_1128 hl (k := 6) rfl rfl (by decide) rfl (fun ls hl => ?_)
                refine lv_goto (tgt := 23) hx hb d_Law_law_1131 (by decide) ?_
                refine W.widen (k := 200 + (it + 1)) (n := 40000 + 6 * (it + 1)) (by omega) (by omega) ?_
                exact hk23 a0 a1 a2 a3 a4 a5 a6 a7 a8 a9 a10 a11 a12 a13 a14 v0 (x4 + (6 : Int32)) o0 o1 o2 o3 o4 o5 o6 o7 o8 o9 o10 o11 o12 o_361 o_356 _ _ _ hN hver hP hS (lv_sub hl [3, 4, 5, 6, 0] rfl) h
              · have h := ite_f c367 h
                refine lv_iconst (v := 0) hx hb d_Law_law_1058 (by decide) ?_
                cases h
          · have h := ite_f c364 h
            refine lv_iconst (v := 0) hx hb d_Law_law_1041 (by decide) ?_
            cases h
        · have h := ite_f c353 h
          obtain ⟨v370, o_371, hG369, h⟩ := bind2_some h
          refine bw_call (Lc := [wPF ct a0 (a1 0) (a4 0) (a6 0) (a7 0) (a8 0) v0 o0, wCells ct a7 o7, wCells ct a9 o9, wOut ct a14 o14]) (Lc' := [wPF ct a0 (a1 0) (a4 0) (a6 0) (a7 0) (a8 0) v0 o0, wCells ct a7 o7, wCells ct a9 o9, wOut ct a14 o_371]) (L' := [wPF ct a0 (a1 0) (a4 0) (a6 0) (a7 0) (a8 0) v0 o0, wReader ct a1 (a2 0) o1, wText ct a2 (a3 0) o2, wSteps ct a3 o3, wText ct a4 (a5 0) o4, wSteps ct a5 o5, wReckoner ct a6 o6, wCells ct a7 o7, wCells ct a8 o8, wCells ct a9 o9, wCells ct a10 o10, wCells ct a11 o11, wCells ct a12 o12, wMod ct a13 o13, wOut ct a14 o_371]) [0, 7, 9, 14] (bt_runSW (n := 4) (As := [.ref (a0 0), .int (xs (Int32.toNatClampNeg (x4 + (1 : Int32)))), .int (xs (Int32.toNatClampNeg (x4 + (2 : Int32)))), .ref (a14 0)]) (rest := []) ⟨hx, hb, hml, hown, hts⟩ (c_Law_differs l hl0 ct dC dI a0 a7 a9 a14 (a1 0) (a4 0) (a6 0) (a8 0) v0 _ (xs (Int32.toNatClampNeg (x4 + (1 : Int32)))) (xs (Int32.toNatClampNeg (x4 + (2 : Int32)))) o0 o7 o9 o14 v370 o_371 (fun z9 => ((inb4 z9).elim c308 fun z9 => z9.elim c323 fun z9 => z9.elim c338 c353).elim) hG369) (gd_any cd_Law_differs) rfl rfl rfl (hts _ ini_Law) (hts _ ml_Law_125) (hts _ st_Law_differs) (by decide +kernel) ⟨Nat.le_of_ble_eq_true rfl, Nat.le_of_ble_eq_true rfl⟩ ⟨bw_blind thh_call, fun U hU hW => ⟨rfl, by rw [hU], by rw [hU]; exact hP.sub [0, 7, 9, 14] rfl, va_K.moved hW.alike hK, (hN.sub [0, 7, 9, 14] (by decide) rfl).weaken (fun _ _ => trivial), ⟨nx_warm hW hnx, thy_x hthy hS hAs hW hU, exX.moved hW.alike hex9⟩⟩⟩ rfl rfl hl.1 rfl (Nat.le_of_ble_eq_true rfl) d_Law_law_1009 ⟨by rw [room_c]; omega, by rw [room_s]; omega⟩) hP hN hS hA rfl rfl rfl (fun H locs hP hS => ?_)
          refine lv_istore (lv' := [(5, .int v370), (0, .ref b), (1, .ref (a0 0)), (2, .ref (a13 0)), (3, .ref (a14 0)), (4, .int x4)]) hx hb d_Law_law_1012 hl (by decide) rfl (fun ls hl => ?_)
          refine lv_aload_n hx hb d_Law_law_1014 rfl (lv_at hl 3 rfl) ?_
          refine lv_aload_n hx hb d_Law_law_1015 rfl (lv_at hl 1 rfl) ?_
          refine lv_iload hx hb d_Law_law_1016 (lv_at hl 5 rfl) ?_
          refine lv_iconst (v := 1) hx hb d_Law_law_1018 (by decide) ?_
          refine lv_iadd hx hb d_Law_law_1019 ?_
          refine va_sld hx hb hX hbl hbA hS (inb_in hi306) d_Law_law_1020 ?_
          refine lv_aload_n hx hb d_Law_law_1021 rfl (lv_at hl 1 rfl) ?_
          refine lv_iload hx hb d_Law_law_1022 (lv_at hl 5 rfl) ?_
          refine lv_iconst (v := 2) hx hb d_Law_law_1024 (by decide) ?_
          refine lv_iadd hx hb d_Law_law_1025 ?_
          refine va_sld hx hb hX hbl hbA hS (inb_in hi307) d_Law_law_1026 ?_
          obtain ⟨v375, o_376, hG374, h⟩ := bind2_some h
          refine bw_call (Lc := [wMod ct a13 o13]) (Lc' := [wMod ct a13 o_376]) (L' := [wPF ct a0 (a1 0) (a4 0) (a6 0) (a7 0) (a8 0) v0 o0, wReader ct a1 (a2 0) o1, wText ct a2 (a3 0) o2, wSteps ct a3 o3, wText ct a4 (a5 0) o4, wSteps ct a5 o5, wReckoner ct a6 o6, wCells ct a7 o7, wCells ct a8 o8, wCells ct a9 o9, wCells ct a10 o10, wCells ct a11 o11, wCells ct a12 o12, wMod ct a13 o_376, wOut ct a14 o_371]) [13] (va_runV (As := [.int (xs (Int32.toNatClampNeg (x4 + (1 : Int32)))), .int (xs (Int32.toNatClampNeg (x4 + (2 : Int32))))]) (rest := []) ⟨hx, hb, hml, hown, hts⟩ (c_Mod_differs l ct dC dI a13 _ (xs (Int32.toNatClampNeg (x4 + (1 : Int32)))) (xs (Int32.toNatClampNeg (x4 + (2 : Int32)))) o13 v375 o_376 hG374) (cwV 2 hts g_Law_127 rfl rfl rfl (by decide +kernel) ⟨Nat.le_of_ble_eq_true rfl, Nat.le_of_ble_eq_true rfl⟩) ⟨bw_blind nx_call, va_recv hK (hP 13 _ rfl) (ci := 6) (q0 := 0) rfl rfl, fun U hU hW => ⟨rfl, by rw [hU], by rw [hU]; exact hP.sub [13] rfl, va_K.moved hW.alike hK, (hN.sub [13] (by decide) rfl).weaken (fun _ _ => trivial), nx_warm hW hnx⟩⟩ rfl rfl hl.1 rfl (Nat.le_of_ble_eq_true rfl) d_Law_law_1027 ⟨by rw [room_c]; omega, by rw [room_s]; omega⟩) hP hN hS hA rfl rfl rfl (fun H locs hP hS => ?_)
          refine lv_istore (lv' := [(6, .int v375), (5, .int v370), (0, .ref b), (1, .ref (a0 0)), (2, .ref (a13 0)), (3, .ref (a14 0)), (4, .int x4)]) hx hb d_Law_law_1030 hl (by decide) rfl (fun ls hl => ?_)
          refine lv_aload_n hx hb d_Law_law_1032 rfl (lv_at hl 4 rfl) ?_
          obtain ⟨v378, hG377, h⟩ := bind1_some h
          refine bw_callR (va_runV (As := []) (rest := []) ⟨hx, hb, hml, hown, hts⟩ (c_Mod_thrown l ct dC dI a13 _ o_376 v378 hG377) (cwV 0 hts g_Law_83 rfl rfl rfl (by decide +kernel) ⟨Nat.le_of_ble_eq_true rfl, Nat.le_of_ble_eq_true rfl⟩) ⟨bw_blind nx_call, va_recv hK (hP 13 _ rfl) (ci := 6) (q0 := 0) rfl rfl, fun U hU hW => ⟨rfl, by rw [hU], by rw [hU]; exact hP.sub [13] rfl, va_K.moved hW.alike hK, (hN.sub [13] (by decide) rfl).weaken (fun _ _ => trivial), nx_warm hW hnx⟩⟩ rfl rfl hl.1 rfl (Nat.le_of_ble_eq_true rfl) d_Law_law_1033 ⟨by rw [room_c]; omega, by rw [room_s]; omega⟩) ?_
          refine lv_iload hx hb d_Law_law_1036 (lv_at hl 1 rfl) ?_
          refine lv_icmp_eq (tgt := 1043) hx hb d_Law_law_1038 (by decide) (fun c379 => ?_) (fun c379 => ?_)
          · have h := ite_t c379 h
            refine lv_iload hx hb d_Law_law_1043 (lv_at hl 1 rfl) ?_
            refine lv_if_ne (tgt := 1060) hx hb d_Law_law_1045 (by decide) (fun c380 => ?_) (fun c380 => ?_)
            · have h := ite_f c380 h
              refine lv_goto (tgt := 1128) hx hb d_Law_law_1060 (by decide) ?_
              refine lv_iinc (v := (x4 + (6 : Int32))) (lv' := [(4, .int (x4 + (6 : Int32))), (6, .int v375), (5, .int v370), (0, .ref b), (1, .ref (a0 0)), (2, .ref (a13 0)), (3, .ref (a14 0))]) hx hb d_Law_law_1128 hl (k := 6) rfl rfl (by decide) rfl (fun ls hl => ?_)
              refine lv_goto (tgt := 23) hx hb d_Law_law_1131 (by decide) ?_
              refine W.widen (k := 200 + (it + 1)) (n := 40000 + 6 * (it + 1)) (by omega) (by omega) ?_
              exact hk23 a0 a1 a2 a3 a4 a5 a6 a7 a8 a9 a10 a11 a12 a13 a14 v0 (x4 + (6 : Int32)) o0 o1 o2 o3 o4 o5 o6 o7 o8 o9 o10 o11 o12 o_376 o_371 _ _ _ hN hver hP hS (lv_sub hl [3, 4, 5, 6, 0] rfl) h
            · have h := ite_t c380 h
              refine lv_aload_n hx hb d_Law_law_1048 rfl (lv_at hl 5 rfl) ?_
              refine lv_iconst (v := 0) hx hb d_Law_law_1049 (by decide) ?_
              obtain ⟨hi381, h⟩ := chk_some h
              refine va_lald (f := g64 o_371 0) hx hb hK (hP 14 _ rfl) 0 1 rfl rfl (inb_in hi381) d_Law_law_1050 ?_
              refine lv_iload hx hb d_Law_law_1051 (lv_at hl 0 rfl) ?_
              refine lv_i2l (v := (Int32.toInt64 v375)) hx hb d_Law_law_1053 rfl ?_
              refine W.lcmp hx hb d_Law_law_1054 ?_
              refine lv_if_eq (tgt := 1060) hx hb d_Law_law_1055 (by decide) (fun c382 => ?_) (fun c382 => ?_)
              · have h := ite_t c382 h
                refine lv_goto (tgt := 1128) hx hb d_Law_law_1060 (by decide) ?_
                refine lv_iinc (v := (x4 + (6 : Int32))) (lv' := [(4, .int (x4 + (6 : Int32))), (6, .int v375), (5, .int v370), (0, .ref b), (1, .ref (a0 0)), (2, .ref (a13 0)), (3, .ref (a14 0))]) hx hb d_Law_law_1128 hl (k := 6) rfl rfl (by decide) rfl (fun ls hl => ?_)
                refine lv_goto (tgt := 23) hx hb d_Law_law_1131 (by decide) ?_
                refine W.widen (k := 200 + (it + 1)) (n := 40000 + 6 * (it + 1)) (by omega) (by omega) ?_
                exact hk23 a0 a1 a2 a3 a4 a5 a6 a7 a8 a9 a10 a11 a12 a13 a14 v0 (x4 + (6 : Int32)) o0 o1 o2 o3 o4 o5 o6 o7 o8 o9 o10 o11 o12 o_376 o_371 _ _ _ hN hver hP hS (lv_sub hl [3, 4, 5, 6, 0] rfl) h
              · have h := ite_f c382 h
                refine lv_iconst (v := 0) hx hb d_Law_law_1058 (by decide) ?_
                cases h
          · have h := ite_f c379 h
            refine lv_iconst (v := 0) hx hb d_Law_law_1041 (by decide) ?_
            cases h
