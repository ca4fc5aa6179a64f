/-! THE LAW: case at 397 -/
def F_Law_law_397 (L : Nat) (xs : Nat → Int32) (k23 : Int32 → Ob → Ob → Ob → Ob → Ob → Ob → Ob → Ob → Ob → Ob → Ob → Ob → Ob → Ob → Ob → Option Unit) (x4 : Int32) (o0 o1 o2 o3 o4 o5 o6 o7 o8 o9 o10 o11 o12 o13 o14 : Ob) : Option Unit :=
  chk (inb (x4 + (1 : Int32)) L) (chk (inb (x4 + (2 : Int32)) L) (chk (inb (x4 + (3 : Int32)) L) (bind2 (F_Law_size (xs (Int32.toNatClampNeg (x4 + (1 : Int32)))) (xs (Int32.toNatClampNeg (x4 + (2 : Int32)))) (xs (Int32.toNatClampNeg (x4 + (3 : Int32)))) o0 o7 o14) (fun v99 o_100 => bind2 (F_Mod_size (xs (Int32.toNatClampNeg (x4 + (1 : Int32)))) (xs (Int32.toNatClampNeg (x4 + (2 : Int32)))) (xs (Int32.toNatClampNeg (x4 + (3 : Int32)))) o13) (fun v105 o_106 => k23 (x4 + (6 : Int32)) o0 o1 o2 o3 o4 o5 o6 o7 o8 o9 o10 o11 o12 o_106 o_100)))))
set_option maxHeartbeats 8000000 in
set_option maxRecDepth 100000 in
theorem k_Law_law_397 {p : Program} {l : Launch} {e : Env} {s : State} {m : MethodId} {below : List Frame} {meth : Method} {c : Code} {b L : Nat} {xs : Nat → Int32} {A : Nat → Prop} {ct dC : Nat → ClassId} {dI : Nat → Nat → Nat} (C0 : lcx p s m meth c b L xs A ct dC dI) (hl0 : l.stackTraces = false) {it : Nat} (hit : it + 1 ≤ 600) {k23 : Int32 → Ob → Ob → Ob → Ob → Ob → Ob → Ob → Ob → Ob → Ob → Ob → Ob → Ob → Ob → Ob → Option Unit} (hk23 : ∀ (a0 a1 a2 a3 a4 a5 a6 a7 a8 a9 a10 a11 a12 a13 a14 : Nat → Nat) (v0 : Nat → Nat) (x4 : Int32) (o0 o1 o2 o3 o4 o5 o6 o7 o8 o9 o10 o11 o12 o13 o14 : Ob) (H : Heap) (locs : List Loc) (ls : Array Slot), bw_N A [adPF a0, adReader a1, adText a2, adSteps a3, adText a4, adSteps a5, adReckoner a6, adCells a7, adCells a8, adCells a9, adCells a10, adCells a11, adCells a12, adMod a13, adOut a14] → (v0 0 = a9 0 ∧ v0 1 = a10 0 ∧ v0 2 = a11 0 ∧ v0 3 = a12 0) → bw_P (dC, dI) vwCl [wPF ct a0 (a1 0) (a4 0) (a6 0) (a7 0) (a8 0) v0 o0, wReader ct a1 (a2 0) o1, wText ct a2 (a3 0) o2, wSteps ct a3 o3, wText ct a4 (a5 0) o4, wSteps ct a5 o5, wReckoner ct a6 o6, wCells ct a7 o7, wCells ct a8 o8, wCells ct a9 o9, wCells ct a10 o10, wCells ct a11 o11, wCells ct a12 o12, wMod ct a13 o13, wOut ct a14 o14] H → va_S A s.heap H locs → lv_has ls 8 [(0, .ref b), (1, .ref (a0 0)), (2, .ref (a13 0)), (3, .ref (a14 0)), (4, .int x4)] → k23 x4 o0 o1 o2 o3 o4 o5 o6 o7 o8 o9 o10 o11 o12 o13 o14 = some () → W p l e room_1 s m #[Value.ref b] below meth c H locs (200 + (it + 1)) (40000 + 6 * (it + 1)) (lw_Z below #[Value.ref b] s) (F0 m 23 ls [])) : ∀ (a0 a1 a2 a3 a4 a5 a6 a7 a8 a9 a10 a11 a12 a13 a14 : Nat → Nat) (v0 : Nat → Nat) (x4 : Int32) (o0 o1 o2 o3 o4 o5 o6 o7 o8 o9 o10 o11 o12 o13 o14 : Ob) (H : Heap) (locs : List Loc) (ls : Array Slot), bw_N A [adPF a0, adReader a1, adText a2, adSteps a3, adText a4, adSteps a5, adReckoner a6, adCells a7, adCells a8, adCells a9, adCells a10, adCells a11, adCells a12, adMod a13, adOut a14] → (v0 0 = a9 0 ∧ v0 1 = a10 0 ∧ v0 2 = a11 0 ∧ v0 3 = a12 0) → bw_P (dC, dI) vwCl [wPF ct a0 (a1 0) (a4 0) (a6 0) (a7 0) (a8 0) v0 o0, wReader ct a1 (a2 0) o1, wText ct a2 (a3 0) o2, wSteps ct a3 o3, wText ct a4 (a5 0) o4, wSteps ct a5 o5, wReckoner ct a6 o6, wCells ct a7 o7, wCells ct a8 o8, wCells ct a9 o9, wCells ct a10 o10, wCells ct a11 o11, wCells ct a12 o12, wMod ct a13 o13, wOut ct a14 o14] H → va_S A s.heap H locs → lv_has ls 8 [(0, .ref b), (1, .ref (a0 0)), (2, .ref (a13 0)), (3, .ref (a14 0)), (4, .int x4)] → F_Law_law_397 L xs k23 x4 o0 o1 o2 o3 o4 o5 o6 o7 o8 o9 o10 o11 o12 o13 o14 = some () → W p l e room_1 s m #[Value.ref b] below meth c H locs (200 + it) (40000 + 6 * it) (lw_Z below #[Value.ref b] s) (F0 m 397 ls []) := by
  obtain ⟨hx, hb, hr, hml, hown, hlocks, hts, hK, hA, hAs, hX, hbl, hnx, hthy, hex9, hsx⟩ := id C0
  have hbA : ¬ A b := fun z => absurd (hAs b z) (Nat.not_le.mpr hbl)
  intro a0 a1 a2 a3 a4 a5 a6 a7 a8 a9 a10 a11 a12 a13 a14 v0 x4 o0 o1 o2 o3 o4 o5 o6 o7 o8 o9 o10 o11 o12 o13 o14 H locs ls hN hver hP hS hl h
  rw [F_Law_law_397] at h
  refine lv_aload_n hx hb d_Law_law_397 rfl (lv_at hl 1 rfl) ?_
  refine lv_aload_n hx hb d_Law_law_398 rfl (lv_at hl 0 rfl) ?_
  refine lv_iload hx hb d_Law_law_399 (lv_at hl 4 rfl) ?_
  refine lv_iconst (v := 1) hx hb d_Law_law_401 (by decide) ?_
  refine lv_iadd hx hb d_Law_law_402 ?_
  obtain ⟨hi95, h⟩ := chk_some h
  refine va_sld hx hb hX hbl hbA hS (inb_in hi95) d_Law_law_403 ?_
  refine lv_aload_n hx hb d_Law_law_404 rfl (lv_at hl 0 rfl) ?_
  refine lv_iload hx hb d_Law_law_405 (lv_at hl 4 rfl) ?_
  refine lv_iconst (v := 2) hx hb d_Law_law_407 (by decide) ?_
  refine lv_iadd hx hb d_Law_law_408 ?_
  obtain ⟨hi96, h⟩ := chk_some h
  refine va_sld hx hb hX hbl hbA hS (inb_in hi96) d_Law_law_409 ?_
  refine lv_aload_n hx hb d_Law_law_410 rfl (lv_at hl 0 rfl) ?_
  refine lv_iload hx hb d_Law_law_411 (lv_at hl 4 rfl) ?_
  refine lv_iconst (v := 3) hx hb d_Law_law_413 (by decide) ?_
  refine lv_iadd hx hb d_Law_law_414 ?_
  obtain ⟨hi97, h⟩ := chk_some h
  refine va_sld hx hb hX hbl hbA hS (inb_in hi97) d_Law_law_415 ?_
  refine lv_aload_n hx hb d_Law_law_416 rfl (lv_at hl 3 rfl) ?_
  obtain ⟨v99, o_100, hG98, h⟩ := bind2_some h
  refine bw_call (Lc := [wPF ct a0 (a1 0) (a4 0) (a6 0) (a7 0) (a8 0) v0 o0, wCells ct a7 o7, wOut ct a14 o14]) (Lc' := [wPF ct a0 (a1 0) (a4 0) (a6 0) (a7 0) (a8 0) v0 o0, wCells ct a7 o7, wOut ct a14 o_100]) (L' := [wPF ct a0 (a1 0) (a4 0) (a6 0) (a7 0) (a8 0) v0 o0, wReader ct a1 (a2 0) o1, wText ct a2 (a3 0) o2, wSteps ct a3 o3, wText ct a4 (a5 0) o4, wSteps ct a5 o5, wReckoner ct a6 o6, wCells ct a7 o7, wCells ct a8 o8, wCells ct a9 o9, wCells ct a10 o10, wCells ct a11 o11, wCells ct a12 o12, wMod ct a13 o13, wOut ct a14 o_100]) [0, 7, 14] (bt_runSW (n := 5) (As := [.ref (a0 0), .int (xs (Int32.toNatClampNeg (x4 + (1 : Int32)))), .int (xs (Int32.toNatClampNeg (x4 + (2 : Int32)))), .int (xs (Int32.toNatClampNeg (x4 + (3 : Int32)))), .ref (a14 0)]) (rest := []) ⟨hx, hb, hml, hown, hts⟩ (c_Law_size l hl0 ct dC dI a0 a7 a14 (a1 0) (a4 0) (a6 0) (a8 0) v0 _ (xs (Int32.toNatClampNeg (x4 + (1 : Int32)))) (xs (Int32.toNatClampNeg (x4 + (2 : Int32)))) (xs (Int32.toNatClampNeg (x4 + (3 : Int32)))) o0 o7 o14 v99 o_100 hG98) (gd_any cd_Law_size) rfl rfl rfl (hts _ ini_Law) (hts _ ml_Law_100) (hts _ st_Law_size) (by decide +kernel) ⟨Nat.le_of_ble_eq_true rfl, Nat.le_of_ble_eq_true rfl⟩ ⟨bw_blind thh_call, fun U hU hW => ⟨rfl, by rw [hU], by rw [hU]; exact hP.sub [0, 7, 14] rfl, va_K.moved hW.alike hK, (hN.sub [0, 7, 14] (by decide) rfl).weaken (fun _ _ => trivial), ⟨nx_warm hW hnx, thy_x hthy hS hAs hW hU, exX.moved hW.alike hex9⟩⟩⟩ rfl rfl hl.1 rfl (Nat.le_of_ble_eq_true rfl) d_Law_law_417 ⟨by rw [room_c]; omega, by rw [room_s]; omega⟩) hP hN hS hA rfl rfl rfl (fun H locs hP hS => ?_)
  refine lv_istore (lv' := [(5, .int v99), (0, .ref b), (1, .ref (a0 0)), (2, .ref (a13 0)), (3, .ref (a14 0)), (4, .int x4)]) hx hb d_Law_law_420 hl (by decide) rfl (fun ls hl => ?_)
  refine lv_aload_n hx hb d_Law_law_422 rfl (lv_at hl 3 rfl) ?_
  refine lv_aload_n hx hb d_Law_law_423 rfl (lv_at hl 1 rfl) ?_
  refine lv_iload hx hb d_Law_law_424 (lv_at hl 5 rfl) ?_
  refine lv_iconst (v := 1) hx hb d_Law_law_426 (by decide) ?_
  refine lv_iadd hx hb d_Law_law_427 ?_
  refine va_sld hx hb hX hbl hbA hS (inb_in hi95) d_Law_law_428 ?_
  refine lv_aload_n hx hb d_Law_law_429 rfl (lv_at hl 1 rfl) ?_
  refine lv_iload hx hb d_Law_law_430 (lv_at hl 5 rfl) ?_
  refine lv_iconst (v := 2) hx hb d_Law_law_432 (by decide) ?_
  refine lv_iadd hx hb d_Law_law_433 ?_
  refine va_sld hx hb hX hbl hbA hS (inb_in hi96) d_Law_law_434 ?_
  refine lv_aload_n hx hb d_Law_law_435 rfl (lv_at hl 1 rfl) ?_
  refine lv_iload hx hb d_Law_law_436 (lv_at hl 5 rfl) ?_
  refine lv_iconst (v := 3) hx hb d_Law_law_438 (by decide) ?_
  refine lv_iadd hx hb d_Law_law_439 ?_
  refine va_sld hx hb hX hbl hbA hS (inb_in hi97) d_Law_law_440 ?_
  obtain ⟨v105, o_106, hG104, h⟩ := bind2_some h
  refine bw_call (Lc := [wMod ct a13 o13]) (Lc' := [wMod ct a13 o_106]) (L' := [wPF ct a0 (a1 0) (a4 0) (a6 0) (a7 0) (a8 0) v0 o0, wReader ct a1 (a2 0) o1, wText ct a2 (a3 0) o2, wSteps ct a3 o3, wText ct a4 (a5 0) o4, wSteps ct a5 o5, wReckoner ct a6 o6, wCells ct a7 o7, wCells ct a8 o8, wCells ct a9 o9, wCells ct a10 o10, wCells ct a11 o11, wCells ct a12 o12, wMod ct a13 o_106, wOut ct a14 o_100]) [13] (va_runV (As := [.int (xs (Int32.toNatClampNeg (x4 + (1 : Int32)))), .int (xs (Int32.toNatClampNeg (x4 + (2 : Int32)))), .int (xs (Int32.toNatClampNeg (x4 + (3 : Int32))))]) (rest := []) ⟨hx, hb, hml, hown, hts⟩ (c_Mod_size l ct dC dI a13 _ (xs (Int32.toNatClampNeg (x4 + (1 : Int32)))) (xs (Int32.toNatClampNeg (x4 + (2 : Int32)))) (xs (Int32.toNatClampNeg (x4 + (3 : Int32)))) o13 v105 o_106 hG104) (cwV 3 hts g_Law_103 rfl rfl rfl (by decide +kernel) ⟨Nat.le_of_ble_eq_true rfl, Nat.le_of_ble_eq_true rfl⟩) ⟨bw_blind nx_call, va_recv hK (hP 13 _ rfl) (ci := 6) (q0 := 0) rfl rfl, fun U hU hW => ⟨rfl, by rw [hU], by rw [hU]; exact hP.sub [13] rfl, va_K.moved hW.alike hK, (hN.sub [13] (by decide) rfl).weaken (fun _ _ => trivial), nx_warm hW hnx⟩⟩ rfl rfl hl.1 rfl (Nat.le_of_ble_eq_true rfl) d_Law_law_441 ⟨by rw [room_c]; omega, by rw [room_s]; omega⟩) hP hN hS hA rfl rfl rfl (fun H locs hP hS => ?_)
  refine lv_lstore (lv' := [(6, .long v105), (5, .int v99), (0, .ref b), (1, .ref (a0 0)), (2, .ref (a13 0)), (3, .ref (a14 0)), (4, .int x4)]) hx hb d_Law_law_444 hl (by decide) rfl (fun ls hl => ?_)
  refine lv_goto (tgt := 750) hx hb d_Law_law_446 (by decide) ?_
  refine lv_iinc (v := (x4 + (6 : Int32))) (lv' := [(4, .int (x4 + (6 : Int32))), (6, .long v105), (5, .int v99), (0, .ref b), (1, .ref (a0 0)), (2, .ref (a13 0)), (3, .ref (a14 0))]) hx hb d_Law_law_750 hl (k := 6) rfl rfl (by decide) rfl (fun ls hl => ?_)
  refine lv_goto (tgt := 23) hx hb d_Law_law_753 (by decide) ?_
  refine W.widen (k := 200 + (it + 1)) (n := 40000 + 6 * (it + 1)) (by omega) (by omega) ?_
  exact hk23 a0 a1 a2 a3 a4 a5 a6 a7 a8 a9 a10 a11 a12 a13 a14 v0 (x4 + (6 : Int32)) o0 o1 o2 o3 o4 o5 o6 o7 o8 o9 o10 o11 o12 o_106 o_100 _ _ _ hN hver hP hS (lv_sub hl [3, 4, 5, 6, 0] rfl) h
