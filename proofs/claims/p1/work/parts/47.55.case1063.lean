/-! THE LAW: case at 1063 -/
def F_Law_law_1063 (L : Nat) (xs : Nat → Int32) (k23 : Int32 → Ob → Ob → Ob → Ob → Ob → Ob → Ob → Ob → Ob → Ob → Ob → Ob → Ob → Ob → Ob → Option Unit) (x4 : Int32) (o0 o1 o2 o3 o4 o5 o6 o7 o8 o9 o10 o11 o12 o13 o14 : Ob) : Option Unit :=
  bind4 (F_Law_same o0 o7 o6 o4 o8 o5 o14) (fun v384 o_385 o_386 o_387 => bind2 (F_Mod_same o13) (fun v389 o_390 => bind1 (F_Mod_thrown o_390) (fun v392 => if v392 = v384 then (if v384 = 0 then (chk (inb (0 : Int32) 1) (if (b2i v389) = 0 then (if (lg_cmp (g64 o_387 0 (Int32.toNatClampNeg (0 : Int32))) (0 : Int64)) = 0 then (k23 (x4 + (6 : Int32)) o0 o1 o2 o3 o4 o5 o_385 o7 o_386 o9 o10 o11 o12 o_390 o_387) else (none)) else (if (lg_cmp (g64 o_387 0 (Int32.toNatClampNeg (0 : Int32))) (1 : Int64)) = 0 then (k23 (x4 + (6 : Int32)) o0 o1 o2 o3 o4 o5 o_385 o7 o_386 o9 o10 o11 o12 o_390 o_387) else (none)))) else (k23 (x4 + (6 : Int32)) o0 o1 o2 o3 o4 o5 o_385 o7 o_386 o9 o10 o11 o12 o_390 o_387)) else (none))))
set_option maxHeartbeats 8000000 in
set_option maxRecDepth 100000 in
theorem k_Law_law_1063 {p : Program} {l : Launch} {e : Env} {s : State} {m : MethodId} {below : List Frame} {meth : Method} {c : Code} {b L : Nat} {xs : Nat → Int32} {A : Nat → Prop} {ct dC : Nat → ClassId} {dI : Nat → Nat → Nat} (C0 : lcx p s m meth c b L xs A ct dC dI) (hl0 : l.stackTraces = false) {it : Nat} (hit : it + 1 ≤ 600) {k23 : Int32 → Ob → Ob → Ob → Ob → Ob → Ob → Ob → Ob → Ob → Ob → Ob → Ob → Ob → Ob → Ob → Option Unit} (hk23 : ∀ (a0 a1 a2 a3 a4 a5 a6 a7 a8 a9 a10 a11 a12 a13 a14 : Nat → Nat) (v0 : Nat → Nat) (x4 : Int32) (o0 o1 o2 o3 o4 o5 o6 o7 o8 o9 o10 o11 o12 o13 o14 : Ob) (H : Heap) (locs : List Loc) (ls : Array Slot), bw_N A [adPF a0, adReader a1, adText a2, adSteps a3, adText a4, adSteps a5, adReckoner a6, adCells a7, adCells a8, adCells a9, adCells a10, adCells a11, adCells a12, adMod a13, adOut a14] → (v0 0 = a9 0 ∧ v0 1 = a10 0 ∧ v0 2 = a11 0 ∧ v0 3 = a12 0) → bw_P (dC, dI) vwCl [wPF ct a0 (a1 0) (a4 0) (a6 0) (a7 0) (a8 0) v0 o0, wReader ct a1 (a2 0) o1, wText ct a2 (a3 0) o2, wSteps ct a3 o3, wText ct a4 (a5 0) o4, wSteps ct a5 o5, wReckoner ct a6 o6, wCells ct a7 o7, wCells ct a8 o8, wCells ct a9 o9, wCells ct a10 o10, wCells ct a11 o11, wCells ct a12 o12, wMod ct a13 o13, wOut ct a14 o14] H → va_S A s.heap H locs → lv_has ls 8 [(0, .ref b), (1, .ref (a0 0)), (2, .ref (a13 0)), (3, .ref (a14 0)), (4, .int x4)] → k23 x4 o0 o1 o2 o3 o4 o5 o6 o7 o8 o9 o10 o11 o12 o13 o14 = some () → W p l e room_1 s m #[Value.ref b] below meth c H locs (200 + (it + 1)) (40000 + 6 * (it + 1)) (lw_Z below #[Value.ref b] s) (F0 m 23 ls [])) : ∀ (a0 a1 a2 a3 a4 a5 a6 a7 a8 a9 a10 a11 a12 a13 a14 : Nat → Nat) (v0 : Nat → Nat) (x4 : Int32) (o0 o1 o2 o3 o4 o5 o6 o7 o8 o9 o10 o11 o12 o13 o14 : Ob) (H : Heap) (locs : List Loc) (ls : Array Slot), bw_N A [adPF a0, adReader a1, adText a2, adSteps a3, adText a4, adSteps a5, adReckoner a6, adCells a7, adCells a8, adCells a9, adCells a10, adCells a11, adCells a12, adMod a13, adOut a14] → (v0 0 = a9 0 ∧ v0 1 = a10 0 ∧ v0 2 = a11 0 ∧ v0 3 = a12 0) → bw_P (dC, dI) vwCl [wPF ct a0 (a1 0) (a4 0) (a6 0) (a7 0) (a8 0) v0 o0, wReader ct a1 (a2 0) o1, wText ct a2 (a3 0) o2, wSteps ct a3 o3, wText ct a4 (a5 0) o4, wSteps ct a5 o5, wReckoner ct a6 o6, wCells ct a7 o7, wCells ct a8 o8, wCells ct a9 o9, wCells ct a10 o10, wCells ct a11 o11, wCells ct a12 o12, wMod ct a13 o13, wOut ct a14 o14] H → va_S A s.heap H locs → lv_has ls 8 [(0, .ref b), (1, .ref (a0 0)), (2, .ref (a13 0)), (3, .ref (a14 0)), (4, .int x4)] → F_Law_law_1063 L xs k23 x4 o0 o1 o2 o3 o4 o5 o6 o7 o8 o9 o10 o11 o12 o13 o14 = some () → W p l e room_1 s m #[Value.ref b] below meth c H locs (200 + it) (40000 + 6 * it) (lw_Z below #[Value.ref b] s) (F0 m 1063 ls []) := by
  obtain ⟨hx, hb, hr, hml, hown, hlocks, hts, hK, hA, hAs, hX, hbl, hnx, hthy, hex9, hsx⟩ := id C0
  have hbA : ¬ A b := fun z => absurd (hAs b z) (Nat.not_le.mpr hbl)
  intro a0 a1 a2 a3 a4 a5 a6 a7 a8 a9 a10 a11 a12 a13 a14 v0 x4 o0 o1 o2 o3 o4 o5 o6 o7 o8 o9 o10 o11 o12 o13 o14 H locs ls hN hver hP hS hl h
  rw [F_Law_law_1063] at h
  refine lv_aload_n hx hb d_Law_law_1063 rfl (lv_at hl 1 rfl) ?_
  refine lv_aload_n hx hb d_Law_law_1064 rfl (lv_at hl 3 rfl) ?_
  obtain ⟨v384, o_385, o_386, o_387, hG383, h⟩ := bind4_some h
  refine bw_call (Lc := [wPF ct a0 (a1 0) (a4 0) (a6 0) (a7 0) (a8 0) v0 o0, wCells ct a7 o7, wReckoner ct a6 o6, wText ct a4 (a5 0) o4, wCells ct a8 o8, wSteps ct a5 o5, wOut ct a14 o14]) (Lc' := [wPF ct a0 (a1 0) (a4 0) (a6 0) (a7 0) (a8 0) v0 o0, wCells ct a7 o7, wReckoner ct a6 o_385, wText ct a4 (a5 0) o4, wCells ct a8 o_386, wSteps ct a5 o5, wOut ct a14 o_387]) (L' := [wPF ct a0 (a1 0) (a4 0) (a6 0) (a7 0) (a8 0) v0 o0, wReader ct a1 (a2 0) o1, wText ct a2 (a3 0) o2, wSteps ct a3 o3, wText ct a4 (a5 0) o4, wSteps ct a5 o5, wReckoner ct a6 o_385, wCells ct a7 o7, wCells ct a8 o_386, wCells ct a9 o9, wCells ct a10 o10, wCells ct a11 o11, wCells ct a12 o12, wMod ct a13 o13, wOut ct a14 o_387]) [0, 7, 6, 4, 8, 5, 14] (bt_runSW (n := 2) (As := [.ref (a0 0), .ref (a14 0)]) (rest := []) ⟨hx, hb, hml, hown, hts⟩ (c_Law_same l hl0 ct dC dI a0 a7 a6 a4 a8 a5 a14 (a1 0) v0 _ o0 o7 o6 o4 o8 o5 o14 v384 o_385 o_386 o_387 hG383) (gd_any cd_Law_same) rfl rfl rfl (hts _ ini_Law) (hts _ ml_Law_128) (hts _ st_Law_same) (by decide +kernel) ⟨Nat.le_of_ble_eq_true rfl, Nat.le_of_ble_eq_true rfl⟩ ⟨bw_blind thh_call, fun U hU hW => ⟨rfl, by rw [hU], by rw [hU]; exact hP.sub [0, 7, 6, 4, 8, 5, 14] rfl, va_K.moved hW.alike hK, (hN.sub [0, 7, 6, 4, 8, 5, 14] (by decide) rfl).weaken (fun _ _ => trivial), ⟨nx_warm hW hnx, thy_x hthy hS hAs hW hU, exX.moved hW.alike hex9⟩⟩⟩ rfl rfl hl.1 rfl (Nat.le_of_ble_eq_true rfl) d_Law_law_1065 ⟨by rw [room_c]; omega, by rw [room_s]; omega⟩) hP hN hS hA rfl rfl rfl (fun H locs hP hS => ?_)
  refine lv_istore (lv' := [(5, .int v384), (0, .ref b), (1, .ref (a0 0)), (2, .ref (a13 0)), (3, .ref (a14 0)), (4, .int x4)]) hx hb d_Law_law_1068 hl (by decide) rfl (fun ls hl => ?_)
  refine lv_aload_n hx hb d_Law_law_1070 rfl (lv_at hl 3 rfl) ?_
  obtain ⟨v389, o_390, hG388, h⟩ := bind2_some h
  refine bw_call (Lc := [wMod ct a13 o13]) (Lc' := [wMod ct a13 o_390]) (L' := [wPF ct a0 (a1 0) (a4 0) (a6 0) (a7 0) (a8 0) v0 o0, wReader ct a1 (a2 0) o1, wText ct a2 (a3 0) o2, wSteps ct a3 o3, wText ct a4 (a5 0) o4, wSteps ct a5 o5, wReckoner ct a6 o_385, wCells ct a7 o7, wCells ct a8 o_386, wCells ct a9 o9, wCells ct a10 o10, wCells ct a11 o11, wCells ct a12 o12, wMod ct a13 o_390, wOut ct a14 o_387]) [13] (va_runV (As := []) (rest := []) ⟨hx, hb, hml, hown, hts⟩ (c_Mod_same l ct dC dI a13 _ o13 v389 o_390 hG388) (cwV 0 hts g_Law_130 rfl rfl rfl (by decide +kernel) ⟨Nat.le_of_ble_eq_true rfl, Nat.le_of_ble_eq_true rfl⟩) ⟨bw_blind nx_call, va_recv hK (hP 13 _ rfl) (ci := 6) (q0 := 0) rfl rfl, fun U hU hW => ⟨rfl, by rw [hU], by rw [hU]; exact hP.sub [13] rfl, va_K.moved hW.alike hK, (hN.sub [13] (by decide) rfl).weaken (fun _ _ => trivial), nx_warm hW hnx⟩⟩ rfl rfl hl.1 rfl (Nat.le_of_ble_eq_true rfl) d_Law_law_1071 ⟨by rw [room_c]; omega, by rw [room_s]; omega⟩) hP hN hS hA rfl rfl rfl (fun H locs hP hS => ?_)
  refine lv_istore (lv' := [(6, .int (b2i v389)), (5, .int v384), (0, .ref b), (1, .ref (a0 0)), (2, .ref (a13 0)), (3, .ref (a14 0)), (4, .int x4)]) hx hb d_Law_law_1074 hl (by decide) rfl (fun ls hl => ?_)
  refine lv_aload_n hx hb d_Law_law_1076 rfl (lv_at hl 4 rfl) ?_
  obtain ⟨v392, hG391, h⟩ := bind1_some h
  refine bw_callR (va_runV (As := []) (rest := []) ⟨hx, hb, hml, hown, hts⟩ (c_Mod_thrown l ct dC dI a13 _ o_390 v392 hG391) (cwV 0 hts g_Law_83 rfl rfl rfl (by decide +kernel) ⟨Nat.le_of_ble_eq_true rfl, Nat.le_of_ble_eq_true rfl⟩) ⟨bw_blind nx_call, va_recv hK (hP 13 _ rfl) (ci := 6) (q0 := 0) rfl rfl, fun U hU hW => ⟨rfl, by rw [hU], by rw [hU]; exact hP.sub [13] rfl, va_K.moved hW.alike hK, (hN.sub [13] (by decide) rfl).weaken (fun _ _ => trivial), nx_warm hW hnx⟩⟩ rfl rfl hl.1 rfl (Nat.le_of_ble_eq_true rfl) d_Law_law_1077 ⟨by rw [room_c]; omega, by rw [room_s]; omega⟩) ?_
  refine lv_iload hx hb d_Law_law_1080 (lv_at hl 1 rfl) ?_
  refine lv_icmp_eq (tgt := 1087) hx hb d_Law_law_1082 (by decide) (fun c393 => ?_) (fun c393 => ?_)
  · have h := ite_t c393 h
    refine lv_iload hx hb d_Law_law_1087 (lv_at hl 1 rfl) ?_
    refine lv_if_ne (tgt := 1111) hx hb d_Law_law_1089 (by decide) (fun c394 => ?_) (fun c394 => ?_)
    · have h := ite_f c394 h
      refine lv_goto (tgt := 1128) hx hb d_Law_law_1111 (by decide) ?_
      refine lv_iinc (v := (x4 + (6 : Int32))) (lv' := [(4, .int (x4 + (6 : Int32))), (6, .int (b2i v389)), (5, .int v384), (0, .ref b), (1, .ref (a0 0)), (2, .ref (a13 0)), (3, .ref (a14 0))]) hx hb d_Law_law_1128 hl (k := 6) rfl rfl (by decide) rfl (fun ls hl => ?_)
      refine lv_goto (tgt := 23) hx hb d_Law_law_1131 (by decide) ?_
      refine W.widen (k := 200 + (it + 1)) (n := 40000 + 6 * (it + 1)) (by omega) (by omega) ?_
      exact hk23 a0 a1 a2 a3 a4 a5 a6 a7 a8 a9 a10 a11 a12 a13 a14 v0 (x4 + (6 : Int32)) o0 o1 o2 o3 o4 o5 o_385 o7 o_386 o9 o10 o11 o12 o_390 o_387 _ _ _ hN hver hP hS (lv_sub hl [3, 4, 5, 6, 0] rfl) h
    · have h := ite_t c394 h
      refine lv_aload_n hx hb d_Law_law_1092 rfl (lv_at hl 5 rfl) ?_
      refine lv_iconst (v := 0) hx hb d_Law_law_1093 (by decide) ?_
      obtain ⟨hi395, h⟩ := chk_some h
      refine va_lald (f := g64 o_387 0) hx hb hK (hP 14 _ rfl) 0 1 rfl rfl (inb_in hi395) d_Law_law_1094 ?_
      refine lv_iload hx hb d_Law_law_1095 (lv_at hl 0 rfl) ?_
      refine lv_if_eq (tgt := 1104) hx hb d_Law_law_1097 (by decide) (fun c396 => ?_) (fun c396 => ?_)
      · have h := ite_t c396 h
        refine lv_lconst (v := 0) hx hb d_Law_law_1104 (by decide) ?_
        refine W.lcmp hx hb d_Law_law_1105 ?_
        refine lv_if_eq (tgt := 1111) hx hb d_Law_law_1106 (by decide) (fun c397 => ?_) (fun c397 => ?_)
        · have h := ite_t c397 h
          refine lv_goto (tgt := 1128) hx hb d_Law_law_1111 (by decide) ?_
          refine lv_iinc (v := (x4 + (6 : Int32))) (lv' := [(4, .int (x4 + (6 : Int32))), (6, .int (b2i v389)), (5, .int v384), (0, .ref b), (1, .ref (a0 0)), (2, .ref (a13 0)), (3, .ref (a14 0))]) hx hb d_Law_law_1128 hl (k := 6) rfl rfl (by decide) rfl (fun ls hl => ?_)
          refine lv_goto (tgt := 23) hx hb d_Law_law_1131 (by decide) ?_
          refine W.widen (k := 200 + (it + 1)) (n := 40000 + 6 * (it + 1)) (by omega) (by omega) ?_
          exact hk23 a0 a1 a2 a3 a4 a5 a6 a7 a8 a9 a10 a11 a12 a13 a14 v0 (x4 + (6 : Int32)) o0 o1 o2 o3 o4 o5 o_385 o7 o_386 o9 o10 o11 o12 o_390 o_387 _ _ _ hN hver hP hS (lv_sub hl [3, 4, 5, 6, 0] rfl) h
        · have h := ite_f c397 h
          refine lv_iconst (v := 0) hx hb d_Law_law_1109 (by decide) ?_
          cases h
      · have h := ite_f c396 h
        refine lv_lconst (v := 1) hx hb d_Law_law_1100 (by decide) ?_
        refine lv_goto (tgt := 1105) hx hb d_Law_law_1101 (by decide) ?_
        refine W.lcmp hx hb d_Law_law_1105 ?_
        refine lv_if_eq (tgt := 1111) hx hb d_Law_law_1106 (by decide) (fun c398 => ?_) (fun c398 => ?_)
        · have h := ite_t c398 h
          refine lv_goto (tgt := 1128) hx hb d_Law_law_1111 (by decide) ?_
          refine lv_iinc (v := (x4 + (6 : Int32))) (lv' := [(4, .int (x4 + (6 : Int32))), (6, .int (b2i v389)), (5, .int v384), (0, .ref b), (1, .ref (a0 0)), (2, .ref (a13 0)), (3, .ref (a14 0))]) hx hb d_Law_law_1128 hl (k := 6) rfl rfl (by decide) rfl (fun ls hl => ?_)
          refine lv_goto (tgt := 23) hx hb d_Law_law_1131 (by decide) ?_
          refine W.widen (k := 200 + (it + 1)) (n := 40000 + 6 * (it + 1)) (by omega) (by omega) ?_
          exact hk23 a0 a1 a2 a3 a4 a5 a6 a7 a8 a9 a10 a11 a12 a13 a14 v0 (x4 + (6 : Int32)) o0 o1 o2 o3 o4 o5 o_385 o7 o_386 o9 o10 o11 o12 o_390 o_387 _ _ _ hN hver hP hS (lv_sub hl [3, 4, 5, 6, 0] rfl) h
        · have h := ite_f c398 h
          refine lv_iconst (v := 0) hx hb d_Law_law_1109 (by decide) ?_
          cases h
  · have h := ite_f c393 h
    refine lv_iconst (v := 0) hx hb d_Law_law_1085 (by decide) ?_
    cases h
