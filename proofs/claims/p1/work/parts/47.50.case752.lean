/-! THE LAW: case at 752 -/
def F_Law_law_752 (L : Nat) (xs : Nat → Int32) (k23 : Int32 → Ob → Ob → Ob → Ob → Ob → Ob → Ob → Ob → Ob → Ob → Ob → Ob → Ob → Ob → Ob → Option Unit) (x4 : Int32) (o0 o1 o2 o3 o4 o5 o6 o7 o8 o9 o10 o11 o12 o13 o14 : Ob) : Option Unit :=
  chk (inb (x4 + (1 : Int32)) L) (chk (inb (x4 + (2 : Int32)) L) (bind2 (F_Law_needs (xs (Int32.toNatClampNeg (x4 + (1 : Int32)))) (xs (Int32.toNatClampNeg (x4 + (2 : Int32)))) o0 o4 o14) (fun v183 o_184 => bind2 (F_Mod_needs (xs (Int32.toNatClampNeg (x4 + (1 : Int32)))) (xs (Int32.toNatClampNeg (x4 + (2 : Int32)))) o13) (fun v188 o_189 => bind1 (F_Mod_thrown o_189) (fun v191 => if v191 = v183 then (if v183 = 0 then (chk (inb (0 : Int32) 1) (if (b2i v188) = 0 then (if (lg_cmp (g64 o_184 0 (Int32.toNatClampNeg (0 : Int32))) (0 : Int64)) = 0 then (k23 (x4 + (6 : Int32)) o0 o1 o2 o3 o4 o5 o6 o7 o8 o9 o10 o11 o12 o_189 o_184) else (none)) else (if (lg_cmp (g64 o_184 0 (Int32.toNatClampNeg (0 : Int32))) (1 : Int64)) = 0 then (k23 (x4 + (6 : Int32)) o0 o1 o2 o3 o4 o5 o6 o7 o8 o9 o10 o11 o12 o_189 o_184) else (none)))) else (k23 (x4 + (6 : Int32)) o0 o1 o2 o3 o4 o5 o6 o7 o8 o9 o10 o11 o12 o_189 o_184)) else (none))))))
set_option maxHeartbeats 8000000 in
set_option maxRecDepth 100000 in
theorem k_Law_law_752 {p : Program} {l : Launch} {e : Env} {s : State} {m : MethodId} {below : List Frame} {meth : Method} {c : Code} {b L : Nat} {xs : Nat → Int32} {A : Nat → Prop} {ct dC : Nat → ClassId} {dI : Nat → Nat → Nat} (C0 : lcx p s m meth c b L xs A ct dC dI) (hl0 : l.stackTraces = false) {it : Nat} (hit : it + 1 ≤ 600) {k23 : Int32 → Ob → Ob → Ob → Ob → Ob → Ob → Ob → Ob → Ob → Ob → Ob → Ob → Ob → Ob → Ob → Option Unit} (hk23 : ∀ (a0 a1 a2 a3 a4 a5 a6 a7 a8 a9 a10 a11 a12 a13 a14 : Nat → Nat) (v0 : Nat → Nat) (x4 : Int32) (o0 o1 o2 o3 o4 o5 o6 o7 o8 o9 o10 o11 o12 o13 o14 : Ob) (H : Heap) (locs : List Loc) (ls : Array Slot), bw_N A [adPF a0, adReader a1, adText a2, adSteps a3, adText a4, adSteps a5, adReckoner a6, adCells a7, adCells a8, adCells a9, adCells a10, adCells a11, adCells a12, adMod a13, adOut a14] → (v0 0 = a9 0 ∧ v0 1 = a10 0 ∧ v0 2 = a11 0 ∧ v0 3 = a12 0) → bw_P (dC, dI) vwCl [wPF ct a0 (a1 0) (a4 0) (a6 0) (a7 0) (a8 0) v0 o0, wReader ct a1 (a2 0) o1, wText ct a2 (a3 0) o2, wSteps ct a3 o3, wText ct a4 (a5 0) o4, wSteps ct a5 o5, wReckoner ct a6 o6, wCells ct a7 o7, wCells ct a8 o8, wCells ct a9 o9, wCells ct a10 o10, wCells ct a11 o11, wCells ct a12 o12, wMod ct a13 o13, wOut ct a14 o14] H → va_S A s.heap H locs → lv_has ls 8 [(0, .ref b), (1, .ref (a0 0)), (2, .ref (a13 0)), (3, .ref (a14 0)), (4, .int x4)] → k23 x4 o0 o1 o2 o3 o4 o5 o6 o7 o8 o9 o10 o11 o12 o13 o14 = some () → W p l e room_1 s m #[Value.ref b] below meth c H locs (200 + (it + 1)) (40000 + 6 * (it + 1)) (lw_Z below #[Value.ref b] s) (F0 m 23 ls [])) : ∀ (a0 a1 a2 a3 a4 a5 a6 a7 a8 a9 a10 a11 a12 a13 a14 : Nat → Nat) (v0 : Nat → Nat) (x4 : Int32) (o0 o1 o2 o3 o4 o5 o6 o7 o8 o9 o10 o11 o12 o13 o14 : Ob) (H : Heap) (locs : List Loc) (ls : Array Slot), bw_N A [adPF a0, adReader a1, adText a2, adSteps a3, adText a4, adSteps a5, adReckoner a6, adCells a7, adCells a8, adCells a9, adCells a10, adCells a11, adCells a12, adMod a13, adOut a14] → (v0 0 = a9 0 ∧ v0 1 = a10 0 ∧ v0 2 = a11 0 ∧ v0 3 = a12 0) → bw_P (dC, dI) vwCl [wPF ct a0 (a1 0) (a4 0) (a6 0) (a7 0) (a8 0) v0 o0, wReader ct a1 (a2 0) o1, wText ct a2 (a3 0) o2, wSteps ct a3 o3, wText ct a4 (a5 0) o4, wSteps ct a5 o5, wReckoner ct a6 o6, wCells ct a7 o7, wCells ct a8 o8, wCells ct a9 o9, wCells ct a10 o10, wCells ct a11 o11, wCells ct a12 o12, wMod ct a13 o13, wOut ct a14 o14] H → va_S A s.heap H locs → lv_has ls 8 [(0, .ref b), (1, .ref (a0 0)), (2, .ref (a13 0)), (3, .ref (a14 0)), (4, .int x4)] → F_Law_law_752 L xs k23 x4 o0 o1 o2 o3 o4 o5 o6 o7 o8 o9 o10 o11 o12 o13 o14 = some () → W p l e room_1 s m #[Value.ref b] below meth c H locs (200 + it) (40000 + 6 * it) (lw_Z below #[Value.ref b] s) (F0 m 752 ls []) := by
  obtain ⟨hx, hb, hr, hml, hown, hlocks, hts, hK, hA, hAs, hX, hbl, hnx, hthy, hex9, hsx⟩ := id C0
  have hbA : ¬ A b := fun z => absurd (hAs b z) (Nat.not_le.mpr hbl)
  intro a0 a1 a2 a3 a4 a5 a6 a7 a8 a9 a10 a11 a12 a13 a14 v0 x4 o0 o1 o2 o3 o4 o5 o6 o7 o8 o9 o10 o11 o12 o13 o14 H locs ls hN hver hP hS hl h
  rw [F_Law_law_752] at h
  refine lv_aload_n hx hb d_Law_law_752 rfl (lv_at hl 1 rfl) ?_
  refine lv_aload_n hx hb d_Law_law_753 rfl (lv_at hl 0 rfl) ?_
  refine lv_iload hx hb d_Law_law_754 (lv_at hl 4 rfl) ?_
  refine lv_iconst (v := 1) hx hb d_Law_law_756 (by decide) ?_
  refine lv_iadd hx hb d_Law_law_757 ?_
  obtain ⟨hi180, h⟩ := chk_some h
  refine va_sld hx hb hX hbl hbA hS (inb_in hi180) d_Law_law_758 ?_
  refine lv_aload_n hx hb d_Law_law_759 rfl (lv_at hl 0 rfl) ?_
  refine lv_iload hx hb d_Law_law_760 (lv_at hl 4 rfl) ?_
  refine lv_iconst (v := 2) hx hb d_Law_law_762 (by decide) ?_
  refine lv_iadd hx hb d_Law_law_763 ?_
  obtain ⟨hi181, h⟩ := chk_some h
  refine va_sld hx hb hX hbl hbA hS (inb_in hi181) d_Law_law_764 ?_
  refine lv_aload_n hx hb d_Law_law_765 rfl (lv_at hl 3 rfl) ?_
  obtain ⟨v183, o_184, hG182, h⟩ := bind2_some h
  refine bw_call (Lc := [wPF ct a0 (a1 0) (a4 0) (a6 0) (a7 0) (a8 0) v0 o0, wText ct a4 (a5 0) o4, wOut ct a14 o14]) (Lc' := [wPF ct a0 (a1 0) (a4 0) (a6 0) (a7 0) (a8 0) v0 o0, wText ct a4 (a5 0) o4, wOut ct a14 o_184]) (L' := [wPF ct a0 (a1 0) (a4 0) (a6 0) (a7 0) (a8 0) v0 o0, wReader ct a1 (a2 0) o1, wText ct a2 (a3 0) o2, wSteps ct a3 o3, wText ct a4 (a5 0) o4, wSteps ct a5 o5, wReckoner ct a6 o6, wCells ct a7 o7, wCells ct a8 o8, wCells ct a9 o9, wCells ct a10 o10, wCells ct a11 o11, wCells ct a12 o12, wMod ct a13 o13, wOut ct a14 o_184]) [0, 4, 14] (bt_runSW (n := 4) (As := [.ref (a0 0), .int (xs (Int32.toNatClampNeg (x4 + (1 : Int32)))), .int (xs (Int32.toNatClampNeg (x4 + (2 : Int32)))), .ref (a14 0)]) (rest := []) ⟨hx, hb, hml, hown, hts⟩ (c_Law_needs l hl0 ct dC dI a0 a4 a14 (a1 0) (a6 0) (a7 0) (a8 0) v0 (a5 0) _ (xs (Int32.toNatClampNeg (x4 + (1 : Int32)))) (xs (Int32.toNatClampNeg (x4 + (2 : Int32)))) o0 o4 o14 v183 o_184 hG182) (gd_any cd_Law_needs) rfl rfl rfl (hts _ ini_Law) (hts _ ml_Law_113) (hts _ st_Law_needs) (by decide +kernel) ⟨Nat.le_of_ble_eq_true rfl, Nat.le_of_ble_eq_true rfl⟩ ⟨bw_blind thh_call, fun U hU hW => ⟨rfl, by rw [hU], by rw [hU]; exact hP.sub [0, 4, 14] rfl, va_K.moved hW.alike hK, (hN.sub [0, 4, 14] (by decide) rfl).weaken (fun _ _ => trivial), ⟨nx_warm hW hnx, thy_x hthy hS hAs hW hU, exX.moved hW.alike hex9⟩⟩⟩ rfl rfl hl.1 rfl (Nat.le_of_ble_eq_true rfl) d_Law_law_766 ⟨by rw [room_c]; omega, by rw [room_s]; omega⟩) hP hN hS hA rfl rfl rfl (fun H locs hP hS => ?_)
  refine lv_istore (lv' := [(5, .int v183), (0, .ref b), (1, .ref (a0 0)), (2, .ref (a13 0)), (3, .ref (a14 0)), (4, .int x4)]) hx hb d_Law_law_769 hl (by decide) rfl (fun ls hl => ?_)
  refine lv_aload_n hx hb d_Law_law_771 rfl (lv_at hl 3 rfl) ?_
  refine lv_aload_n hx hb d_Law_law_772 rfl (lv_at hl 1 rfl) ?_
  refine lv_iload hx hb d_Law_law_773 (lv_at hl 5 rfl) ?_
  refine lv_iconst (v := 1) hx hb d_Law_law_775 (by decide) ?_
  refine lv_iadd hx hb d_Law_law_776 ?_
  refine va_sld hx hb hX hbl hbA hS (inb_in hi180) d_Law_law_777 ?_
  refine lv_aload_n hx hb d_Law_law_778 rfl (lv_at hl 1 rfl) ?_
  refine lv_iload hx hb d_Law_law_779 (lv_at hl 5 rfl) ?_
  refine lv_iconst (v := 2) hx hb d_Law_law_781 (by decide) ?_
  refine lv_iadd hx hb d_Law_law_782 ?_
  refine va_sld hx hb hX hbl hbA hS (inb_in hi181) d_Law_law_783 ?_
  obtain ⟨v188, o_189, hG187, h⟩ := bind2_some h
  refine bw_call (Lc := [wMod ct a13 o13]) (Lc' := [wMod ct a13 o_189]) (L' := [wPF ct a0 (a1 0) (a4 0) (a6 0) (a7 0) (a8 0) v0 o0, wReader ct a1 (a2 0) o1, wText ct a2 (a3 0) o2, wSteps ct a3 o3, wText ct a4 (a5 0) o4, wSteps ct a5 o5, wReckoner ct a6 o6, wCells ct a7 o7, wCells ct a8 o8, wCells ct a9 o9, wCells ct a10 o10, wCells ct a11 o11, wCells ct a12 o12, wMod ct a13 o_189, wOut ct a14 o_184]) [13] (va_runV (As := [.int (xs (Int32.toNatClampNeg (x4 + (1 : Int32)))), .int (xs (Int32.toNatClampNeg (x4 + (2 : Int32))))]) (rest := []) ⟨hx, hb, hml, hown, hts⟩ (c_Mod_needs l ct dC dI a13 _ (xs (Int32.toNatClampNeg (x4 + (1 : Int32)))) (xs (Int32.toNatClampNeg (x4 + (2 : Int32)))) o13 v188 o_189 hG187) (cwV 2 hts g_Law_115 rfl rfl rfl (by decide +kernel) ⟨Nat.le_of_ble_eq_true rfl, Nat.le_of_ble_eq_true rfl⟩) ⟨bw_blind nx_call, va_recv hK (hP 13 _ rfl) (ci := 6) (q0 := 0) rfl rfl, fun U hU hW => ⟨rfl, by rw [hU], by rw [hU]; exact hP.sub [13] rfl, va_K.moved hW.alike hK, (hN.sub [13] (by decide) rfl).weaken (fun _ _ => trivial), nx_warm hW hnx⟩⟩ rfl rfl hl.1 rfl (Nat.le_of_ble_eq_true rfl) d_Law_law_784 ⟨by rw [room_c]; omega, by rw [room_s]; omega⟩) hP hN hS hA rfl rfl rfl (fun H locs hP hS => ?_)
  refine lv_istore (lv' := [(6, .int (b2i v188)), (5, .int v183), (0, .ref b), (1, .ref (a0 0)), (2, .ref (a13 0)), (3, .ref (a14 0)), (4, .int x4)]) hx hb d_Law_law_787 hl (by decide) rfl (fun ls hl => ?_)
  refine lv_aload_n hx hb d_Law_law_789 rfl (lv_at hl 4 rfl) ?_
  obtain ⟨v191, hG190, h⟩ := bind1_some h
  refine bw_callR (va_runV (As := []) (rest := []) ⟨hx, hb, hml, hown, hts⟩ (c_Mod_thrown l ct dC dI a13 _ o_189 v191 hG190) (cwV 0 hts g_Law_83 rfl rfl rfl (by decide +kernel) ⟨Nat.le_of_ble_eq_true rfl, Nat.le_of_ble_eq_true rfl⟩) ⟨bw_blind nx_call, va_recv hK (hP 13 _ rfl) (ci := 6) (q0 := 0) rfl rfl, fun U hU hW => ⟨rfl, by rw [hU], by rw [hU]; exact hP.sub [13] rfl, va_K.moved hW.alike hK, (hN.sub [13] (by decide) rfl).weaken (fun _ _ => trivial), nx_warm hW hnx⟩⟩ rfl rfl hl.1 rfl (Nat.le_of_ble_eq_true rfl) d_Law_law_790 ⟨by rw [room_c]; omega, by rw [room_s]; omega⟩) ?_
  refine lv_iload hx hb d_Law_law_793 (lv_at hl 1 rfl) ?_
  refine lv_icmp_eq (tgt := 800) hx hb d_Law_law_795 (by decide) (fun c192 => ?_) (fun c192 => ?_)
  · have h := ite_t c192 h
    refine lv_iload hx hb d_Law_law_800 (lv_at hl 1 rfl) ?_
    refine lv_if_ne (tgt := 824) hx hb d_Law_law_802 (by decide) (fun c193 => ?_) (fun c193 => ?_)
    · have h := ite_f c193 h
      refine lv_goto (tgt := 1128) hx hb d_Law_law_824 (by decide) ?_
      refine lv_iinc (v := (x4 + (6 : Int32))) (lv' := [(4, .int (x4 + (6 : Int32))), (6, .int (b2i v188)), (5, .int v183), (0, .ref b), (1, .ref (a0 0)), (2, .ref (a13 0)), (3, .ref (a14 0))]) hx hb d_Law_law_1128 hl (k := 6) rfl rfl (by decide) rfl (fun ls hl => ?_)
      refine lv_goto (tgt := 23) hx hb d_Law_law_1131 (by decide) ?_
      refine W.widen (k := 200 + (it + 1)) (n := 40000 + 6 * (it + 1)) (by omega) (by omega) ?_
      exact hk23 a0 a1 a2 a3 a4 a5 a6 a7 a8 a9 a10 a11 a12 a13 a14 v0 (x4 + (6 : Int32)) o0 o1 o2 o3 o4 o5 o6 o7 o8 o9 o10 o11 o12 o_189 o_184 _ _ _ hN hver hP hS (lv_sub hl [3, 4, 5, 6, 0] rfl) h
    · have h := ite_t c193 h
      refine lv_aload_n hx hb d_Law_law_805 rfl (lv_at hl 5 rfl) ?_
      refine lv_iconst (v := 0) hx hb d_Law_law_806 (by decide) ?_
      obtain ⟨hi194, h⟩ := chk_some h
      refine va_lald (f := g64 o_184 0) hx hb hK (hP 14 _ rfl) 0 1 rfl rfl (inb_in hi194) d_Law_law_807 ?_
      refine lv_iload hx hb d_Law_law_808 (lv_at hl 0 rfl) ?_
      refine lv_if_eq (tgt := 817) hx hb d_Law_law_810 (by decide) (fun c195 => ?_) (fun c195 => ?_)
      · have h := ite_t c195 h
        refine lv_lconst (v := 0) hx hb d_Law_law_817 (by decide) ?_
        refine W.lcmp hx hb d_Law_law_818 ?_
        refine lv_if_eq (tgt := 824) hx hb d_Law_law_819 (by decide) (fun c196 => ?_) (fun c196 => ?_)
        · have h := ite_t c196 h
          refine lv_goto (tgt := 1128) hx hb d_Law_law_824 (by decide) ?_
          refine lv_iinc (v := (x4 + (6 : Int32))) (lv' := [(4, .int (x4 + (6 : Int32))), (6, .int (b2i v188)), (5, .int v183), (0, .ref b), (1, .ref (a0 0)), (2, .ref (a13 0)), (3, .ref (a14 0))]) hx hb d_Law_law_1128 hl (k := 6) rfl rfl (by decide) rfl (fun ls hl => ?_)
          refine lv_goto (tgt := 23) hx hb d_Law_law_1131 (by decide) ?_
          refine W.widen (k := 200 + (it + 1)) (n := 40000 + 6 * (it + 1)) (by omega) (by omega) ?_
          exact hk23 a0 a1 a2 a3 a4 a5 a6 a7 a8 a9 a10 a11 a12 a13 a14 v0 (x4 + (6 : Int32)) o0 o1 o2 o3 o4 o5 o6 o7 o8 o9 o10 o11 o12 o_189 o_184 _ _ _ hN hver hP hS (lv_sub hl [3, 4, 5, 6, 0] rfl) h
        · have h := ite_f c196 h
          refine lv_iconst (v := 0) hx hb d_Law_law_822 (by decide) ?_
          cases h
      · have h := ite_f c195 h
        refine lv_lconst (v := 1) hx hb d_Law_law_813 (by decide) ?_
        refine lv_goto (tgt := 818) hx hb d_Law_law_814 (by decide) ?_
        refine W.lcmp hx hb d_Law_law_818 ?_
        refine lv_if_eq (tgt := 824) hx hb d_Law_law_819 (by decide) (fun c197 => ?_) (fun c197 => ?_)
        · have h := ite_t c197 h
          refine lv_goto (tgt := 1128) hx hb d_Law_law_824 (by decide) ?_
          refine lv_iinc (v := (x4 + (6 : Int32))) (lv' := [(4, .int (x4 + (6 : Int32))), (6, .int (b2i v188)), (5, .int v183), (0, .ref b), (1, .ref (a0 0)), (2, .ref (a13 0)), (3, .ref (a14 0))]) hx hb d_Law_law_1128 hl (k := 6) rfl rfl (by decide) rfl (fun ls hl => ?_)
          refine lv_goto (tgt := 23) hx hb d_Law_law_1131 (by decide) ?_
          refine W.widen (k := 200 + (it + 1)) (n := 40000 + 6 * (it + 1)) (by omega) (by omega) ?_
          exact hk23 a0 a1 a2 a3 a4 a5 a6 a7 a8 a9 a10 a11 a12 a13 a14 v0 (x4 + (6 : Int32)) o0 o1 o2 o3 o4 o5 o6 o7 o8 o9 o10 o11 o12 o_189 o_184 _ _ _ hN hver hP hS (lv_sub hl [3, 4, 5, 6, 0] rfl) h
        · have h := ite_f c197 h
          refine lv_iconst (v := 0) hx hb d_Law_law_822 (by decide) ?_
          cases h
  · have h := ite_f c192 h
    refine lv_iconst (v := 0) hx hb d_Law_law_798 (by decide) ?_
    cases h
