/-! THE LAW: case at 895 -/
def F_Law_law_895 (L : Nat) (xs : Nat → Int32) (k23 : Int32 → Ob → Ob → Ob → Ob → Ob → Ob → Ob → Ob → Ob → Ob → Ob → Ob → Ob → Ob → Ob → Option Unit) (x4 : Int32) (o0 o1 o2 o3 o4 o5 o6 o7 o8 o9 o10 o11 o12 o13 o14 : Ob) : Option Unit :=
  chk (inb (x4 + (1 : Int32)) L) (bind4 (F_Law_check (xs (Int32.toNatClampNeg (x4 + (1 : Int32)))) o0 o7 o6 o4 o8 o5 o14) (fun v217 o_218 o_219 o_220 => bind2 (F_Mod_check (xs (Int32.toNatClampNeg (x4 + (1 : Int32)))) o13) (fun v223 o_224 => bind1 (F_Mod_thrown o_224) (fun v226 => if v226 = v217 then (if v217 = 0 then (chk (inb (0 : Int32) 1) (if (lg_cmp (g64 o_220 0 (Int32.toNatClampNeg (0 : Int32))) (Int32.toInt64 v223)) = 0 then (k23 (x4 + (6 : Int32)) o0 o1 o2 o3 o4 o5 o_218 o7 o_219 o9 o10 o11 o12 o_224 o_220) else (none))) else (k23 (x4 + (6 : Int32)) o0 o1 o2 o3 o4 o5 o_218 o7 o_219 o9 o10 o11 o12 o_224 o_220)) else (none)))))
set_option maxHeartbeats 8000000 in
set_option maxRecDepth 100000 in
theorem k_Law_law_895 {p : Program} {l : Launch} {e : Env} {s : State} {m : MethodId} {below : List Frame} {meth : Method} {c : Code} {b L : Nat} {xs : Nat → Int32} {A : Nat → Prop} {ct dC : Nat → ClassId} {dI : Nat → Nat → Nat} (C0 : lcx p s m meth c b L xs A ct dC dI) (hl0 : l.stackTraces = false) {it : Nat} (hit : it + 1 ≤ 600) {k23 : Int32 → Ob → Ob → Ob → Ob → Ob → Ob → Ob → Ob → Ob → Ob → Ob → Ob → Ob → Ob → Ob → Option Unit} (hk23 : ∀ (a0 a1 a2 a3 a4 a5 a6 a7 a8 a9 a10 a11 a12 a13 a14 : Nat → Nat) (v0 : Nat → Nat) (x4 : Int32) (o0 o1 o2 o3 o4 o5 o6 o7 o8 o9 o10 o11 o12 o13 o14 : Ob) (H : Heap) (locs : List Loc) (ls : Array Slot), bw_N A [adPF a0, adReader a1, adText a2, adSteps a3, adText a4, adSteps a5, adReckoner a6, adCells a7, adCells a8, adCells a9, adCells a10, adCells a11, adCells a12, adMod a13, adOut a14] → (v0 0 = a9 0 ∧ v0 1 = a10 0 ∧ v0 2 = a11 0 ∧ v0 3 = a12 0) → bw_P (dC, dI) vwCl [wPF ct a0 (a1 0) (a4 0) (a6 0) (a7 0) (a8 0) v0 o0, wReader ct a1 (a2 0) o1, wText ct a2 (a3 0) o2, wSteps ct a3 o3, wText ct a4 (a5 0) o4, wSteps ct a5 o5, wReckoner ct a6 o6, wCells ct a7 o7, wCells ct a8 o8, wCells ct a9 o9, wCells ct a10 o10, wCells ct a11 o11, wCells ct a12 o12, wMod ct a13 o13, wOut ct a14 o14] H → va_S A s.heap H locs → lv_has ls 8 [(0, .ref b), (1, .ref (a0 0)), (2, .ref (a13 0)), (3, .ref (a14 0)), (4, .int x4)] → k23 x4 o0 o1 o2 o3 o4 o5 o6 o7 o8 o9 o10 o11 o12 o13 o14 = some () → W p l e room_1 s m #[Value.ref b] below meth c H locs (200 + (it + 1)) (40000 + 6 * (it + 1)) (lw_Z below #[Value.ref b] s) (F0 m 23 ls [])) : ∀ (a0 a1 a2 a3 a4 a5 a6 a7 a8 a9 a10 a11 a12 a13 a14 : Nat → Nat) (v0 : Nat → Nat) (x4 : Int32) (o0 o1 o2 o3 o4 o5 o6 o7 o8 o9 o10 o11 o12 o13 o14 : Ob) (H : Heap) (locs : List Loc) (ls : Array Slot), bw_N A [adPF a0, adReader a1, adText a2, adSteps a3, adText a4, adSteps a5, adReckoner a6, adCells a7, adCells a8, adCells a9, adCells a10, adCells a11, adCells a12, adMod a13, adOut a14] → (v0 0 = a9 0 ∧ v0 1 = a10 0 ∧ v0 2 = a11 0 ∧ v0 3 = a12 0) → bw_P (dC, dI) vwCl [wPF ct a0 (a1 0) (a4 0) (a6 0) (a7 0) (a8 0) v0 o0, wReader ct a1 (a2 0) o1, wText ct a2 (a3 0) o2, wSteps ct a3 o3, wText ct a4 (a5 0) o4, wSteps ct a5 o5, wReckoner ct a6 o6, wCells ct a7 o7, wCells ct a8 o8, wCells ct a9 o9, wCells ct a10 o10, wCells ct a11 o11, wCells ct a12 o12, wMod ct a13 o13, wOut ct a14 o14] H → va_S A s.heap H locs → lv_has ls 8 [(0, .ref b), (1, .ref (a0 0)), (2, .ref (a13 0)), (3, .ref (a14 0)), (4, .int x4)] → F_Law_law_895 L xs k23 x4 o0 o1 o2 o3 o4 o5 o6 o7 o8 o9 o10 o11 o12 o13 o14 = some () → W p l e room_1 s m #[Value.ref b] below meth c H locs (200 + it) (40000 + 6 * it) (lw_Z below #[Value.ref b] s) (F0 m 895 ls []) := by
  obtain ⟨hx, hb, hr, hml, hown, hlocks, hts, hK, hA, hAs, hX, hbl, hnx, hthy, hex9, hsx⟩ := id C0
  have hbA : ¬ A b := fun z => absurd (hAs b z) (Nat.not_le.mpr hbl)
  intro a0 a1 a2 a3 a4 a5 a6 a7 a8 a9 a10 a11 a12 a13 a14 v0 x4 o0 o1 o2 o3 o4 o5 o6 o7 o8 o9 o10 o11 o12 o13 o14 H locs ls hN hver hP hS hl h
  rw [F_Law_law_895] at h
  refine lv_aload_n hx hb d_Law_law_895 rfl (lv_at hl 1 rfl) ?_
  refine lv_aload_n hx hb d_Law_law_896 rfl (lv_at hl 0 rfl) ?_
  refine lv_iload hx hb d_Law_law_897 (lv_at hl 4 rfl) ?_
  refine lv_iconst (v := 1) hx hb d_Law_law_899 (by decide) ?_
  refine lv_iadd hx hb d_Law_law_900 ?_
  obtain ⟨hi215, h⟩ := chk_some h
  refine va_sld hx hb hX hbl hbA hS (inb_in hi215) d_Law_law_901 ?_
  refine lv_aload_n hx hb d_Law_law_902 rfl (lv_at hl 3 rfl) ?_
  obtain ⟨v217, o_218, o_219, o_220, hG216, h⟩ := bind4_some h
  refine bw_call (Lc := [wPF ct a0 (a1 0) (a4 0) (a6 0) (a7 0) (a8 0) v0 o0, wCells ct a7 o7, wReckoner ct a6 o6, wText ct a4 (a5 0) o4, wCells ct a8 o8, wSteps ct a5 o5, wOut ct a14 o14]) (Lc' := [wPF ct a0 (a1 0) (a4 0) (a6 0) (a7 0) (a8 0) v0 o0, wCells ct a7 o7, wReckoner ct a6 o_218, wText ct a4 (a5 0) o4, wCells ct a8 o_219, wSteps ct a5 o5, wOut ct a14 o_220]) (L' := [wPF ct a0 (a1 0) (a4 0) (a6 0) (a7 0) (a8 0) v0 o0, wReader ct a1 (a2 0) o1, wText ct a2 (a3 0) o2, wSteps ct a3 o3, wText ct a4 (a5 0) o4, wSteps ct a5 o5, wReckoner ct a6 o_218, wCells ct a7 o7, wCells ct a8 o_219, wCells ct a9 o9, wCells ct a10 o10, wCells ct a11 o11, wCells ct a12 o12, wMod ct a13 o13, wOut ct a14 o_220]) [0, 7, 6, 4, 8, 5, 14] (bt_runSW (n := 3) (As := [.ref (a0 0), .int (xs (Int32.toNatClampNeg (x4 + (1 : Int32)))), .ref (a14 0)]) (rest := []) ⟨hx, hb, hml, hown, hts⟩ (c_Law_check l hl0 ct dC dI a0 a7 a6 a4 a8 a5 a14 (a1 0) v0 _ (xs (Int32.toNatClampNeg (x4 + (1 : Int32)))) o0 o7 o6 o4 o8 o5 o14 v217 o_218 o_219 o_220 hG216) (gd_any cd_Law_check) rfl rfl rfl (hts _ ini_Law) (hts _ ml_Law_119) (hts _ st_Law_check) (by decide +kernel) ⟨Nat.le_of_ble_eq_true rfl, Nat.le_of_ble_eq_true rfl⟩ ⟨bw_blind thh_call, fun U hU hW => ⟨rfl, by rw [hU], by rw [hU]; exact hP.sub [0, 7, 6, 4, 8, 5, 14] rfl, va_K.moved hW.alike hK, (hN.sub [0, 7, 6, 4, 8, 5, 14] (by decide) rfl).weaken (fun _ _ => trivial), ⟨nx_warm hW hnx, thy_x hthy hS hAs hW hU, exX.moved hW.alike hex9⟩⟩⟩ rfl rfl hl.1 rfl (Nat.le_of_ble_eq_true rfl) d_Law_law_903 ⟨by rw [room_c]; omega, by rw [room_s]; omega⟩) hP hN hS hA rfl rfl rfl (fun H locs hP hS => ?_)
  refine lv_istore (lv' := [(5, .int v217), (0, .ref b), (1, .ref (a0 0)), (2, .ref (a13 0)), (3, .ref (a14 0)), (4, .int x4)]) hx hb d_Law_law_906 hl (by decide) rfl (fun ls hl => ?_)
  refine lv_aload_n hx hb d_Law_law_908 rfl (lv_at hl 3 rfl) ?_
  refine lv_aload_n hx hb d_Law_law_909 rfl (lv_at hl 1 rfl) ?_
  refine lv_iload hx hb d_Law_law_910 (lv_at hl 5 rfl) ?_
  refine lv_iconst (v := 1) hx hb d_Law_law_912 (by decide) ?_
  refine lv_iadd hx hb d_Law_law_913 ?_
  refine va_sld hx hb hX hbl hbA hS (inb_in hi215) d_Law_law_914 ?_
  obtain ⟨v223, o_224, hG222, h⟩ := bind2_some h
  refine bw_call (Lc := [wMod ct a13 o13]) (Lc' := [wMod ct a13 o_224]) (L' := [wPF ct a0 (a1 0) (a4 0) (a6 0) (a7 0) (a8 0) v0 o0, wReader ct a1 (a2 0) o1, wText ct a2 (a3 0) o2, wSteps ct a3 o3, wText ct a4 (a5 0) o4, wSteps ct a5 o5, wReckoner ct a6 o_218, wCells ct a7 o7, wCells ct a8 o_219, wCells ct a9 o9, wCells ct a10 o10, wCells ct a11 o11, wCells ct a12 o12, wMod ct a13 o_224, wOut ct a14 o_220]) [13] (va_runV (As := [.int (xs (Int32.toNatClampNeg (x4 + (1 : Int32))))]) (rest := []) ⟨hx, hb, hml, hown, hts⟩ (c_Mod_check l ct dC dI a13 _ (xs (Int32.toNatClampNeg (x4 + (1 : Int32)))) o13 v223 o_224 hG222) (cwV 1 hts g_Law_121 rfl rfl rfl (by decide +kernel) ⟨Nat.le_of_ble_eq_true rfl, Nat.le_of_ble_eq_true rfl⟩) ⟨bw_blind nx_call, va_recv hK (hP 13 _ rfl) (ci := 6) (q0 := 0) rfl rfl, fun U hU hW => ⟨rfl, by rw [hU], by rw [hU]; exact hP.sub [13] rfl, va_K.moved hW.alike hK, (hN.sub [13] (by decide) rfl).weaken (fun _ _ => trivial), nx_warm hW hnx⟩⟩ rfl rfl hl.1 rfl (Nat.le_of_ble_eq_true rfl) d_Law_law_915 ⟨by rw [room_c]; omega, by rw [room_s]; omega⟩) hP hN hS hA rfl rfl rfl (fun H locs hP hS => ?_)
  refine lv_istore (lv' := [(6, .int v223), (5, .int v217), (0, .ref b), (1, .ref (a0 0)), (2, .ref (a13 0)), (3, .ref (a14 0)), (4, .int x4)]) hx hb d_Law_law_918 hl (by decide) rfl (fun ls hl => ?_)
  refine lv_aload_n hx hb d_Law_law_920 rfl (lv_at hl 4 rfl) ?_
  obtain ⟨v226, hG225, h⟩ := bind1_some h
  refine bw_callR (va_runV (As := []) (rest := []) ⟨hx, hb, hml, hown, hts⟩ (c_Mod_thrown l ct dC dI a13 _ o_224 v226 hG225) (cwV 0 hts g_Law_83 rfl rfl rfl (by decide +kernel) ⟨Nat.le_of_ble_eq_true rfl, Nat.le_of_ble_eq_true rfl⟩) ⟨bw_blind nx_call, va_recv hK (hP 13 _ rfl) (ci := 6) (q0 := 0) rfl rfl, fun U hU hW => ⟨rfl, by rw [hU], by rw [hU]; exact hP.sub [13] rfl, va_K.moved hW.alike hK, (hN.sub [13] (by decide) rfl).weaken (fun _ _ => trivial), nx_warm hW hnx⟩⟩ rfl rfl hl.1 rfl (Nat.le_of_ble_eq_true rfl) d_Law_law_921 ⟨by rw [room_c]; omega, by rw [room_s]; omega⟩) ?_
  refine lv_iload hx hb d_Law_law_924 (lv_at hl 1 rfl) ?_
  refine lv_icmp_eq (tgt := 931) hx hb d_Law_law_926 (by decide) (fun c227 => ?_) (fun c227 => ?_)
  · have h := ite_t c227 h
    refine lv_iload hx hb d_Law_law_931 (lv_at hl 1 rfl) ?_
    refine lv_if_ne (tgt := 948) hx hb d_Law_law_933 (by decide) (fun c228 => ?_) (fun c228 => ?_)
    · have h := ite_f c228 h
      refine lv_goto (tgt := 1128) hx hb d_Law_law_948 (by decide) ?_
      refine lv_iinc (v := (x4 + (6 : Int32))) (lv' := [(4, .int (x4 + (6 : Int32))), (6, .int v223), (5, .int v217), (0, .ref b), (1, .ref (a0 0)), (2, .ref (a13 0)), (3, .ref (a14 0))]) hx hb d_Law_law_1128 hl (k := 6) rfl rfl (by decide) rfl (fun ls hl => ?_)
      refine lv_goto (tgt := 23) hx hb d_Law_law_1131 (by decide) ?_
      refine W.widen (k := 200 + (it + 1)) (n := 40000 + 6 * (it + 1)) (by omega) (by omega) ?_
      exact hk23 a0 a1 a2 a3 a4 a5 a6 a7 a8 a9 a10 a11 a12 a13 a14 v0 (x4 + (6 : Int32)) o0 o1 o2 o3 o4 o5 o_218 o7 o_219 o9 o10 o11 o12 o_224 o_220 _ _ _ hN hver hP hS (lv_sub hl [3, 4, 5, 6, 0] rfl) h
    · have h := ite_t c228 h
      refine lv_aload_n hx hb d_Law_law_936 rfl (lv_at hl 5 rfl) ?_
      refine lv_iconst (v := 0) hx hb d_Law_law_937 (by decide) ?_
      obtain ⟨hi229, h⟩ := chk_some h
      refine va_lald (f := g64 o_220 0) hx hb hK (hP 14 _ rfl) 0 1 rfl rfl (inb_in hi229) d_Law_law_938 ?_
      refine lv_iload hx hb d_Law_law_939 (lv_at hl 0 rfl) ?_
      refine lv_i2l (v := (Int32.toInt64 v223)) hx hb d_Law_law_941 rfl ?_
      refine W.lcmp hx hb d_Law_law_942 ?_
      refine lv_if_eq (tgt := 948) hx hb d_Law_law_943 (by decide) (fun c230 => ?_) (fun c230 => ?_)
      · have h := ite_t c230 h
        refine lv_goto (tgt := 1128) hx hb d_Law_law_948 (by decide) ?_
        refine lv_iinc (v := (x4 + (6 : Int32))) (lv' := [(4, .int (x4 + (6 : Int32))), (6, .int v223), (5, .int v217), (0, .ref b), (1, .ref (a0 0)), (2, .ref (a13 0)), (3, .ref (a14 0))]) hx hb d_Law_law_1128 hl (k := 6) rfl rfl (by decide) rfl (fun ls hl => ?_)
        refine lv_goto (tgt := 23) hx hb d_Law_law_1131 (by decide) ?_
        refine W.widen (k := 200 + (it + 1)) (n := 40000 + 6 * (it + 1)) (by omega) (by omega) ?_
        exact hk23 a0 a1 a2 a3 a4 a5 a6 a7 a8 a9 a10 a11 a12 a13 a14 v0 (x4 + (6 : Int32)) o0 o1 o2 o3 o4 o5 o_218 o7 o_219 o9 o10 o11 o12 o_224 o_220 _ _ _ hN hver hP hS (lv_sub hl [3, 4, 5, 6, 0] rfl) h
      · have h := ite_f c230 h
        refine lv_iconst (v := 0) hx hb d_Law_law_946 (by decide) ?_
        cases h
  · have h := ite_f c227 h
    refine lv_iconst (v := 0) hx hb d_Law_law_929 (by decide) ?_
    cases h
