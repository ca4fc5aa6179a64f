/-! THE LAW: case at 951 -/
def F_Law_law_951 (L : Nat) (xs : Nat → Int32) (k23 : Int32 → Ob → Ob → Ob → Ob → Ob → Ob → Ob → Ob → Ob → Ob → Ob → Ob → Ob → Ob → Ob → Option Unit) (x4 : Int32) (o0 o1 o2 o3 o4 o5 o6 o7 o8 o9 o10 o11 o12 o13 o14 : Ob) : Option Unit :=
  if (g32 o0 8 0) = 0 then (bind4 (F_Law_version o0 o7 o9 o14) (fun v233 o_234 o_235 o_236 => bind2 (F_Mod_version o13) (fun v238 o_239 => bind1 (F_Mod_thrown o_239) (fun v241 => if v241 = v233 then (if v233 = 0 then (chk (inb (0 : Int32) 1) (if (lg_cmp (g64 o_236 0 (Int32.toNatClampNeg (0 : Int32))) (Int32.toInt64 v238)) = 0 then (k23 (x4 + (6 : Int32)) o_234 o1 o2 o3 o4 o5 o6 o7 o8 o_235 o10 o11 o12 o_239 o_236) else (none))) else (k23 (x4 + (6 : Int32)) o_234 o1 o2 o3 o4 o5 o6 o7 o8 o_235 o10 o11 o12 o_239 o_236)) else (none))))) else (if (g32 o0 8 0) = 1 then (bind4 (F_Law_version o0 o7 o10 o14) (fun v248 o_249 o_250 o_251 => bind2 (F_Mod_version o13) (fun v253 o_254 => bind1 (F_Mod_thrown o_254) (fun v256 => if v256 = v248 then (if v248 = 0 then (chk (inb (0 : Int32) 1) (if (lg_cmp (g64 o_251 0 (Int32.toNatClampNeg (0 : Int32))) (Int32.toInt64 v253)) = 0 then (k23 (x4 + (6 : Int32)) o_249 o1 o2 o3 o4 o5 o6 o7 o8 o9 o_250 o11 o12 o_254 o_251) else (none))) else (k23 (x4 + (6 : Int32)) o_249 o1 o2 o3 o4 o5 o6 o7 o8 o9 o_250 o11 o12 o_254 o_251)) else (none))))) else (if (g32 o0 8 0) = 2 then (bind4 (F_Law_version o0 o7 o11 o14) (fun v263 o_264 o_265 o_266 => bind2 (F_Mod_version o13) (fun v268 o_269 => bind1 (F_Mod_thrown o_269) (fun v271 => if v271 = v263 then (if v263 = 0 then (chk (inb (0 : Int32) 1) (if (lg_cmp (g64 o_266 0 (Int32.toNatClampNeg (0 : Int32))) (Int32.toInt64 v268)) = 0 then (k23 (x4 + (6 : Int32)) o_264 o1 o2 o3 o4 o5 o6 o7 o8 o9 o10 o_265 o12 o_269 o_266) else (none))) else (k23 (x4 + (6 : Int32)) o_264 o1 o2 o3 o4 o5 o6 o7 o8 o9 o10 o_265 o12 o_269 o_266)) else (none))))) else (if (g32 o0 8 0) = 3 then (bind4 (F_Law_version o0 o7 o12 o14) (fun v278 o_279 o_280 o_281 => bind2 (F_Mod_version o13) (fun v283 o_284 => bind1 (F_Mod_thrown o_284) (fun v286 => if v286 = v278 then (if v278 = 0 then (chk (inb (0 : Int32) 1) (if (lg_cmp (g64 o_281 0 (Int32.toNatClampNeg (0 : Int32))) (Int32.toInt64 v283)) = 0 then (k23 (x4 + (6 : Int32)) o_279 o1 o2 o3 o4 o5 o6 o7 o8 o9 o10 o11 o_280 o_284 o_281) else (none))) else (k23 (x4 + (6 : Int32)) o_279 o1 o2 o3 o4 o5 o6 o7 o8 o9 o10 o11 o_280 o_284 o_281)) else (none))))) else (bind4 (F_Law_version o0 o7 o9 o14) (fun v293 o_294 o_295 o_296 => bind2 (F_Mod_version o13) (fun v298 o_299 => bind1 (F_Mod_thrown o_299) (fun v301 => if v301 = v293 then (if v293 = 0 then (chk (inb (0 : Int32) 1) (if (lg_cmp (g64 o_296 0 (Int32.toNatClampNeg (0 : Int32))) (Int32.toInt64 v298)) = 0 then (k23 (x4 + (6 : Int32)) o_294 o1 o2 o3 o4 o5 o6 o7 o8 o_295 o10 o11 o12 o_299 o_296) else (none))) else (k23 (x4 + (6 : Int32)) o_294 o1 o2 o3 o4 o5 o6 o7 o8 o_295 o10 o11 o12 o_299 o_296)) else (none))))))))
set_option maxHeartbeats 8000000 in
set_option maxRecDepth 100000 in
theorem k_Law_law_951 {p : Program} {l : Launch} {e : Env} {s : State} {m : MethodId} {below : List Frame} {meth : Method} {c : Code} {b L : Nat} {xs : Nat → Int32} {A : Nat → Prop} {ct dC : Nat → ClassId} {dI : Nat → Nat → Nat} (C0 : lcx p s m meth c b L xs A ct dC dI) (hl0 : l.stackTraces = false) {it : Nat} (hit : it + 1 ≤ 600) {k23 : Int32 → Ob → Ob → Ob → Ob → Ob → Ob → Ob → Ob → Ob → Ob → Ob → Ob → Ob → Ob → Ob → Option Unit} (hk23 : ∀ (a0 a1 a2 a3 a4 a5 a6 a7 a8 a9 a10 a11 a12 a13 a14 : Nat → Nat) (v0 : Nat → Nat) (x4 : Int32) (o0 o1 o2 o3 o4 o5 o6 o7 o8 o9 o10 o11 o12 o13 o14 : Ob) (H : Heap) (locs : List Loc) (ls : Array Slot), bw_N A [adPF a0, adReader a1, adText a2, adSteps a3, adText a4, adSteps a5, adReckoner a6, adCells a7, adCells a8, adCells a9, adCells a10, adCells a11, adCells a12, adMod a13, adOut a14] → (v0 0 = a9 0 ∧ v0 1 = a10 0 ∧ v0 2 = a11 0 ∧ v0 3 = a12 0) → bw_P (dC, dI) vwCl [wPF ct a0 (a1 0) (a4 0) (a6 0) (a7 0) (a8 0) v0 o0, wReader ct a1 (a2 0) o1, wText ct a2 (a3 0) o2, wSteps ct a3 o3, wText ct a4 (a5 0) o4, wSteps ct a5 o5, wReckoner ct a6 o6, wCells ct a7 o7, wCells ct a8 o8, wCells ct a9 o9, wCells ct a10 o10, wCells ct a11 o11, wCells ct a12 o12, wMod ct a13 o13, wOut ct a14 o14] H → va_S A s.heap H locs → lv_has ls 8 [(0, .ref b), (1, .ref (a0 0)), (2, .ref (a13 0)), (3, .ref (a14 0)), (4, .int x4)] → k23 x4 o0 o1 o2 o3 o4 o5 o6 o7 o8 o9 o10 o11 o12 o13 o14 = some () → W p l e room_1 s m #[Value.ref b] below meth c H locs (200 + (it + 1)) (40000 + 6 * (it + 1)) (lw_Z below #[Value.ref b] s) (F0 m 23 ls [])) : ∀ (a0 a1 a2 a3 a4 a5 a6 a7 a8 a9 a10 a11 a12 a13 a14 : Nat → Nat) (v0 : Nat → Nat) (x4 : Int32) (o0 o1 o2 o3 o4 o5 o6 o7 o8 o9 o10 o11 o12 o13 o14 : Ob) (H : Heap) (locs : List Loc) (ls : Array Slot), bw_N A [adPF a0, adReader a1, adText a2, adSteps a3, adText a4, adSteps a5, adReckoner a6, adCells a7, adCells a8, adCells a9, adCells a10, adCells a11, adCells a12, adMod a13, adOut a14] → (v0 0 = a9 0 ∧ v0 1 = a10 0 ∧ v0 2 = a11 0 ∧ v0 3 = a12 0) → bw_P (dC, dI) vwCl [wPF ct a0 (a1 0) (a4 0) (a6 0) (a7 0) (a8 0) v0 o0, wReader ct a1 (a2 0) o1, wText ct a2 (a3 0) o2, wSteps ct a3 o3, wText ct a4 (a5 0) o4, wSteps ct a5 o5, wReckoner ct a6 o6, wCells ct a7 o7, wCells ct a8 o8, wCells ct a9 o9, wCells ct a10 o10, wCells ct a11 o11, wCells ct a12 o12, wMod ct a13 o13, wOut ct a14 o14] H → va_S A s.heap H locs → lv_has ls 8 [(0, .ref b), (1, .ref (a0 0)), (2, .ref (a13 0)), (3, .ref (a14 0)), (4, .int x4)] → F_Law_law_951 L xs k23 x4 o0 o1 o2 o3 o4 o5 o6 o7 o8 o9 o10 o11 o12 o13 o14 = some () → W p l e room_1 s m #[Value.ref b] below meth c H locs (200 + it) (40000 + 6 * it) (lw_Z below #[Value.ref b] s) (F0 m 951 ls []) := by
  obtain ⟨hx, hb, hr, hml, hown, hlocks, hts, hK, hA, hAs, hX, hbl, hnx, hthy, hex9, hsx⟩ := id C0
  have hbA : ¬ A b := fun z => absurd (hAs b z) (Nat.not_le.mpr hbl)
  intro a0 a1 a2 a3 a4 a5 a6 a7 a8 a9 a10 a11 a12 a13 a14 v0 x4 o0 o1 o2 o3 o4 o5 o6 o7 o8 o9 o10 o11 o12 o13 o14 H locs ls hN hver hP hS hl h
  rw [F_Law_law_951] at h
  refine lv_aload_n hx hb d_Law_law_951 rfl (lv_at hl 1 rfl) ?_
  refine lv_aload_n hx hb d_Law_law_952 rfl (lv_at hl 3 rfl) ?_
  by_cases c231 : (g32 o0 8 0) = 0
  · have h := ite_t c231 h
    obtain ⟨v233, o_234, o_235, o_236, hG232, h⟩ := bind4_some h
    refine bw_call (Lc := [wPF ct a0 (a1 0) (a4 0) (a6 0) (a7 0) (a8 0) v0 o0, wCells ct a7 o7, wCells ct a9 o9, wOut ct a14 o14]) (Lc' := [wPF ct a0 (a1 0) (a4 0) (a6 0) (a7 0) (a8 0) v0 o_234, wCells ct a7 o7, wCells ct a9 o_235, wOut ct a14 o_236]) (L' := [wPF ct a0 (a1 0) (a4 0) (a6 0) (a7 0) (a8 0) v0 o_234, wReader ct a1 (a2 0) o1, wText ct a2 (a3 0) o2, wSteps ct a3 o3, wText ct a4 (a5 0) o4, wSteps ct a5 o5, wReckoner ct a6 o6, wCells ct a7 o7, wCells ct a8 o8, wCells ct a9 o_235, wCells ct a10 o10, wCells ct a11 o11, wCells ct a12 o12, wMod ct a13 o13, wOut ct a14 o_236]) [0, 7, 9, 14] (bt_runSW (n := 2) (As := [.ref (a0 0), .ref (a14 0)]) (rest := []) ⟨hx, hb, hml, hown, hts⟩ (c_Law_version l hl0 ct dC dI a0 a7 a9 a14 (a1 0) (a4 0) (a6 0) (a8 0) v0 _ o0 o7 o9 o14 v233 o_234 o_235 o_236 (fun _ => by rw [c231]; exact hver.1) hG232) (gd_any cd_Law_version) rfl rfl rfl (hts _ ini_Law) (hts _ ml_Law_122) (hts _ st_Law_version) (by decide +kernel) ⟨Nat.le_of_ble_eq_true rfl, Nat.le_of_ble_eq_true rfl⟩ ⟨bw_blind thh_call, fun U hU hW => ⟨rfl, by rw [hU], by rw [hU]; exact hP.sub [0, 7, 9, 14] rfl, va_K.moved hW.alike hK, (hN.sub [0, 7, 9, 14] (by decide) rfl).weaken (fun _ _ => trivial), ⟨nx_warm hW hnx, thy_x hthy hS hAs hW hU, exX.moved hW.alike hex9⟩⟩⟩ rfl rfl hl.1 rfl (Nat.le_of_ble_eq_true rfl) d_Law_law_953 ⟨by rw [room_c]; omega, by rw [room_s]; omega⟩) hP hN hS hA rfl rfl rfl (fun H locs hP hS => ?_)
    refine lv_istore (lv' := [(5, .int v233), (0, .ref b), (1, .ref (a0 0)), (2, .ref (a13 0)), (3, .ref (a14 0)), (4, .int x4)]) hx hb d_Law_law_956 hl (by decide) rfl (fun ls hl => ?_)
    refine lv_aload_n hx hb d_Law_law_958 rfl (lv_at hl 3 rfl) ?_
    obtain ⟨v238, o_239, hG237, h⟩ := bind2_some h
    refine bw_call (Lc := [wMod ct a13 o13]) (Lc' := [wMod ct a13 o_239]) (L' := [wPF ct a0 (a1 0) (a4 0) (a6 0) (a7 0) (a8 0) v0 o_234, wReader ct a1 (a2 0) o1, wText ct a2 (a3 0) o2, wSteps ct a3 o3, wText ct a4 (a5 0) o4, wSteps ct a5 o5, wReckoner ct a6 o6, wCells ct a7 o7, wCells ct a8 o8, wCells ct a9 o_235, wCells ct a10 o10, wCells ct a11 o11, wCells ct a12 o12, wMod ct a13 o_239, wOut ct a14 o_236]) [13] (va_runV (As := []) (rest := []) ⟨hx, hb, hml, hown, hts⟩ (c_Mod_version l ct dC dI a13 _ o13 v238 o_239 hG237) (cwV 0 hts g_Law_124 rfl rfl rfl (by decide +kernel) ⟨Nat.le_of_ble_eq_true rfl, Nat.le_of_ble_eq_true rfl⟩) ⟨bw_blind nx_call, va_recv hK (hP 13 _ rfl) (ci := 6) (q0 := 0) rfl rfl, fun U hU hW => ⟨rfl, by rw [hU], by rw [hU]; exact hP.sub [13] rfl, va_K.moved hW.alike hK, (hN.sub [13] (by decide) rfl).weaken (fun _ _ => trivial), nx_warm hW hnx⟩⟩ rfl rfl hl.1 rfl (Nat.le_of_ble_eq_true rfl) d_Law_law_959 ⟨by rw [room_c]; omega, by rw [room_s]; omega⟩) hP hN hS hA rfl rfl rfl (fun H locs hP hS => ?_)
    refine lv_istore (lv' := [(6, .int v238), (5, .int v233), (0, .ref b), (1, .ref (a0 0)), (2, .ref (a13 0)), (3, .ref (a14 0)), (4, .int x4)]) hx hb d_Law_law_962 hl (by decide) rfl (fun ls hl => ?_)
    refine lv_aload_n hx hb d_Law_law_964 rfl (lv_at hl 4 rfl) ?_
    obtain ⟨v241, hG240, h⟩ := bind1_some h
    refine bw_callR (va_runV (As := []) (rest := []) ⟨hx, hb, hml, hown, hts⟩ (c_Mod_thrown l ct dC dI a13 _ o_239 v241 hG240) (cwV 0 hts g_Law_83 rfl rfl rfl (by decide +kernel) ⟨Nat.le_of_ble_eq_true rfl, Nat.le_of_ble_eq_true rfl⟩) ⟨bw_blind nx_call, va_recv hK (hP 13 _ rfl) (ci := 6) (q0 := 0) rfl rfl, fun U hU hW => ⟨rfl, by rw [hU], by rw [hU]; exact hP.sub [13] rfl, va_K.moved hW.alike hK, (hN.sub [13] (by decide) rfl).weaken (fun _ _ => trivial), nx_warm hW hnx⟩⟩ rfl rfl hl.1 rfl (Nat.le_of_ble_eq_true rfl) d_Law_law_965 ⟨by rw [room_c]; omega, by rw [room_s]; omega⟩) ?_
    refine lv_iload hx hb d_Law_law_968 (lv_at hl 1 rfl) ?_
    refine lv_icmp_eq (tgt := 975) hx hb d_Law_law_970 (by decide) (fun c242 => ?_) (fun c242 => ?_)
    · have h := ite_t c242 h
      refine lv_iload hx hb d_Law_law_975 (lv_at hl 1 rfl) ?_
      refine lv_if_ne (tgt := 992) hx hb d_Law_law_977 (by decide) (fun c243 => ?_) (fun c243 => ?_)
      · have h := ite_f c243 h
        refine lv_goto (tgt := 1128) hx hb d_Law_law_992 (by decide) ?_
        refine lv_iinc (v := (x4 + (6 : Int32))) (lv' := [(4, .int (x4 + (6 : Int32))), (6, .int v238), (5, .int v233), (0, .ref b), (1, .ref (a0 0)), (2, .ref (a13 0)), (3, .ref (a14 0))]) hx hb d_Law_law_1128 hl (k := 6) rfl rfl (by decide) rfl (fun ls hl => ?_)
        refine lv_goto (tgt := 23) hx hb d_Law_law_1131 (by decide) ?_
        refine W.widen (k := 200 + (it + 1)) (n := 40000 + 6 * (it + 1)) (by omega) (by omega) ?_
        exact hk23 a0 a1 a2 a3 a4 a5 a6 a7 a8 a9 a10 a11 a12 a13 a14 v0 (x4 + (6 : Int32)) o_234 o1 o2 o3 o4 o5 o6 o7 o8 o_235 o10 o11 o12 o_239 o_236 _ _ _ hN hver hP hS (lv_sub hl [3, 4, 5, 6, 0] rfl) h
      · have h := ite_t c243 h
        refine lv_aload_n hx hb d_Law_law_980 rfl (lv_at hl 5 rfl) ?_
        refine lv_iconst (v := 0) hx hb d_Law_law_981 (by decide) ?_
        obtain ⟨hi244, h⟩ := chk_some h
        refine va_lald (f := g64 o_236 0) hx hb hK (hP 14 _ rfl) 0 1 rfl rfl (inb_in hi244) d_Law_law_982 ?_
        refine lv_iload hx hb d_Law_law_983 (lv_at hl 0 rfl) ?_
        refine lv_i2l (v := (Int32.toInt64 v238)) hx hb d_Law_law_985 rfl ?_
        refine W.lcmp hx hb d_Law_law_986 ?_
        refine lv_if_eq (tgt := 992) hx hb d_Law_law_987 (by decide) (fun c245 => ?_) (fun c245 => ?_)
        · have h := ite_t c245 h
          refine lv_goto (tgt := 1128) hx hb d_Law_law_992 (by decide) ?_
          refine lv_iinc (v := (x4 + (6 : Int32))) (lv' := [(4, .int (x4 + (6 : Int32))), (6, .int v238), (5, .int v233), (0, .ref b), (1, .ref (a0 0)), (2, .ref (a13 0)), (3, .ref (a14 0))]) hx hb d_Law_law_1128 hl (k := 6) rfl rfl (by decide) rfl (fun ls hl => ?_)
          refine lv_goto (tgt := 23) hx hb d_Law_law_1131 (by decide) ?_
          refine W.widen (k := 200 + (it + 1)) (n := 40000 + 6 * (it + 1)) (by omega) (by omega) ?_
          exact hk23 a0 a1 a2 a3 a4 a5 a6 a7 a8 a9 a10 a11 a12 a13 a14 v0 (x4 + (6 : Int32)) o_234 o1 o2 o3 o4 o5 o6 o7 o8 o_235 o10 o11 o12 o_239 o_236 _ _ _ hN hver hP hS (lv_sub hl [3, 4, 5, 6, 0] rfl) h
        · have h := ite_f c245 h
          refine lv_iconst (v := 0) hx hb d_Law_law_990 (by decide) ?_
          cases h
    · have h := ite_f c242 h
      refine lv_iconst (v := 0) hx hb d_Law_law_973 (by decide) ?_
      cases h
  · have h := ite_f c231 h
    by_cases c246 : (g32 o0 8 0) = 1
    · have h := ite_t c246 h
      obtain ⟨v248, o_249, o_250, o_251, hG247, h⟩ := bind4_some h
      refine bw_call (Lc := [wPF ct a0 (a1 0) (a4 0) (a6 0) (a7 0) (a8 0) v0 o0, wCells ct a7 o7, wCells ct a10 o10, wOut ct a14 o14]) (Lc' := [wPF ct a0 (a1 0) (a4 0) (a6 0) (a7 0) (a8 0) v0 o_249, wCells ct a7 o7, wCells ct a10 o_250, wOut ct a14 o_251]) (L' := [wPF ct a0 (a1 0) (a4 0) (a6 0) (a7 0) (a8 0) v0 o_249, wReader ct a1 (a2 0) o1, wText ct a2 (a3 0) o2, wSteps ct a3 o3, wText ct a4 (a5 0) o4, wSteps ct a5 o5, wReckoner ct a6 o6, wCells ct a7 o7, wCells ct a8 o8, wCells ct a9 o9, wCells ct a10 o_250, wCells ct a11 o11, wCells ct a12 o12, wMod ct a13 o13, wOut ct a14 o_251]) [0, 7, 10, 14] (bt_runSW (n := 2) (As := [.ref (a0 0), .ref (a14 0)]) (rest := []) ⟨hx, hb, hml, hown, hts⟩ (c_Law_version l hl0 ct dC dI a0 a7 a10 a14 (a1 0) (a4 0) (a6 0) (a8 0) v0 _ o0 o7 o10 o14 v248 o_249 o_250 o_251 (fun _ => by rw [c246]; exact hver.2.1) hG247) (gd_any cd_Law_version) rfl rfl rfl (hts _ ini_Law) (hts _ ml_Law_122) (hts _ st_Law_version) (by decide +kernel) ⟨Nat.le_of_ble_eq_true rfl, Nat.le_of_ble_eq_true rfl⟩ ⟨bw_blind thh_call, fun U hU hW => ⟨rfl, by rw [hU], by rw [hU]; exact hP.sub [0, 7, 10, 14] rfl, va_K.moved hW.alike hK, (hN.sub [0, 7, 10, 14] (by decide) rfl).weaken (fun _ _ => trivial), ⟨nx_warm hW hnx, thy_x hthy hS hAs hW hU, exX.moved hW.alike hex9⟩⟩⟩ rfl rfl hl.1 rfl (Nat.le_of_ble_eq_true rfl) d_Law_law_953 ⟨by rw [room_c]; omega, by rw [room_s]; omega⟩) hP hN hS hA rfl rfl rfl (fun H locs hP hS => ?_)
      refine lv_istore (lv' := [(5, .int v248), (0, .ref b), (1, .ref (a0 0)), (2, .ref (a13 0)), (3, .ref (a14 0)), (4, .int x4)]) hx hb d_Law_law_956 hl (by decide) rfl (fun ls hl => ?_)
      refine lv_aload_n hx hb d_Law_law_958 rfl (lv_at hl 3 rfl) ?_
      obtain ⟨v253, o_254, hG252, h⟩ := bind2_some h
      refine bw_call (Lc := [wMod ct a13 o13]) (Lc' := [wMod ct a13 o_254]) (L' := [wPF ct a0 (a1 0) (a4 0) (a6 0) (a7 0) (a8 0) v0 o_249, wReader ct a1 (a2 0) o1, wText ct a2 (a3 0) o2, wSteps ct a3 o3, wText ct a4 (a5 0) o4, wSteps ct a5 o5, wReckoner ct a6 o6, wCells ct a7 o7, wCells ct a8 o8, wCells ct a9 o9, wCells ct a10 o_250, wCells ct a11 o11, wCells ct a12 o12, wMod ct a13 o_254, wOut ct a14 o_251]) [13] (va_runV (As := []) (rest := []) ⟨hx, hb, hml, hown, hts⟩ (c_Mod_version l ct dC dI a13 _ o13 v253 o_254 hG252) (cwV 0 hts g_Law_124 rfl rfl rfl (by decide +kernel) ⟨Nat.le_of_ble_eq_true rfl, Nat.le_of_ble_eq_true rfl⟩) ⟨bw_blind nx_call, va_recv hK (hP 13 _ rfl) (ci := 6) (q0 := 0) rfl rfl, fun U hU hW => ⟨rfl, by rw [hU], by rw [hU]; exact hP.sub [13] rfl, va_K.moved hW.alike hK, (hN.sub [13] (by decide) rfl).weaken (fun _ _ => trivial), nx_warm hW hnx⟩⟩ rfl rfl hl.1 rfl (Nat.le_of_ble_eq_true rfl) d_Law_law_959 ⟨by rw [room_c]; omega, by rw [room_s]; omega⟩) hP hN hS hA rfl rfl rfl (fun H locs hP hS => ?_)
      refine lv_istore (lv' := [(6, .int v253), (5, .int v248), (0, .ref b), (1, .ref (a0 0)), (2, .ref (a13 0)), (3, .ref (a14 0)), (4, .int x4)]) hx hb d_Law_law_962 hl (by decide) rfl (fun ls hl => ?_)
      refine lv_aload_n hx hb d_Law_law_964 rfl (lv_at hl 4 rfl) ?_
      obtain ⟨v256, hG255, h⟩ := bind1_some h
      refine bw_callR (va_runV (As := []) (rest := []) ⟨hx, hb, hml, hown, hts⟩ (c_Mod_thrown l ct dC dI a13 _ o_254 v256 hG255) (cwV 0 hts g_Law_83 rfl rfl rfl (by decide +kernel) ⟨Nat.le_of_ble_eq_true rfl, Nat.le_of_ble_eq_true rfl⟩) ⟨bw_blind nx_call, va_recv hK (hP 13 _ rfl) (ci := 6) (q0 := 0) rfl rfl, fun U hU hW => ⟨rfl, by rw [hU], by rw [hU]; exact hP.sub [13] rfl, va_K.moved hW.alike hK, (hN.sub [13] (by decide) rfl).weaken (fun _ _ => trivial), nx_warm hW hnx⟩⟩ rfl rfl hl.1 rfl (Nat.le_of_ble_eq_true rfl) d_Law_law_965 ⟨by rw [room_c]; omega, by rw [room_s]; omega⟩) ?_
      refine lv_iload hx hb d_Law_law_968 (lv_at hl 1 rfl) ?_
      refine lv_icmp_eq (tgt := 975) hx hb d_Law_law_970 (by decide) (fun c257 => ?_) (fun c257 => ?_)
      · have h := ite_t c257 h
        refine lv_iload hx hb d_Law_law_975 (lv_at hl 1 rfl) ?_
        refine lv_if_ne (tgt := 992) hx hb d_Law_law_977 (by decide) (fun c258 => ?_) (fun c258 => ?_)
        · have h := ite_f c258 h
          refine lv_goto (tgt := 1128) hx hb d_Law_law_992 (by decide) ?_
          refine lv_iinc (v := (x4 + (6 : Int32))) (lv' := [(4, .int (x4 + (6 : Int32))), (6, .int v253), (5, .int v248), (0, .ref b), (1, .ref (a0 0)), (2, .ref (a13 0)), (3, .ref (a14 0))]) hx hb d_Law_law_1128 hl (k := 6) rfl rfl (by decide) rfl (fun ls hl => ?_)
          refine lv_goto (tgt := 23) hx hb d_Law_law_1131 (by decide) ?_
          refine W.widen (k := 200 + (it + 1)) (n := 40000 + 6 * (it + 1)) (by omega) (by omega) ?_
          exact hk23 a0 a1 a2 a3 a4 a5 a6 a7 a8 a9 a10 a11 a12 a13 a14 v0 (x4 + (6 : Int32)) o_249 o1 o2 o3 o4 o5 o6 o7 o8 o9 o_250 o11 o12 o_254 o_251 _ _ _ hN hver hP hS (lv_sub hl [3, 4, 5, 6, 0] rfl) h
        · have h := ite_t c258 h
          refine lv_aload_n hx hb d_Law_law_980 rfl (lv_at hl 5 rfl) ?_
          refine lv_iconst (v := 0) hx hb d_Law_law_981 (by decide) ?_
          obtain ⟨hi259, h⟩ := chk_some h
          refine va_lald (f := g64 o_251 0) hx hb hK (hP 14 _ rfl) 0 1 rfl rfl (inb_in hi259) d_Law_law_982 ?_
          refine lv_iload hx hb d_Law_law_983 (lv_at hl 0 rfl) ?_
          refine lv_i2l (v := (Int32.toInt64 v253)) hx hb d_Law_law_985 rfl ?_
          refine W.lcmp hx hb d_Law_law_986 ?_
          refine lv_if_eq (tgt := 992) hx hb d_Law_law_987 (by decide) (fun c260 => ?_) (fun c260 => ?_)
          · have h := ite_t c260 h
            refine lv_goto (tgt := 1128) hx hb d_Law_law_992 (by decide) ?_
            refine lv_iinc (v := (x4 + (6 : Int32))) (lv' := [(4, .int (x4 + (6 : Int32))), (6, .int v253), (5, .int v248), (0, .ref b), (1, .ref (a0 0)), (2, .ref (a13 0)), (3, .ref (a14 0))]) hx hb d_Law_law_1128 hl (k := 6) rfl rfl (by decide) rfl (fun ls hl => ?_)
            refine lv_goto (tgt := 23) hx hb d_Law_law_1131 (by decide) ?_
            refine W.widen (k := 200 + (it + 1)) (n := 40000 + 6 * (it + 1)) (by omega) (by omega) ?_
            exact hk23 a0 a1 a2 a3 a4 a5 a6 a7 a8 a9 a10 a11 a12 a13 a14 v0 (x4 + (6 : Int32)) o_249 o1 o2 o3 o4 o5 o6 o7 o8 o9 o_250 o11 o12 o_254 o_251 _ _ _ hN hver hP hS (lv_sub hl [3, 4, 5, 6, 0] rfl) h
          · have h := ite_f c260 h
            refine lv_iconst (v := 0) hx hb d_Law_law_990 (by decide) ?_
            cases h
      · have h := ite_f c257 h
        refine lv_iconst (v := 0) hx hb d_Law_law_973 (by decide) ?_
        cases h
    · have h := ite_f c246 h
      by_cases c261 : (g32 o0 8 0) = 2
      · have h := ite_t c261 h
        obtain ⟨v263, o_264, o_265, o_266, hG262, h⟩ := bind4_some h
        refine bw_call (Lc := [wPF ct a0 (a1 0) (a4 0) (a6 0) (a7 0) (a8 0) v0 o0, wCells ct a7 o7, wCells ct a11 o11, wOut ct a14 o14]) (Lc' := [wPF ct a0 (a1 0) (a4 0) (a6 0) (a7 0) (a8 0) v0 o_264, wCells ct a7 o7, wCells ct a11 o_265, wOut ct a14 o_266]) (L' := [wPF ct a0 (a1 0) (a4 0) (a6 0) (a7 0) (a8 0) v0 o_264, wReader ct a1 (a2 0) o1, wText ct a2 (a3 0) o2, wSteps ct a3 o3, wText ct a4 (a5 0) o4, wSteps ct a5 o5, wReckoner ct a6 o6, wCells ct a7 o7, wCells ct a8 o8, wCells ct a9 o9, wCells ct a10 o10, wCells ct a11 o_265, wCells ct a12 o12, wMod ct a13 o13, wOut ct a14 o_266]) [0, 7, 11, 14] (bt_runSW (n := 2) (As := [.ref (a0 0), .ref (a14 0)]) (rest := []) ⟨hx, hb, hml, hown, hts⟩ (c_Law_version l hl0 ct dC dI a0 a7 a11 a14 (a1 0) (a4 0) (a6 0) (a8 0) v0 _ o0 o7 o11 o14 v263 o_264 o_265 o_266 (fun _ => by rw [c261]; exact hver.2.2.1) hG262) (gd_any cd_Law_version) rfl rfl rfl (hts _ ini_Law) (hts _ ml_Law_122) (hts _ st_Law_version) (by decide +kernel) ⟨Nat.le_of_ble_eq_true rfl, Nat.le_of_ble_eq_true rfl⟩ ⟨bw_blind thh_call, fun U hU hW => ⟨rfl, by rw [hU], by rw [hU]; exact hP.sub [0, 7, 11, 14] rfl, va_K.moved hW.alike hK, (hN.sub [0, 7, 11, 14] (by decide) rfl).weaken (fun _ _ => trivial), ⟨nx_warm hW hnx, thy_x hthy hS hAs hW hU, exX.moved hW.alike hex9⟩⟩⟩ rfl rfl hl.1 rfl (Nat.le_of_ble_eq_true rfl) d_Law_law_953 ⟨by rw [room_c]; omega, by rw [room_s]; omega⟩) hP hN hS hA rfl rfl rfl (fun H locs hP hS => ?_)
        refine lv_istore (lv' := [(5, .int v263), (0, .ref b), (1, .ref (a0 0)), (2, .ref (a13 0)), (3, .ref (a14 0)), (4, .int x4)]) hx hb d_Law_law_956 hl (by decide) rfl (fun ls hl => ?_)
        refine lv_aload_n hx hb d_Law_law_958 rfl (lv_at hl 3 rfl) ?_
        obtain ⟨v268, o_269, hG267, h⟩ := bind2_some h
        refine bw_call (Lc := [wMod ct a13 o13]) (Lc' := [wMod ct a13 o_269]) (L' := [wPF ct a0 (a1 0) (a4 0) (a6 0) (a7 0) (a8 0) v0 o_264, wReader ct a1 (a2 0) o1, wText ct a2 (a3 0) o2, wSteps ct a3 o3, wText ct a4 (a5 0) o4, wSteps ct a5 o5, wReckoner ct a6 o6, wCells ct a7 o7, wCells ct a8 o8, wCells ct a9 o9, wCells ct a10 o10, wCells ct a11 o_265, wCells ct a12 o12, wMod ct a13 o_269, wOut ct a14 o_266]) [13] (va_runV (As := []) (rest := []) ⟨hx, hb, hml, hown, hts⟩ (c_Mod_version l ct dC dI a13 _ o13 v268 o_269 hG267) (cwV 0 hts g_Law_124 rfl rfl rfl (by decide +kernel) ⟨Nat.le_of_ble_eq_true rfl, Nat.le_of_ble_eq_true rfl⟩) ⟨bw_blind nx_call, va_recv hK (hP 13 _ rfl) (ci := 6) (q0 := 0) rfl rfl, fun U hU hW => ⟨rfl, by rw [hU], by rw [hU]; exact hP.sub [13] rfl, va_K.moved hW.alike hK, (hN.sub [13] (by decide) rfl).weaken (fun _ _ => trivial), nx_warm hW hnx⟩⟩ rfl rfl hl.1 rfl (Nat.le_of_ble_eq_true rfl) d_Law_law_959 ⟨by rw [room_c]; omega, by rw [room_s]; omega⟩) hP hN hS hA rfl rfl rfl (fun H locs hP hS => ?_)
        refine lv_istore (lv' := [(6, .int v268), (5, .int v263), (0, .ref b), (1, .ref (a0 0)), (2, .ref (a13 0)), (3, .ref (a14 0)), (4, .int x4)]) hx hb d_Law_law_962 hl (by decide) rfl (fun ls hl => ?_)
        refine lv_aload_n hx hb d_Law_law_964 rfl (lv_at hl 4 rfl) ?_
        obtain ⟨v271, hG270, h⟩ := bind1_some h
        refine bw_callR (va_runV (As := []) (rest := []) ⟨hx, hb, hml, hown, hts⟩ (c_Mod_thrown l ct dC dI a13 _ o_269 v271 hG270) (cwV 0 hts g_Law_83 rfl rfl rfl (by decide +kernel) ⟨Nat.le_of_ble_eq_true rfl, Nat.le_of_ble_eq_true rfl⟩) ⟨bw_blind nx_call, va_recv hK (hP 13 _ rfl) (ci := 6) (q0 := 0) rfl rfl, fun U hU hW => ⟨rfl, by rw [hU], by rw [hU]; exact hP.sub [13] rfl, va_K.moved hW.alike hK, (hN.sub [13] (by decide) rfl).weaken (fun _ _ => trivial), nx_warm hW hnx⟩⟩ rfl rfl hl.1 rfl (Nat.le_of_ble_eq_true rfl) d_Law_law_965 ⟨by rw [room_c]; omega, by rw [room_s]; omega⟩) ?_
        refine lv_iload hx hb d_Law_law_968 (lv_at hl 1 rfl) ?_
        refine lv_icmp_eq (tgt := 975) hx hb d_Law_law_970 (by decide) (fun c272 => ?_) (fun c272 => ?_)
        · have h := ite_t c272 h
          refine lv_iload hx hb d_Law_law_975 (lv_at hl 1 rfl) ?_
          refine lv_if_ne (tgt := 992) hx hb d_Law_law_977 (by decide) (fun c273 => ?_) (fun c273 => ?_)
          · have h := ite_f c273 h
            refine lv_goto (tgt := 1128) hx hb d_Law_law_992 (by decide) ?_
            refine lv_iinc (v := (x4 + (6 : Int32))) (lv' := [(4, .int (x4 + (6 : Int32))), (6, .int v268), (5, .int v263), (0, .ref b), (1, .ref (a0 0)), (2, .ref (a13 0)), (3, .ref (a14 0))]) hx hb d_Law_law_1128 hl (k := 6) rfl rfl (by decide) rfl (fun ls hl => ?_)
            refine lv_goto (tgt := 23) hx hb d_Law_law_1131 (by decide) ?_
            refine W.widen (k := 200 + (it + 1)) (n := 40000 + 6 * (it + 1)) (by omega) (by omega) ?_
            exact hk23 a0 a1 a2 a3 a4 a5 a6 a7 a8 a9 a10 a11 a12 a13 a14 v0 (x4 + (6 : Int32)) o_264 o1 o2 o3 o4 o5 o6 o7 o8 o9 o10 o_265 o12 o_269 o_266 _ _ _ hN hver hP hS (lv_sub hl [3, 4, 5, 6, 0] rfl) h
          · have h := ite_t c273 h
            refine lv_aload_n hx hb d_Law_law_980 rfl (lv_at hl 5 rfl) ?_
            refine lv_iconst (v := 0) hx hb d_Law_law_981 (by decide) ?_
            obtain ⟨hi274, h⟩ := chk_some h
            refine va_lald (f := g64 o_266 0) hx hb hK (hP 14 _ rfl) 0 1 rfl rfl (inb_in hi274) d_Law_law_982 ?_
            refine lv_iload hx hb d_Law_law_983 (lv_at hl 0 rfl) ?_
            refine lv_i2l (v := (Int32.toInt64 v268)) hx hb d_Law_law_985 rfl ?_
            refine W.lcmp hx hb d_Law_law_986 ?_
            refine lv_if_eq (tgt := 992) hx hb d_Law_law_987 (by decide) (fun c275 => ?_) (fun c275 => ?_)
            · have h := ite_t c275 h
              refine lv_goto (tgt := 1128) hx hb d_Law_law_992 (by decide) ?_
              refine lv_iinc (v := (x4 + (6 : Int32))) (lv' := [(4, .int (x4 + (6 : Int32))), (6, .int v268), (5, .int v263), (0, .ref b), (1, .ref (a0 0)), (2, .ref (a13 0)), (3, .ref (a14 0))]) hx hb d_Law_law_1128 hl (k := 6) rfl rfl (by decide) rfl (fun ls hl => ?_)
              refine lv_goto (tgt := 23) hx hb d_Law_law_1131 (by decide) ?_
              refine W.widen (k := 200 + (it + 1)) (n := 40000 + 6 * (it + 1)) (by omega) (by omega) ?_
              exact hk23 a0 a1 a2 a3 a4 a5 a6 a7 a8 a9 a10 a11 a12 a13 a14 v0 (x4 + (6 : Int32)) o_264 o1 o2 o3 o4 o5 o6 o7 o8 o9 o10 o_265 o12 o_269 o_266 _ _ _ hN hver hP hS (lv_sub hl [3, 4, 5, 6, 0] rfl) h
            · have h := ite_f c275 h
              refine lv_iconst (v := 0) hx hb d_Law_law_990 (by decide) ?_
              cases h
        · have h := ite_f c272 h
          refine lv_iconst (v := 0) hx hb d_Law_law_973 (by decide) ?_
          cases h
      · have h := ite_f c261 h
        by_cases c276 : (g32 o0 8 0) = 3
        · have h := ite_t c276 h
          obtain ⟨v278, o_279, o_280, o_281, hG277, h⟩ := bind4_some h
          refine bw_call (Lc := [wPF ct a0 (a1 0) (a4 0) (a6 0) (a7 0) (a8 0) v0 o0, wCells ct a7 o7, wCells ct a12 o12, wOut ct a14 o14]) (Lc' := [wPF ct a0 (a1 0) (a4 0) (a6 0) (a7 0) (a8 0) v0 o_279, wCells ct a7 o7, wCells ct a12 o_280, wOut ct a14 o_281]) (L' := [wPF ct a0 (a1 0) (a4 0) (a6 0) (a7 0) (a8 0) v0 o_279, wReader ct a1 (a2 0) o1, wText ct a2 (a3 0) o2, wSteps ct a3 o3, wText ct a4 (a5 0) o4, wSteps ct a5 o5, wReckoner ct a6 o6, wCells ct a7 o7, wCells ct a8 o8, wCells ct a9 o9, wCells ct a10 o10, wCells ct a11 o11, wCells ct a12 o_280, wMod ct a13 o13, wOut ct a14 o_281]) [0, 7, 12, 14] (bt_runSW (n := 2) (As := [.ref (a0 0), .ref (a14 0)]) (rest := []) ⟨hx, hb, hml, hown, hts⟩ (c_Law_version l hl0 ct dC dI a0 a7 a12 a14 (a1 0) (a4 0) (a6 0) (a8 0) v0 _ o0 o7 o12 o14 v278 o_279 o_280 o_281 (fun _ => by rw [c276]; exact hver.2.2.2) hG277) (gd_any cd_Law_version) rfl rfl rfl (hts _ ini_Law) (hts _ ml_Law_122) (hts _ st_Law_version) (by decide +kernel) ⟨Nat.le_of_ble_eq_true rfl, Nat.le_of_ble_eq_true rfl⟩ ⟨bw_blind thh_call, fun U hU hW => ⟨rfl, by rw [hU], by rw [hU]; exact hP.sub [0, 7, 12, 14] rfl, va_K.moved hW.alike hK, (hN.sub [0, 7, 12, 14] (by decide) rfl).weaken (fun _ _ => trivial), ⟨nx_warm hW hnx, thy_x hthy hS hAs hW hU, exX.moved hW.alike hex9⟩⟩⟩ rfl rfl hl.1 rfl (Nat.le_of_ble_eq_true rfl) d_Law_law_953 ⟨by rw [room_c]; omega, by rw [room_s]; omega⟩) hP hN hS hA rfl rfl rfl (fun H locs hP hS => ?_)
          refine lv_istore (lv' := [(5, .int v278), (0, .ref b), (1, .ref (a0 0)), (2, .ref (a13 0)), (3, .ref (a14 0)), (4, .int x4)]) hx hb d_Law_law_956 hl (by decide) rfl (fun ls hl => ?_)
          refine lv_aload_n hx hb d_Law_law_958 rfl (lv_at hl 3 rfl) ?_
          obtain ⟨v283, o_284, hG282, h⟩ := bind2_some h
          refine bw_call (Lc := [wMod ct a13 o13]) (Lc' := [wMod ct a13 o_284]) (L' := [wPF ct a0 (a1 0) (a4 0) (a6 0) (a7 0) (a8 0) v0 o_279, wReader ct a1 (a2 0) o1, wText ct a2 (a3 0) o2, wSteps ct a3 o3, wText ct a4 (a5 0) o4, wSteps ct a5 o5, wReckoner ct a6 o6, wCells ct a7 o7, wCells ct a8 o8, wCells ct a9 o9, wCells ct a10 o10, wCells ct a11 o11, wCells ct a12 o_280, wMod ct a13 o_284, wOut ct a14 o_281]) [13] (va_runV (As := []) (rest := []) ⟨hx, hb, hml, hown, hts⟩ (c_Mod_version l ct dC dI a13 _ o13 v283 o_284 hG282) (cwV 0 hts g_Law_124 rfl rfl rfl (by decide +kernel) ⟨Nat.le_of_ble_eq_true rfl, Nat.le_of_ble_eq_true rfl⟩) ⟨bw_blind nx_call, va_recv hK (hP 13 _ rfl) (ci := 6) (q0 := 0) rfl rfl, fun U hU hW => ⟨rfl, by rw [hU], by rw [hU]; exact hP.sub [13] rfl, va_K.moved hW.alike hK, (hN.sub [13] (by decide) rfl).weaken (fun _ _ => trivial), nx_warm hW hnx⟩⟩ rfl rfl hl.1 rfl (Nat.le_of_ble_eq_true rfl) d_Law_law_959 ⟨by rw [room_c]; omega, by rw [room_s]; omega⟩) hP hN hS hA rfl rfl rfl (fun H locs hP hS => ?_)
          refine lv_istore (lv' := [(6, .int v283), (5, .int v278), (0, .ref b), (1, .ref (a0 0)), (2, .ref (a13 0)), (3, .ref (a14 0)), (4, .int x4)]) hx hb d_Law_law_962 hl (by decide) rfl (fun ls hl => ?_)
          refine lv_aload_n hx hb d_Law_law_964 rfl (lv_at hl 4 rfl) ?_
          obtain ⟨v286, hG285, h⟩ := bind1_some h
          refine bw_callR (va_runV (As := []) (rest := []) ⟨hx, hb, hml, hown, hts⟩ (c_Mod_thrown l ct dC dI a13 _ o_284 v286 hG285) (cwV 0 hts g_Law_83 rfl rfl rfl (by decide +kernel) ⟨Nat.le_of_ble_eq_true rfl, Nat.le_of_ble_eq_true rfl⟩) ⟨bw_blind nx_call, va_recv hK (hP 13 _ rfl) (ci := 6) (q0 := 0) rfl rfl, fun U hU hW => ⟨rfl, by rw [hU], by rw [hU]; exact hP.sub [13] rfl, va_K.moved hW.alike hK, (hN.sub [13] (by decide) rfl).weaken (fun _ _ => trivial), nx_warm hW hnx⟩⟩ rfl rfl hl.1 rfl (Nat.le_of_ble_eq_true rfl) d_Law_law_965 ⟨by rw [room_c]; omega, by rw [room_s]; omega⟩) ?_
          refine lv_iload hx hb d_Law_law_968 (lv_at hl 1 rfl) ?_
          refine lv_icmp_eq (tgt := 975) hx hb d_Law_law_970 (by decide) (fun c287 => ?_) (fun c287 => ?_)
          · have h := ite_t c287 h
            refine lv_iload hx hb d_Law_law_975 (lv_at hl 1 rfl) ?_
            refine lv_if_ne (tgt := 992) hx hb d_Law_law_977 (by decide) (fun c288 => ?_) (fun c288 => ?_)
            · have h := ite_f c288 h
              refine lv_goto (tgt := 1128) hx hb d_Law_law_992 (by decide) ?_
              refine lv_iinc (v := (x4 + (6 : Int32))) (lv' := [(4, .int (x4 + (6 : Int32))), (6, .int v283), (5, .int v278), (0, .ref b), (1, .ref (a0 0)), (2, .ref (a13 0)), (3, .ref (a14 0))]) hx hb d_Law_law_1128 hl (k := 6) rfl rfl (by decide) rfl (fun ls hl => ?_)
              refine lv_goto (tgt := 23) hx hb d_Law_law_1131 (by decide) ?_
              refine W.widen (k := 200 + (it + 1)) (n := 40000 + 6 * (it + 1)) (by omega) (by omega) ?_
              exact hk23 a0 a1 a2 a3 a4 a5 a6 a7 a8 a9 a10 a11 a12 a13 a14 v0 (x4 + (6 : Int32)) o_279 o1 o2 o3 o4 o5 o6 o7 o8 o9 o10 o11 o_280 o_284 o_281 _ _ _ hN hver hP hS (lv_sub hl [3, 4, 5, 6, 0] rfl) h
            · have h := ite_t c288 h
              refine lv_aload_n hx hb d_Law_law_980 rfl (lv_at hl 5 rfl) ?_
              refine lv_iconst (v := 0) hx hb d_Law_law_981 (by decide) ?_
              obtain ⟨hi289, h⟩ := chk_some h
              refine va_lald (f := g64 o_281 0) hx hb hK (hP 14 _ rfl) 0 1 rfl rfl (inb_in hi289) d_Law_law_982 ?_
              refine lv_iload hx hb d_Law_law_983 (lv_at hl 0 rfl) ?_
              refine lv_i2l (v := (Int32.toInt64 v283)) hx hb d_Law_law_985 rfl ?_
              refine W.lcmp hx hb d_Law_law_986 ?_
              refine lv_if_eq (tgt := 992) hx hb d_Law_law_987 (by decide) (fun c290 => ?_) (fun c290 => ?_)
              · have h := ite_t c290 h
                refine lv_goto (tgt := 1128) hx hb d_Law_law_992 (by decide) ?_
                refine lv_iinc (v := (x4 + (6 : Int32))) (lv' := [(4, .int (x4 + (6 : Int32))), (6, .int v283), (5, .int v278), (0, .ref b), (1, .ref (a0 0)), (2, .ref (a13 0)), (3, .ref (a14 0))]) hx hb d_Law_law_1128 hl (k := 6) rfl rfl (by decide) rfl (fun ls hl => ?_)
                refine lv_goto (tgt := 23) hx hb d_Law_law_1131 (by decide) ?_
                refine W.widen (k := 200 + (it + 1)) (n := 40000 + 6 * (it + 1)) (by omega) (by omega) ?_
                exact hk23 a0 a1 a2 a3 a4 a5 a6 a7 a8 a9 a10 a11 a12 a13 a14 v0 (x4 + (6 : Int32)) o_279 o1 o2 o3 o4 o5 o6 o7 o8 o9 o10 o11 o_280 o_284 o_281 _ _ _ hN hver hP hS (lv_sub hl [3, 4, 5, 6, 0] rfl) h
              · have h := ite_f c290 h
                refine lv_iconst (v := 0) hx hb d_Law_law_990 (by decide) ?_
                cases h
          · have h := ite_f c287 h
            refine lv_iconst (v := 0) hx hb d_Law_law_973 (by decide) ?_
            cases h
        · have h := ite_f c276 h
          obtain ⟨v293, o_294, o_295, o_296, hG292, h⟩ := bind4_some h
          refine bw_call (Lc := [wPF ct a0 (a1 0) (a4 0) (a6 0) (a7 0) (a8 0) v0 o0, wCells ct a7 o7, wCells ct a9 o9, wOut ct a14 o14]) (Lc' := [wPF ct a0 (a1 0) (a4 0) (a6 0) (a7 0) (a8 0) v0 o_294, wCells ct a7 o7, wCells ct a9 o_295, wOut ct a14 o_296]) (L' := [wPF ct a0 (a1 0) (a4 0) (a6 0) (a7 0) (a8 0) v0 o_294, wReader ct a1 (a2 0) o1, wText ct a2 (a3 0) o2, wSteps ct a3 o3, wText ct a4 (a5 0) o4, wSteps ct a5 o5, wReckoner ct a6 o6, wCells ct a7 o7, wCells ct a8 o8, wCells ct a9 o_295, wCells ct a10 o10, wCells ct a11 o11, wCells ct a12 o12, wMod ct a13 o13, wOut ct a14 o_296]) [0, 7, 9, 14] (bt_runSW (n := 2) (As := [.ref (a0 0), .ref (a14 0)]) (rest := []) ⟨hx, hb, hml, hown, hts⟩ (c_Law_version l hl0 ct dC dI a0 a7 a9 a14 (a1 0) (a4 0) (a6 0) (a8 0) v0 _ o0 o7 o9 o14 v293 o_294 o_295 o_296 (fun z9 => ((inb4 z9).elim c231 fun z9 => z9.elim c246 fun z9 => z9.elim c261 c276).elim) hG292) (gd_any cd_Law_version) rfl rfl rfl (hts _ ini_Law) (hts _ ml_Law_122) (hts _ st_Law_version) (by decide +kernel) ⟨Nat.le_of_ble_eq_true rfl, Nat.le_of_ble_eq_true rfl⟩ ⟨bw_blind thh_call, fun U hU hW => ⟨rfl, by rw [hU], by rw [hU]; exact hP.sub [0, 7, 9, 14] rfl, va_K.moved hW.alike hK, (hN.sub [0, 7, 9, 14] (by decide) rfl).weaken (fun _ _ => trivial), ⟨nx_warm hW hnx, thy_x hthy hS hAs hW hU, exX.moved hW.alike hex9⟩⟩⟩ rfl rfl hl.1 rfl (Nat.le_of_ble_eq_true rfl) d_Law_law_953 ⟨by rw [room_c]; omega, by rw [room_s]; omega⟩) hP hN hS hA rfl rfl rfl (fun H locs hP hS => ?_)
          refine lv_istore (lv' := [(5, .int v293), (0, .ref b), (1, .ref (a0 0)), (2, .ref (a13 0)), (3, .ref (a14 0)), (4, .int x4)]) hx hb d_Law_law_956 hl (by decide) rfl (fun ls hl => ?_)
          refine lv_aload_n hx hb d_Law_law_958 rfl (lv_at hl 3 rfl) ?_
          obtain ⟨v298, o_299, hG297, h⟩ := bind2_some h
          refine bw_call (Lc := [wMod ct a13 o13]) (Lc' := [wMod ct a13 o_299]) (L' := [wPF ct a0 (a1 0) (a4 0) (a6 0) (a7 0) (a8 0) v0 o_294, wReader ct a1 (a2 0) o1, wText ct a2 (a3 0) o2, wSteps ct a3 o3, wText ct a4 (a5 0) o4, wSteps ct a5 o5, wReckoner ct a6 o6, wCells ct a7 o7, wCells ct a8 o8, wCells ct a9 o_295, wCells ct a10 o10, wCells ct a11 o11, wCells ct a12 o12, wMod ct a13 o_299, wOut ct a14 o_296]) [13] (va_runV (As := []) (rest := []) ⟨hx, hb, hml, hown, hts⟩ (c_Mod_version l ct dC dI a13 _ o13 v298 o_299 hG297) (cwV 0 hts g_Law_124 rfl rfl rfl (by decide +kernel) ⟨Nat.le_of_ble_eq_true rfl, Nat.le_of_ble_eq_true rfl⟩) ⟨bw_blind nx_call, va_recv hK (hP 13 _ rfl) (ci := 6) (q0 := 0) rfl rfl, fun U hU hW => ⟨rfl, by rw [hU], by rw [hU]; exact hP.sub [13] rfl, va_K.moved hW.alike hK, (hN.sub [13] (by decide) rfl).weaken (fun _ _ => trivial), nx_warm hW hnx⟩⟩ rfl rfl hl.1 rfl (Nat.le_of_ble_eq_true rfl) d_Law_law_959 ⟨by rw [room_c]; omega, by rw [room_s]; omega⟩) hP hN hS hA rfl rfl rfl (fun H locs hP hS => ?_)
          refine lv_istore (lv' := [(6, .int v298), (5, .int v293), (0, .ref b), (1, .ref (a0 0)), (2, .ref (a13 0)), (3, .ref (a14 0)), (4, .int x4)]) hx hb d_Law_law_962 hl (by decide) rfl (fun ls hl => ?_)
          refine lv_aload_n hx hb d_Law_law_964 rfl (lv_at hl 4 rfl) ?_
          obtain ⟨v301, hG300, h⟩ := bind1_some h
          refine bw_callR (va_runV (As := []) (rest := []) ⟨hx, hb, hml, hown, hts⟩ (c_Mod_thrown l ct dC dI a13 _ o_299 v301 hG300) (cwV 0 hts g_Law_83 rfl rfl rfl (by decide +kernel) ⟨Nat.le_of_ble_eq_true rfl, Nat.le_of_ble_eq_true rfl⟩) ⟨bw_blind nx_call, va_recv hK (hP 13 _ rfl) (ci := 6) (q0 := 0) rfl rfl, fun U hU hW => ⟨rfl, by rw [hU], by rw [hU]; exact hP.sub [13] rfl, va_K.moved hW.alike hK, (hN.sub [13] (by decide) rfl).weaken (fun _ _ => trivial), nx_warm hW hnx⟩⟩ rfl rfl hl.1 rfl (Nat.le_of_ble_eq_true rfl) d_Law_law_965 ⟨by rw [room_c]; omega, by rw [room_s]; omega⟩) ?_
          refine lv_iload hx hb d_Law_law_968 (lv_at hl 1 rfl) ?_
          refine lv_icmp_eq (tgt := 975) hx hb d_Law_law_970 (by decide) (fun c302 => ?_) (fun c302 => ?_)
          · have h := ite_t c302 h
            refine lv_iload hx hb d_Law_law_975 (lv_at hl 1 rfl) ?_
            refine lv_if_ne (tgt := 992) hx hb d_Law_law_977 (by decide) (fun c303 => ?_) (fun c303 => ?_)
            · have h := ite_f c303 h
              refine lv_goto (tgt := 1128) hx hb d_Law_law_992 (by decide) ?_
              refine lv_iinc (v := (x4 + (6 : Int32))) (lv' := [(4, .int (x4 + (6 : Int32))), (6, .int v298), (5, .int v293), (0, .ref b), (1, .ref (a0 0)), (2, .ref (a13 0)), (3, .ref (a14 0))]) hx hb d_Law_law_1128 hl (k := 6) rfl rfl (by decide) rfl (fun ls hl => ?_)
              refine lv_goto (tgt := 23) hx hb d_Law_law_1131 (by decide) ?_
              refine W.widen (k := 200 + (it + 1)) (n := 40000 + 6 * (it + 1)) (by omega) (by omega) ?_
              exact hk23 a0 a1 a2 a3 a4 a5 a6 a7 a8 a9 a10 a11 a12 a13 a14 v0 (x4 + (6 : Int32)) o_294 o1 o2 o3 o4 o5 o6 o7 o8 o_295 o10 o11 o12 o_299 o_296 _ _ _ hN hver hP hS (lv_sub hl [3, 4, 5, 6, 0] rfl) h
            · have h := ite_t c303 h
              refine lv_aload_n hx hb d_Law_law_980 rfl (lv_at hl 5 rfl) ?_
              refine lv_iconst (v := 0) hx hb d_Law_law_981 (by decide) ?_
              obtain ⟨hi304, h⟩ := chk_some h
              refine va_lald (f := g64 o_296 0) hx hb hK (hP 14 _ rfl) 0 1 rfl rfl (inb_in hi304) d_Law_law_982 ?_
              refine lv_iload hx hb d_Law_law_983 (lv_at hl 0 rfl) ?_
              refine lv_i2l (v := (Int32.toInt64 v298)) hx hb d_Law_law_985 rfl ?_
              refine W.lcmp hx hb d_Law_law_986 ?_
              refine lv_if_eq (tgt := 992) hx hb d_Law_law_987 (by decide) (fun c305 => ?_) (fun c305 => ?_)
              · have h := ite_t c305 h
                refine lv_goto (tgt := 1128) hx hb d_Law_law_992 (by decide) ?_
                refine lv_iinc (v := (x4 + (6 : Int32))) (lv' := [(4, .int (x4 + (6 : Int32))), (6, .int v298), (5, .int v293), (0, .ref b), (1, .ref (a0 0)), (2, .ref (a13 0)), (3, .ref (a14 0))]) hx hb d_Law_law_1128 hl (k := 6) rfl rfl (by decide) rfl (fun ls hl => ?_)
                refine lv_goto (tgt := 23) hx hb d_Law_law_1131 (by decide) ?_
                refine W.widen (k := 200 + (it + 1)) (n := 40000 + 6 * (it + 1)) (by omega) (by omega) ?_
                exact hk23 a0 a1 a2 a3 a4 a5 a6 a7 a8 a9 a10 a11 a12 a13 a14 v0 (x4 + (6 : Int32)) o_294 o1 o2 o3 o4 o5 o6 o7 o8 o_295 o10 o11 o12 o_299 o_296 _ _ _ hN hver hP hS (lv_sub hl [3, 4, 5, 6, 0] rfl) h
              · have h := ite_f c305 h
                refine lv_iconst (v := 0) hx hb d_Law_law_990 (by decide) ?_
                cases h
          · have h := ite_f c302 h
            refine lv_iconst (v := 0) hx hb d_Law_law_973 (by decide) ?_
            cases h
