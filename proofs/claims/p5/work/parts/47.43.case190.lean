/-! THE LAW: case at 190 -/
def F_Law_law_190 (L : Nat) (xs : Nat → Int32) (k23 : Int32 → Ob → Ob → Ob → Ob → Ob → Ob → Ob → Ob → Ob → Ob → Ob → Ob → Ob → Ob → Ob → Option Unit) (x4 : Int32) (o0 o1 o2 o3 o4 o5 o6 o7 o8 o9 o10 o11 o12 o13 o14 : Ob) : Option Unit :=
  chk (inb (x4 + (1 : Int32)) L) (chk (inb (x4 + (2 : Int32)) L) (chk (inb (x4 + (3 : Int32)) L) (chk (inb (x4 + (4 : Int32)) L) (chk (inb (x4 + (5 : Int32)) L) (bind5 (F_Law_set (xs (Int32.toNatClampNeg (x4 + (1 : Int32)))) ((lshl (Int32.toInt64 (xs (Int32.toNatClampNeg (x4 + (2 : Int32))))) (32 : Int32)) ||| ((Int32.toInt64 (xs (Int32.toNatClampNeg (x4 + (3 : Int32))))) &&& (4294967295 : Int64))) ((lshl (Int32.toInt64 (xs (Int32.toNatClampNeg (x4 + (4 : Int32))))) (32 : Int32)) ||| ((Int32.toInt64 (xs (Int32.toNatClampNeg (x4 + (5 : Int32))))) &&& (4294967295 : Int64))) o0 o7 o6 o4 o5 o14) (fun v55 o_56 o_57 o_58 o_59 => bind2 (F_Mod_set (xs (Int32.toNatClampNeg (x4 + (1 : Int32)))) ((lshl (Int32.toInt64 (xs (Int32.toNatClampNeg (x4 + (2 : Int32))))) (32 : Int32)) ||| ((Int32.toInt64 (xs (Int32.toNatClampNeg (x4 + (3 : Int32))))) &&& (4294967295 : Int64))) ((lshl (Int32.toInt64 (xs (Int32.toNatClampNeg (x4 + (4 : Int32))))) (32 : Int32)) ||| ((Int32.toInt64 (xs (Int32.toNatClampNeg (x4 + (5 : Int32))))) &&& (4294967295 : Int64))) o13) (fun v66 o_67 => bind1 (F_Mod_thrown o_67) (fun v69 => if v69 = v55 then (if v55 = 0 then (chk (inb (0 : Int32) 1) (if (b2i v66) = 0 then (if (lg_cmp (g64 o_59 0 (Int32.toNatClampNeg (0 : Int32))) (0 : Int64)) = 0 then (k23 (x4 + (6 : Int32)) o_56 o1 o2 o3 o4 o5 o_58 o_57 o8 o9 o10 o11 o12 o_67 o_59) else (none)) else (if (lg_cmp (g64 o_59 0 (Int32.toNatClampNeg (0 : Int32))) (1 : Int64)) = 0 then (k23 (x4 + (6 : Int32)) o_56 o1 o2 o3 o4 o5 o_58 o_57 o8 o9 o10 o11 o12 o_67 o_59) else (none)))) else (k23 (x4 + (6 : Int32)) o_56 o1 o2 o3 o4 o5 o_58 o_57 o8 o9 o10 o11 o12 o_67 o_59)) else (none)))))))))
set_option maxHeartbeats 8000000 in
set_option maxRecDepth 100000 in
theorem k_Law_law_190 {p : Program} {l : Launch} {e : Env} {s : State} {m : MethodId} {below : List Frame} {meth : Method} {c : Code} {b L : Nat} {xs : Nat → Int32} {A : Nat → Prop} {ct dC : Nat → ClassId} {dI : Nat → Nat → Nat} (C0 : lcx p s m meth c b L xs A ct dC dI) (hl0 : l.stackTraces = false) {it : Nat} (hit : it + 1 ≤ 600) {k23 : Int32 → Ob → Ob → Ob → Ob → Ob → Ob → Ob → Ob → Ob → Ob → Ob → Ob → Ob → Ob → Ob → Option Unit} (hk23 : ∀ (a0 a1 a2 a3 a4 a5 a6 a7 a8 a9 a10 a11 a12 a13 a14 : Nat → Nat) (v0 : Nat → Nat) (x4 : Int32) (o0 o1 o2 o3 o4 o5 o6 o7 o8 o9 o10 o11 o12 o13 o14 : Ob) (H : Heap) (locs : List Loc) (ls : Array Slot), bw_N A [adPF a0, adReader a1, adText a2, adSteps a3, adText a4, adSteps a5, adReckoner a6, adCells a7, adCells a8, adCells a9, adCells a10, adCells a11, adCells a12, adMod a13, adOut a14] → (v0 0 = a9 0 ∧ v0 1 = a10 0 ∧ v0 2 = a11 0 ∧ v0 3 = a12 0) → bw_P (dC, dI) vwCl [wPF ct a0 (a1 0) (a4 0) (a6 0) (a7 0) (a8 0) v0 o0, wReader ct a1 (a2 0) o1, wText ct a2 (a3 0) o2, wSteps ct a3 o3, wText ct a4 (a5 0) o4, wSteps ct a5 o5, wReckoner ct a6 o6, wCells ct a7 o7, wCells ct a8 o8, wCells ct a9 o9, wCells ct a10 o10, wCells ct a11 o11, wCells ct a12 o12, wMod ct a13 o13, wOut ct a14 o14] H → va_S A s.heap H locs → lv_has ls 8 [(0, .ref b), (1, .ref (a0 0)), (2, .ref (a13 0)), (3, .ref (a14 0)), (4, .int x4)] → k23 x4 o0 o1 o2 o3 o4 o5 o6 o7 o8 o9 o10 o11 o12 o13 o14 = some () → W p l e room_1 s m #[Value.ref b] below meth c H locs (200 + (it + 1)) (40000 + 6 * (it + 1)) (lw_Z below #[Value.ref b] s) (F0 m 23 ls [])) : ∀ (a0 a1 a2 a3 a4 a5 a6 a7 a8 a9 a10 a11 a12 a13 a14 : Nat → Nat) (v0 : Nat → Nat) (x4 : Int32) (o0 o1 o2 o3 o4 o5 o6 o7 o8 o9 o10 o11 o12 o13 o14 : Ob) (H : Heap) (locs : List Loc) (ls : Array Slot), bw_N A [adPF a0, adReader a1, adText a2, adSteps a3, adText a4, adSteps a5, adReckoner a6, adCells a7, adCells a8, adCells a9, adCells a10, adCells a11, adCells a12, adMod a13, adOut a14] → (v0 0 = a9 0 ∧ v0 1 = a10 0 ∧ v0 2 = a11 0 ∧ v0 3 = a12 0) → bw_P (dC, dI) vwCl [wPF ct a0 (a1 0) (a4 0) (a6 0) (a7 0) (a8 0) v0 o0, wReader ct a1 (a2 0) o1, wText ct a2 (a3 0) o2, wSteps ct a3 o3, wText ct a4 (a5 0) o4, wSteps ct a5 o5, wReckoner ct a6 o6, wCells ct a7 o7, wCells ct a8 o8, wCells ct a9 o9, wCells ct a10 o10, wCells ct a11 o11, wCells ct a12 o12, wMod ct a13 o13, wOut ct a14 o14] H → va_S A s.heap H locs → lv_has ls 8 [(0, .ref b), (1, .ref (a0 0)), (2, .ref (a13 0)), (3, .ref (a14 0)), (4, .int x4)] → F_Law_law_190 L xs k23 x4 o0 o1 o2 o3 o4 o5 o6 o7 o8 o9 o10 o11 o12 o13 o14 = some () → W p l e room_1 s m #[Value.ref b] below meth c H locs (200 + it) (40000 + 6 * it) (lw_Z below #[Value.ref b] s) (F0 m 190 ls []) := by
  obtain ⟨hx, hb, hr, hml, hown, hlocks, hts, hK, hA, hAs, hX, hbl, hnx, hthy, hex9, hsx⟩ := id C0
  have hbA : ¬ A b := fun z => absurd (hAs b z) (Nat.not_le.mpr hbl)
  intro a0 a1 a2 a3 a4 a5 a6 a7 a8 a9 a10 a11 a12 a13 a14 v0 x4 o0 o1 o2 o3 o4 o5 o6 o7 o8 o9 o10 o11 o12 o13 o14 H locs ls hN hver hP hS hl h
  rw [F_Law_law_190] at h
  refine lv_aload_n hx hb d_Law_law_190 rfl (lv_at hl 1 rfl) ?_
  refine lv_aload_n hx hb d_Law_law_191 rfl (lv_at hl 0 rfl) ?_
  refine lv_iload hx hb d_Law_law_192 (lv_at hl 4 rfl) ?_
  refine lv_iconst (v := 1) hx hb d_Law_law_194 (by decide) ?_
  refine lv_iadd hx hb d_Law_law_195 ?_
  obtain ⟨hi49, h⟩ := chk_some h
  refine va_sld hx hb hX hbl hbA hS (inb_in hi49) d_Law_law_196 ?_
  refine lv_aload_n hx hb d_Law_law_197 rfl (lv_at hl 0 rfl) ?_
  refine lv_iload hx hb d_Law_law_198 (lv_at hl 4 rfl) ?_
  refine lv_iconst (v := 2) hx hb d_Law_law_200 (by decide) ?_
  refine lv_iadd hx hb d_Law_law_201 ?_
  obtain ⟨hi50, h⟩ := chk_some h
  refine va_sld hx hb hX hbl hbA hS (inb_in hi50) d_Law_law_202 ?_
  refine lv_i2l (v := (Int32.toInt64 (xs (Int32.toNatClampNeg (x4 + (2 : Int32)))))) hx hb d_Law_law_203 rfl ?_
  refine lv_bipush (v := 32) hx hb d_Law_law_204 (by decide) ?_
  refine lv_lshl (v := (lshl (Int32.toInt64 (xs (Int32.toNatClampNeg (x4 + (2 : Int32))))) (32 : Int32))) hx hb d_Law_law_206 rfl ?_
  refine lv_aload_n hx hb d_Law_law_207 rfl (lv_at hl 0 rfl) ?_
  refine lv_iload hx hb d_Law_law_208 (lv_at hl 4 rfl) ?_
  refine lv_iconst (v := 3) hx hb d_Law_law_210 (by decide) ?_
  refine lv_iadd hx hb d_Law_law_211 ?_
  obtain ⟨hi51, h⟩ := chk_some h
  refine va_sld hx hb hX hbl hbA hS (inb_in hi51) d_Law_law_212 ?_
  refine lv_i2l (v := (Int32.toInt64 (xs (Int32.toNatClampNeg (x4 + (3 : Int32)))))) hx hb d_Law_law_213 rfl ?_
  refine lv_ldc2 (v := 4294967295) hx hb hown (hts _ cn_Law_83) d_Law_law_214 ?_
  refine lv_land hx hb d_Law_law_217 ?_
  refine lv_lor hx hb d_Law_law_218 ?_
  refine lv_aload_n hx hb d_Law_law_219 rfl (lv_at hl 0 rfl) ?_
  refine lv_iload hx hb d_Law_law_220 (lv_at hl 4 rfl) ?_
  refine lv_iconst (v := 4) hx hb d_Law_law_222 (by decide) ?_
  refine lv_iadd hx hb d_Law_law_223 ?_
  obtain ⟨hi52, h⟩ := chk_some h
  refine va_sld hx hb hX hbl hbA hS (inb_in hi52) d_Law_law_224 ?_
  refine lv_i2l (v := (Int32.toInt64 (xs (Int32.toNatClampNeg (x4 + (4 : Int32)))))) hx hb d_Law_law_225 rfl ?_
  refine lv_bipush (v := 32) hx hb d_Law_law_226 (by decide) ?_
  refine lv_lshl (v := (lshl (Int32.toInt64 (xs (Int32.toNatClampNeg (x4 + (4 : Int32))))) (32 : Int32))) hx hb d_Law_law_228 rfl ?_
  refine lv_aload_n hx hb d_Law_law_229 rfl (lv_at hl 0 rfl) ?_
  refine lv_iload hx hb d_Law_law_230 (lv_at hl 4 rfl) ?_
  refine lv_iconst (v := 5) hx hb d_Law_law_232 (by decide) ?_
  refine lv_iadd hx hb d_Law_law_233 ?_
  obtain ⟨hi53, h⟩ := chk_some h
  refine va_sld hx hb hX hbl hbA hS (inb_in hi53) d_Law_law_234 ?_
  refine lv_i2l (v := (Int32.toInt64 (xs (Int32.toNatClampNeg (x4 + (5 : Int32)))))) hx hb d_Law_law_235 rfl ?_
  refine lv_ldc2 (v := 4294967295) hx hb hown (hts _ cn_Law_83) d_Law_law_236 ?_
  refine lv_land hx hb d_Law_law_239 ?_
  refine lv_lor hx hb d_Law_law_240 ?_
  refine lv_aload_n hx hb d_Law_law_241 rfl (lv_at hl 3 rfl) ?_
  obtain ⟨v55, o_56, o_57, o_58, o_59, hG54, h⟩ := bind5_some h
  refine bw_call (Lc := [wPF ct a0 (a1 0) (a4 0) (a6 0) (a7 0) (a8 0) v0 o0, wCells ct a7 o7, wReckoner ct a6 o6, wText ct a4 (a5 0) o4, wSteps ct a5 o5, wOut ct a14 o14]) (Lc' := [wPF ct a0 (a1 0) (a4 0) (a6 0) (a7 0) (a8 0) v0 o_56, wCells ct a7 o_57, wReckoner ct a6 o_58, wText ct a4 (a5 0) o4, wSteps ct a5 o5, wOut ct a14 o_59]) (L' := [wPF ct a0 (a1 0) (a4 0) (a6 0) (a7 0) (a8 0) v0 o_56, wReader ct a1 (a2 0) o1, wText ct a2 (a3 0) o2, wSteps ct a3 o3, wText ct a4 (a5 0) o4, wSteps ct a5 o5, wReckoner ct a6 o_58, wCells ct a7 o_57, wCells ct a8 o8, wCells ct a9 o9, wCells ct a10 o10, wCells ct a11 o11, wCells ct a12 o12, wMod ct a13 o13, wOut ct a14 o_59]) [0, 7, 6, 4, 5, 14] (bt_runSW (n := 5) (As := [.ref (a0 0), .int (xs (Int32.toNatClampNeg (x4 + (1 : Int32)))), .long ((lshl (Int32.toInt64 (xs (Int32.toNatClampNeg (x4 + (2 : Int32))))) (32 : Int32)) ||| ((Int32.toInt64 (xs (Int32.toNatClampNeg (x4 + (3 : Int32))))) &&& (4294967295 : Int64))), .long ((lshl (Int32.toInt64 (xs (Int32.toNatClampNeg (x4 + (4 : Int32))))) (32 : Int32)) ||| ((Int32.toInt64 (xs (Int32.toNatClampNeg (x4 + (5 : Int32))))) &&& (4294967295 : Int64))), .ref (a14 0)]) (rest := []) ⟨hx, hb, hml, hown, hts⟩ (c_Law_set l hl0 ct dC dI a0 a7 a6 a4 a5 a14 (a1 0) (a8 0) v0 _ (xs (Int32.toNatClampNeg (x4 + (1 : Int32)))) ((lshl (Int32.toInt64 (xs (Int32.toNatClampNeg (x4 + (2 : Int32))))) (32 : Int32)) ||| ((Int32.toInt64 (xs (Int32.toNatClampNeg (x4 + (3 : Int32))))) &&& (4294967295 : Int64))) ((lshl (Int32.toInt64 (xs (Int32.toNatClampNeg (x4 + (4 : Int32))))) (32 : Int32)) ||| ((Int32.toInt64 (xs (Int32.toNatClampNeg (x4 + (5 : Int32))))) &&& (4294967295 : Int64))) o0 o7 o6 o4 o5 o14 v55 o_56 o_57 o_58 o_59 hG54) (gd_any cd_Law_set) rfl rfl rfl (hts _ ini_Law) (hts _ ml_Law_85) (hts _ st_Law_set) (by decide +kernel) ⟨Nat.le_of_ble_eq_true rfl, Nat.le_of_ble_eq_true rfl⟩ ⟨bw_blind thh_call, fun U hU hW => ⟨rfl, by rw [hU], by rw [hU]; exact hP.sub [0, 7, 6, 4, 5, 14] rfl, va_K.moved hW.alike hK, (hN.sub [0, 7, 6, 4, 5, 14] (by decide) rfl).weaken (fun _ _ => trivial), ⟨nx_warm hW hnx, thy_x hthy hS hAs hW hU, exX.moved hW.alike hex9⟩⟩⟩ rfl rfl hl.1 rfl (Nat.le_of_ble_eq_true rfl) d_Law_law_242 ⟨by rw [room_c]; omega, by rw [room_s]; omega⟩) hP hN hS hA rfl rfl rfl (fun H locs hP hS => ?_)
  refine lv_istore (lv' := [(5, .int v55), (0, .ref b), (1, .ref (a0 0)), (2, .ref (a13 0)), (3, .ref (a14 0)), (4, .int x4)]) hx hb d_Law_law_245 hl (by decide) rfl (fun ls hl => ?_)
  refine lv_aload_n hx hb d_Law_law_247 rfl (lv_at hl 3 rfl) ?_
  refine lv_aload_n hx hb d_Law_law_248 rfl (lv_at hl 1 rfl) ?_
  refine lv_iload hx hb d_Law_law_249 (lv_at hl 5 rfl) ?_
  refine lv_iconst (v := 1) hx hb d_Law_law_251 (by decide) ?_
  refine lv_iadd hx hb d_Law_law_252 ?_
  refine va_sld hx hb hX hbl hbA hS (inb_in hi49) d_Law_law_253 ?_
  refine lv_aload_n hx hb d_Law_law_254 rfl (lv_at hl 1 rfl) ?_
  refine lv_iload hx hb d_Law_law_255 (lv_at hl 5 rfl) ?_
  refine lv_iconst (v := 2) hx hb d_Law_law_257 (by decide) ?_
  refine lv_iadd hx hb d_Law_law_258 ?_
  refine va_sld hx hb hX hbl hbA hS (inb_in hi50) d_Law_law_259 ?_
  refine lv_i2l (v := (Int32.toInt64 (xs (Int32.toNatClampNeg (x4 + (2 : Int32)))))) hx hb d_Law_law_260 rfl ?_
  refine lv_bipush (v := 32) hx hb d_Law_law_261 (by decide) ?_
  refine lv_lshl (v := (lshl (Int32.toInt64 (xs (Int32.toNatClampNeg (x4 + (2 : Int32))))) (32 : Int32))) hx hb d_Law_law_263 rfl ?_
  refine lv_aload_n hx hb d_Law_law_264 rfl (lv_at hl 1 rfl) ?_
  refine lv_iload hx hb d_Law_law_265 (lv_at hl 5 rfl) ?_
  refine lv_iconst (v := 3) hx hb d_Law_law_267 (by decide) ?_
  refine lv_iadd hx hb d_Law_law_268 ?_
  refine va_sld hx hb hX hbl hbA hS (inb_in hi51) d_Law_law_269 ?_
  refine lv_i2l (v := (Int32.toInt64 (xs (Int32.toNatClampNeg (x4 + (3 : Int32)))))) hx hb d_Law_law_270 rfl ?_
  refine lv_ldc2 (v := 4294967295) hx hb hown (hts _ cn_Law_83) d_Law_law_271 ?_
  refine lv_land hx hb d_Law_law_274 ?_
  refine lv_lor hx hb d_Law_law_275 ?_
  refine lv_aload_n hx hb d_Law_law_276 rfl (lv_at hl 1 rfl) ?_
  refine lv_iload hx hb d_Law_law_277 (lv_at hl 5 rfl) ?_
  refine lv_iconst (v := 4) hx hb d_Law_law_279 (by decide) ?_
  refine lv_iadd hx hb d_Law_law_280 ?_
  refine va_sld hx hb hX hbl hbA hS (inb_in hi52) d_Law_law_281 ?_
  refine lv_i2l (v := (Int32.toInt64 (xs (Int32.toNatClampNeg (x4 + (4 : Int32)))))) hx hb d_Law_law_282 rfl ?_
  refine lv_bipush (v := 32) hx hb d_Law_law_283 (by decide) ?_
  refine lv_lshl (v := (lshl (Int32.toInt64 (xs (Int32.toNatClampNeg (x4 + (4 : Int32))))) (32 : Int32))) hx hb d_Law_law_285 rfl ?_
  refine lv_aload_n hx hb d_Law_law_286 rfl (lv_at hl 1 rfl) ?_
  refine lv_iload hx hb d_Law_law_287 (lv_at hl 5 rfl) ?_
  refine lv_iconst (v := 5) hx hb d_Law_law_289 (by decide) ?_
  refine lv_iadd hx hb d_Law_law_290 ?_
  refine va_sld hx hb hX hbl hbA hS (inb_in hi53) d_Law_law_291 ?_
  refine lv_i2l (v := (Int32.toInt64 (xs (Int32.toNatClampNeg (x4 + (5 : Int32)))))) hx hb d_Law_law_292 rfl ?_
  refine lv_ldc2 (v := 4294967295) hx hb hown (hts _ cn_Law_83) d_Law_law_293 ?_
  refine lv_land hx hb d_Law_law_296 ?_
  refine lv_lor hx hb d_Law_law_297 ?_
  obtain ⟨v66, o_67, hG65, h⟩ := bind2_some h
  refine bw_call (Lc := [wMod ct a13 o13]) (Lc' := [wMod ct a13 o_67]) (L' := [wPF ct a0 (a1 0) (a4 0) (a6 0) (a7 0) (a8 0) v0 o_56, wReader ct a1 (a2 0) o1, wText ct a2 (a3 0) o2, wSteps ct a3 o3, wText ct a4 (a5 0) o4, wSteps ct a5 o5, wReckoner ct a6 o_58, wCells ct a7 o_57, wCells ct a8 o8, wCells ct a9 o9, wCells ct a10 o10, wCells ct a11 o11, wCells ct a12 o12, wMod ct a13 o_67, wOut ct a14 o_59]) [13] (va_runV (As := [.int (xs (Int32.toNatClampNeg (x4 + (1 : Int32)))), .long ((lshl (Int32.toInt64 (xs (Int32.toNatClampNeg (x4 + (2 : Int32))))) (32 : Int32)) ||| ((Int32.toInt64 (xs (Int32.toNatClampNeg (x4 + (3 : Int32))))) &&& (4294967295 : Int64))), .long ((lshl (Int32.toInt64 (xs (Int32.toNatClampNeg (x4 + (4 : Int32))))) (32 : Int32)) ||| ((Int32.toInt64 (xs (Int32.toNatClampNeg (x4 + (5 : Int32))))) &&& (4294967295 : Int64)))]) (rest := []) ⟨hx, hb, hml, hown, hts⟩ (c_Mod_set l ct dC dI a13 _ (xs (Int32.toNatClampNeg (x4 + (1 : Int32)))) ((lshl (Int32.toInt64 (xs (Int32.toNatClampNeg (x4 + (2 : Int32))))) (32 : Int32)) ||| ((Int32.toInt64 (xs (Int32.toNatClampNeg (x4 + (3 : Int32))))) &&& (4294967295 : Int64))) ((lshl (Int32.toInt64 (xs (Int32.toNatClampNeg (x4 + (4 : Int32))))) (32 : Int32)) ||| ((Int32.toInt64 (xs (Int32.toNatClampNeg (x4 + (5 : Int32))))) &&& (4294967295 : Int64))) o13 v66 o_67 hG65) (cwV 3 hts g_Law_88 rfl rfl rfl (by decide +kernel) ⟨Nat.le_of_ble_eq_true rfl, Nat.le_of_ble_eq_true rfl⟩) ⟨bw_blind nx_call, va_recv hK (hP 13 _ rfl) (ci := 6) (q0 := 0) rfl rfl, fun U hU hW => ⟨rfl, by rw [hU], by rw [hU]; exact hP.sub [13] rfl, va_K.moved hW.alike hK, (hN.sub [13] (by decide) rfl).weaken (fun _ _ => trivial), nx_warm hW hnx⟩⟩ rfl rfl hl.1 rfl (Nat.le_of_ble_eq_true rfl) d_Law_law_298 ⟨by rw [room_c]; omega, by rw [room_s]; omega⟩) hP hN hS hA rfl rfl rfl (fun H locs hP hS => ?_)
  refine lv_istore (lv' := [(6, .int (b2i v66)), (5, .int v55), (0, .ref b), (1, .ref (a0 0)), (2, .ref (a13 0)), (3, .ref (a14 0)), (4, .int x4)]) hx hb d_Law_law_301 hl (by decide) rfl (fun ls hl => ?_)
  refine lv_aload_n hx hb d_Law_law_303 rfl (lv_at hl 4 rfl) ?_
  obtain ⟨v69, hG68, h⟩ := bind1_some h
  refine bw_callR (va_runV (As := []) (rest := []) ⟨hx, hb, hml, hown, hts⟩ (c_Mod_thrown l ct dC dI a13 _ o_67 v69 hG68) (cwV 0 hts g_Law_89 rfl rfl rfl (by decide +kernel) ⟨Nat.le_of_ble_eq_true rfl, Nat.le_of_ble_eq_true rfl⟩) ⟨bw_blind nx_call, va_recv hK (hP 13 _ rfl) (ci := 6) (q0 := 0) rfl rfl, fun U hU hW => ⟨rfl, by rw [hU], by rw [hU]; exact hP.sub [13] rfl, va_K.moved hW.alike hK, (hN.sub [13] (by decide) rfl).weaken (fun _ _ => trivial), nx_warm hW hnx⟩⟩ rfl rfl hl.1 rfl (Nat.le_of_ble_eq_true rfl) d_Law_law_304 ⟨by rw [room_c]; omega, by rw [room_s]; omega⟩) ?_
  refine lv_iload hx hb d_Law_law_307 (lv_at hl 1 rfl) ?_
  refine lv_icmp_eq (tgt := 314) hx hb d_Law_law_309 (by decide) (fun c70 => ?_) (fun c70 => ?_)
  · have h := ite_t c70 h
    refine lv_iload hx hb d_Law_law_314 (lv_at hl 1 rfl) ?_
    refine lv_if_ne (tgt := 338) hx hb d_Law_law_316 (by decide) (fun c71 => ?_) (fun c71 => ?_)
    · have h := ite_f c71 h
      refine lv_goto (tgt := 750) hx hb d_Law_law_338 (by decide) ?_
      refine lv_iinc (v := (x4 + (6 : Int32))) (lv' := [(4, .int (x4 + (6 : Int32))), (6, .int (b2i v66)), (5, .int v55), (0, .ref b), (1, .ref (a0 0)), (2, .ref (a13 0)), (3, .ref (a14 0))]) hx hb d_Law_law_750 hl (k := 6) rfl rfl (by decide) rfl (fun ls hl => ?_)
      refine lv_goto (tgt := 23) hx hb d_Law_law_753 (by decide) ?_
      refine W.widen (k := 200 + (it + 1)) (n := 40000 + 6 * (it + 1)) (by omega) (by omega) ?_
      exact hk23 a0 a1 a2 a3 a4 a5 a6 a7 a8 a9 a10 a11 a12 a13 a14 v0 (x4 + (6 : Int32)) o_56 o1 o2 o3 o4 o5 o_58 o_57 o8 o9 o10 o11 o12 o_67 o_59 _ _ _ hN hver hP hS (lv_sub hl [3, 4, 5, 6, 0] rfl) h
    · have h := ite_t c71 h
      refine lv_aload_n hx hb d_Law_law_319 rfl (lv_at hl 5 rfl) ?_
      refine lv_iconst (v := 0) hx hb d_Law_law_320 (by decide) ?_
      obtain ⟨hi72, h⟩ := chk_some h
      refine va_lald (f := g64 o_59 0) hx hb hK (hP 14 _ rfl) 0 1 rfl rfl (inb_in hi72) d_Law_law_321 ?_
      refine lv_iload hx hb d_Law_law_322 (lv_at hl 0 rfl) ?_
      refine lv_if_eq (tgt := 331) hx hb d_Law_law_324 (by decide) (fun c73 => ?_) (fun c73 => ?_)
      · have h := ite_t c73 h
        refine lv_lconst (v := 0) hx hb d_Law_law_331 (by decide) ?_
        refine W.lcmp hx hb d_Law_law_332 ?_
        refine lv_if_eq (tgt := 338) hx hb d_Law_law_333 (by decide) (fun c74 => ?_) (fun c74 => ?_)
        · have h := ite_t c74 h
          refine lv_goto (tgt := 750) hx hb d_Law_law_338 (by decide) ?_
          refine lv_iinc (v := (x4 + (6 : Int32))) (lv' := [(4, .int (x4 + (6 : Int32))), (6, .int (b2i v66)), (5, .int v55), (0, .ref b), (1, .ref (a0 0)), (2, .ref (a13 0)), (3, .ref (a14 0))]) hx hb d_Law_law_750 hl (k := 6) rfl rfl (by decide) rfl (fun ls hl => ?_)
          refine lv_goto (tgt := 23) hx hb d_Law_law_753 (by decide) ?_
          refine W.widen (k := 200 + (it + 1)) (n := 40000 + 6 * (it + 1)) (by omega) (by omega) ?_
          exact hk23 a0 a1 a2 a3 a4 a5 a6 a7 a8 a9 a10 a11 a12 a13 a14 v0 (x4 + (6 : Int32)) o_56 o1 o2 o3 o4 o5 o_58 o_57 o8 o9 o10 o11 o12 o_67 o_59 _ _ _ hN hver hP hS (lv_sub hl [3, 4, 5, 6, 0] rfl) h
        · have h := ite_f c74 h
          refine lv_iconst (v := 0) hx hb d_Law_law_336 (by decide) ?_
          cases h
      · have h := ite_f c73 h
        refine lv_lconst (v := 1) hx hb d_Law_law_327 (by decide) ?_
        refine lv_goto (tgt := 332) hx hb d_Law_law_328 (by decide) ?_
        refine W.lcmp hx hb d_Law_law_332 ?_
        refine lv_if_eq (tgt := 338) hx hb d_Law_law_333 (by decide) (fun c75 => ?_) (fun c75 => ?_)
        · have h := ite_t c75 h
          refine lv_goto (tgt := 750) hx hb d_Law_law_338 (by decide) ?_
          refine lv_iinc (v := (x4 + (6 : Int32))) (lv' := [(4, .int (x4 + (6 : Int32))), (6, .int (b2i v66)), (5, .int v55), (0, .ref b), (1, .ref (a0 0)), (2, .ref (a13 0)), (3, .ref (a14 0))]) hx hb d_Law_law_750 hl (k := 6) rfl rfl (by decide) rfl (fun ls hl => ?_)
          refine lv_goto (tgt := 23) hx hb d_Law_law_753 (by decide) ?_
          refine W.widen (k := 200 + (it + 1)) (n := 40000 + 6 * (it + 1)) (by omega) (by omega) ?_
          exact hk23 a0 a1 a2 a3 a4 a5 a6 a7 a8 a9 a10 a11 a12 a13 a14 v0 (x4 + (6 : Int32)) o_56 o1 o2 o3 o4 o5 o_58 o_57 o8 o9 o10 o11 o12 o_67 o_59 _ _ _ hN hver hP hS (lv_sub hl [3, 4, 5, 6, 0] rfl) h
        · have h := ite_f c75 h
          refine lv_iconst (v := 0) hx hb d_Law_law_336 (by decide) ?_
          cases h
  · have h := ite_f c70 h
    refine lv_iconst (v := 0) hx hb d_Law_law_312 (by decide) ?_
    cases h
