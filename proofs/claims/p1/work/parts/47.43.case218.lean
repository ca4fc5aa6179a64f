/-! THE LAW: case at 218 -/
def F_Law_law_218 (L : Nat) (xs : Nat → Int32) (k23 : Int32 → Ob → Ob → Ob → Ob → Ob → Ob → Ob → Ob → Ob → Ob → Ob → Ob → Ob → Ob → Ob → Option Unit) (x4 : Int32) (o0 o1 o2 o3 o4 o5 o6 o7 o8 o9 o10 o11 o12 o13 o14 : Ob) : Option Unit :=
  chk (inb (x4 + (1 : Int32)) L) (chk (inb (x4 + (2 : Int32)) L) (chk (inb (x4 + (3 : Int32)) L) (chk (inb (x4 + (4 : Int32)) L) (chk (inb (x4 + (5 : Int32)) L) (bind5 (F_Law_set (xs (Int32.toNatClampNeg (x4 + (1 : Int32)))) ((lshl (Int32.toInt64 (xs (Int32.toNatClampNeg (x4 + (2 : Int32))))) (32 : Int32)) ||| ((Int32.toInt64 (xs (Int32.toNatClampNeg (x4 + (3 : Int32))))) &&& (4294967295 : Int64))) ((lshl (Int32.toInt64 (xs (Int32.toNatClampNeg (x4 + (4 : Int32))))) (32 : Int32)) ||| ((Int32.toInt64 (xs (Int32.toNatClampNeg (x4 + (5 : Int32))))) &&& (4294967295 : Int64))) o0 o7 o6 o4 o5 o14) (fun v64 o_65 o_66 o_67 o_68 => bind2 (F_Mod_set (xs (Int32.toNatClampNeg (x4 + (1 : Int32)))) ((lshl (Int32.toInt64 (xs (Int32.toNatClampNeg (x4 + (2 : Int32))))) (32 : Int32)) ||| ((Int32.toInt64 (xs (Int32.toNatClampNeg (x4 + (3 : Int32))))) &&& (4294967295 : Int64))) ((lshl (Int32.toInt64 (xs (Int32.toNatClampNeg (x4 + (4 : Int32))))) (32 : Int32)) ||| ((Int32.toInt64 (xs (Int32.toNatClampNeg (x4 + (5 : Int32))))) &&& (4294967295 : Int64))) o13) (fun v75 o_76 => bind1 (F_Mod_thrown o_76) (fun v78 => if v78 = v64 then (if v64 = 0 then (chk (inb (0 : Int32) 1) (if (b2i v75) = 0 then (if (lg_cmp (g64 o_68 0 (Int32.toNatClampNeg (0 : Int32))) (0 : Int64)) = 0 then (k23 (x4 + (6 : Int32)) o_65 o1 o2 o3 o4 o5 o_67 o_66 o8 o9 o10 o11 o12 o_76 o_68) else (none)) else (if (lg_cmp (g64 o_68 0 (Int32.toNatClampNeg (0 : Int32))) (1 : Int64)) = 0 then (k23 (x4 + (6 : Int32)) o_65 o1 o2 o3 o4 o5 o_67 o_66 o8 o9 o10 o11 o12 o_76 o_68) else (none)))) else (k23 (x4 + (6 : Int32)) o_65 o1 o2 o3 o4 o5 o_67 o_66 o8 o9 o10 o11 o12 o_76 o_68)) else (none)))))))))
set_option maxHeartbeats 8000000 in
set_option maxRecDepth 100000 in
theorem k_Law_law_218 {p : Program} {l : Launch} {e : Env} {s : State} {m : MethodId} {below : List Frame} {meth : Method} {c : Code} {b L : Nat} {xs : Nat → Int32} {A : Nat → Prop} {ct dC : Nat → ClassId} {dI : Nat → Nat → Nat} (C0 : lcx p s m meth c b L xs A ct dC dI) (hl0 : l.stackTraces = false) {it : Nat} (hit : it + 1 ≤ 600) {k23 : Int32 → Ob → Ob → Ob → Ob → Ob → Ob → Ob → Ob → Ob → Ob → Ob → Ob → Ob → Ob → Ob → Option Unit} (hk23 : ∀ (a0 a1 a2 a3 a4 a5 a6 a7 a8 a9 a10 a11 a12 a13 a14 : Nat → Nat) (v0 : Nat → Nat) (x4 : Int32) (o0 o1 o2 o3 o4 o5 o6 o7 o8 o9 o10 o11 o12 o13 o14 : Ob) (H : Heap) (locs : List Loc) (ls : Array Slot), bw_N A [adPF a0, adReader a1, adText a2, adSteps a3, adText a4, adSteps a5, adReckoner a6, adCells a7, adCells a8, adCells a9, adCells a10, adCells a11, adCells a12, adMod a13, adOut a14] → (v0 0 = a9 0 ∧ v0 1 = a10 0 ∧ v0 2 = a11 0 ∧ v0 3 = a12 0) → bw_P (dC, dI) vwCl [wPF ct a0 (a1 0) (a4 0) (a6 0) (a7 0) (a8 0) v0 o0, wReader ct a1 (a2 0) o1, wText ct a2 (a3 0) o2, wSteps ct a3 o3, wText ct a4 (a5 0) o4, wSteps ct a5 o5, wReckoner ct a6 o6, wCells ct a7 o7, wCells ct a8 o8, wCells ct a9 o9, wCells ct a10 o10, wCells ct a11 o11, wCells ct a12 o12, wMod ct a13 o13, wOut ct a14 o14] H → va_S A s.heap H locs → lv_has ls 8 [(0, .ref b), (1, .ref (a0 0)), (2, .ref (a13 0)), (3, .ref (a14 0)), (4, .int x4)] → k23 x4 o0 o1 o2 o3 o4 o5 o6 o7 o8 o9 o10 o11 o12 o13 o14 = some () → W p l e room_1 s m #[Value.ref b] below meth c H locs (200 + (it + 1)) (40000 + 6 * (it + 1)) (lw_Z below #[Value.ref b] s) (F0 m 23 ls [])) : ∀ (a0 a1 a2 a3 a4 a5 a6 a7 a8 a9 a10 a11 a12 a13 a14 : Nat → Nat) (v0 : Nat → Nat) (x4 : Int32) (o0 o1 o2 o3 o4 o5 o6 o7 o8 o9 o10 o11 o12 o13 o14 : Ob) (H : Heap) (locs : List Loc) (ls : Array Slot), bw_N A [adPF a0, adReader a1, adText a2, adSteps a3, adText a4, adSteps a5, adReckoner a6, adCells a7, adCells a8, adCells a9, adCells a10, adCells a11, adCells a12, adMod a13, adOut a14] → (v0 0 = a9 0 ∧ v0 1 = a10 0 ∧ v0 2 = a11 0 ∧ v0 3 = a12 0) → bw_P (dC, dI) vwCl [wPF ct a0 (a1 0) (a4 0) (a6 0) (a7 0) (a8 0) v0 o0, wReader ct a1 (a2 0) o1, wText ct a2 (a3 0) o2, wSteps ct a3 o3, wText ct a4 (a5 0) o4, wSteps ct a5 o5, wReckoner ct a6 o6, wCells ct a7 o7, wCells ct a8 o8, wCells ct a9 o9, wCells ct a10 o10, wCells ct a11 o11, wCells ct a12 o12, wMod ct a13 o13, wOut ct a14 o14] H → va_S A s.heap H locs → lv_has ls 8 [(0, .ref b), (1, .ref (a0 0)), (2, .ref (a13 0)), (3, .ref (a14 0)), (4, .int x4)] → F_Law_law_218 L xs k23 x4 o0 o1 o2 o3 o4 o5 o6 o7 o8 o9 o10 o11 o12 o13 o14 = some () → W p l e room_1 s m #[Value.ref b] below meth c H locs (200 + it) (40000 + 6 * it) (lw_Z below #[Value.ref b] s) (F0 m 218 ls []) := by
  obtain ⟨hx, hb, hr, hml, hown, hlocks, hts, hK, hA, hAs, hX, hbl, hnx, hthy, hex9, hsx⟩ := id C0
  have hbA : ¬ A b := fun z => absurd (hAs b z) (Nat.not_le.mpr hbl)
  intro a0 a1 a2 a3 a4 a5 a6 a7 a8 a9 a10 a11 a12 a13 a14 v0 x4 o0 o1 o2 o3 o4 o5 o6 o7 o8 o9 o10 o11 o12 o13 o14 H locs ls hN hver hP hS hl h
  rw [F_Law_law_218] at h
  refine lv_aload_n hx hb d_Law_law_218 rfl (lv_at hl 1 rfl) ?_
  refine lv_aload_n hx hb d_Law_law_219 rfl (lv_at hl 0 rfl) ?_
  refine lv_iload hx hb d_Law_law_220 (lv_at hl 4 rfl) ?_
  refine lv_iconst (v := 1) hx hb d_Law_law_222 (by decide) ?_
  refine lv_iadd hx hb d_Law_law_223 ?_
  obtain ⟨hi58, h⟩ := chk_some h
  refine va_sld hx hb hX hbl hbA hS (inb_in hi58) d_Law_law_224 ?_
  refine lv_aload_n hx hb d_Law_law_225 rfl (lv_at hl 0 rfl) ?_
  refine lv_iload hx hb d_Law_law_226 (lv_at hl 4 rfl) ?_
  refine lv_iconst (v := 2) hx hb d_Law_law_228 (by decide) ?_
  refine lv_iadd hx hb d_Law_law_229 ?_
  obtain ⟨hi59, h⟩ := chk_some h
  refine va_sld hx hb hX hbl hbA hS (inb_in hi59) d_Law_law_230 ?_
  refine lv_i2l (v := (Int32.toInt64 (xs (Int32.toNatClampNeg (x4 + (2 : Int32)))))) hx hb d_Law_law_231 rfl ?_
  refine lv_bipush (v := 32) hx hb d_Law_law_232 (by decide) ?_
  refine lv_lshl (v := (lshl (Int32.toInt64 (xs (Int32.toNatClampNeg (x4 + (2 : Int32))))) (32 : Int32))) hx hb d_Law_law_234 rfl ?_
  refine lv_aload_n hx hb d_Law_law_235 rfl (lv_at hl 0 rfl) ?_
  refine lv_iload hx hb d_Law_law_236 (lv_at hl 4 rfl) ?_
  refine lv_iconst (v := 3) hx hb d_Law_law_238 (by decide) ?_
  refine lv_iadd hx hb d_Law_law_239 ?_
  obtain ⟨hi60, h⟩ := chk_some h
  refine va_sld hx hb hX hbl hbA hS (inb_in hi60) d_Law_law_240 ?_
  refine lv_i2l (v := (Int32.toInt64 (xs (Int32.toNatClampNeg (x4 + (3 : Int32)))))) hx hb d_Law_law_241 rfl ?_
  refine lv_ldc2 (v := 4294967295) hx hb hown (hts _ cn_Law_86) d_Law_law_242 ?_
  refine lv_land hx hb d_Law_law_245 ?_
  refine lv_lor hx hb d_Law_law_246 ?_
  refine lv_aload_n hx hb d_Law_law_247 rfl (lv_at hl 0 rfl) ?_
  refine lv_iload hx hb d_Law_law_248 (lv_at hl 4 rfl) ?_
  refine lv_iconst (v := 4) hx hb d_Law_law_250 (by decide) ?_
  refine lv_iadd hx hb d_Law_law_251 ?_
  obtain ⟨hi61, h⟩ := chk_some h
  refine va_sld hx hb hX hbl hbA hS (inb_in hi61) d_Law_law_252 ?_
  refine lv_i2l (v := (Int32.toInt64 (xs (Int32.toNatClampNeg (x4 + (4 : Int32)))))) hx hb d_Law_law_253 rfl ?_
  refine lv_bipush (v := 32) hx hb d_Law_law_254 (by decide) ?_
  refine lv_lshl (v := (lshl (Int32.toInt64 (xs (Int32.toNatClampNeg (x4 + (4 : Int32))))) (32 : Int32))) hx hb d_Law_law_256 rfl ?_
  refine lv_aload_n hx hb d_Law_law_257 rfl (lv_at hl 0 rfl) ?_
  refine lv_iload hx hb d_Law_law_258 (lv_at hl 4 rfl) ?_
  refine lv_iconst (v := 5) hx hb d_Law_law_260 (by decide) ?_
  refine lv_iadd hx hb d_Law_law_261 ?_
  obtain ⟨hi62, h⟩ := chk_some h
  refine va_sld hx hb hX hbl hbA hS (inb_in hi62) d_Law_law_262 ?_
  refine lv_i2l (v := (Int32.toInt64 (xs (Int32.toNatClampNeg (x4 + (5 : Int32)))))) hx hb d_Law_law_263 rfl ?_
  refine lv_ldc2 (v := 4294967295) hx hb hown (hts _ cn_Law_86) d_Law_law_264 ?_
  refine lv_land hx hb d_Law_law_267 ?_
  refine lv_lor hx hb d_Law_law_268 ?_
  refine lv_aload_n hx hb d_Law_law_269 rfl (lv_at hl 3 rfl) ?_
  obtain ⟨v64, o_65, o_66, o_67, o_68, hG63, h⟩ := bind5_some h
  refine bw_call (Lc := [wPF ct a0 (a1 0) (a4 0) (a6 0) (a7 0) (a8 0) v0 o0, wCells ct a7 o7, wReckoner ct a6 o6, wText ct a4 (a5 0) o4, wSteps ct a5 o5, wOut ct a14 o14]) (Lc' := [wPF ct a0 (a1 0) (a4 0) (a6 0) (a7 0) (a8 0) v0 o_65, wCells ct a7 o_66, wReckoner ct a6 o_67, wText ct a4 (a5 0) o4, wSteps ct a5 o5, wOut ct a14 o_68]) (L' := [wPF ct a0 (a1 0) (a4 0) (a6 0) (a7 0) (a8 0) v0 o_65, wReader ct a1 (a2 0) o1, wText ct a2 (a3 0) o2, wSteps ct a3 o3, wText ct a4 (a5 0) o4, wSteps ct a5 o5, wReckoner ct a6 o_67, wCells ct a7 o_66, wCells ct a8 o8, wCells ct a9 o9, wCells ct a10 o10, wCells ct a11 o11, wCells ct a12 o12, wMod ct a13 o13, wOut ct a14 o_68]) [0, 7, 6, 4, 5, 14] (bt_runSW (n := 5) (As := [.ref (a0 0), .int (xs (Int32.toNatClampNeg (x4 + (1 : Int32)))), .long ((lshl (Int32.toInt64 (xs (Int32.toNatClampNeg (x4 + (2 : Int32))))) (32 : Int32)) ||| ((Int32.toInt64 (xs (Int32.toNatClampNeg (x4 + (3 : Int32))))) &&& (4294967295 : Int64))), .long ((lshl (Int32.toInt64 (xs (Int32.toNatClampNeg (x4 + (4 : Int32))))) (32 : Int32)) ||| ((Int32.toInt64 (xs (Int32.toNatClampNeg (x4 + (5 : Int32))))) &&& (4294967295 : Int64))), .ref (a14 0)]) (rest := []) ⟨hx, hb, hml, hown, hts⟩ (c_Law_set l hl0 ct dC dI a0 a7 a6 a4 a5 a14 (a1 0) (a8 0) v0 _ (xs (Int32.toNatClampNeg (x4 + (1 : Int32)))) ((lshl (Int32.toInt64 (xs (Int32.toNatClampNeg (x4 + (2 : Int32))))) (32 : Int32)) ||| ((Int32.toInt64 (xs (Int32.toNatClampNeg (x4 + (3 : Int32))))) &&& (4294967295 : Int64))) ((lshl (Int32.toInt64 (xs (Int32.toNatClampNeg (x4 + (4 : Int32))))) (32 : Int32)) ||| ((Int32.toInt64 (xs (Int32.toNatClampNeg (x4 + (5 : Int32))))) &&& (4294967295 : Int64))) o0 o7 o6 o4 o5 o14 v64 o_65 o_66 o_67 o_68 hG63) (gd_any cd_Law_set) rfl rfl rfl (hts _ ini_Law) (hts _ ml_Law_88) (hts _ st_Law_set) (by decide +kernel) ⟨Nat.le_of_ble_eq_true rfl, Nat.le_of_ble_eq_true rfl⟩ ⟨bw_blind thh_call, fun U hU hW => ⟨rfl, by rw [hU], by rw [hU]; exact hP.sub [0, 7, 6, 4, 5, 14] rfl, va_K.moved hW.alike hK, (hN.sub [0, 7, 6, 4, 5, 14] (by decide) rfl).weaken (fun _ _ => trivial), ⟨nx_warm hW hnx, thy_x hthy hS hAs hW hU, exX.moved hW.alike hex9⟩⟩⟩ rfl rfl hl.1 rfl (Nat.le_of_ble_eq_true rfl) d_Law_law_270 ⟨by rw [room_c]; omega, by rw [room_s]; omega⟩) hP hN hS hA rfl rfl rfl (fun H locs hP hS => ?_)
  refine lv_istore (lv' := [(5, .int v64), (0, .ref b), (1, .ref (a0 0)), (2, .ref (a13 0)), (3, .ref (a14 0)), (4, .int x4)]) hx hb d_Law_law_273 hl (by decide) rfl (fun ls hl => ?_)
  refine lv_aload_n hx hb d_Law_law_275 rfl (lv_at hl 3 rfl) ?_
  refine lv_aload_n hx hb d_Law_law_276 rfl (lv_at hl 1 rfl) ?_
  refine lv_iload hx hb d_Law_law_277 (lv_at hl 5 rfl) ?_
  refine lv_iconst (v := 1) hx hb d_Law_law_279 (by decide) ?_
  refine lv_iadd hx hb d_Law_law_280 ?_
  refine va_sld hx hb hX hbl hbA hS (inb_in hi58) d_Law_law_281 ?_
  refine lv_aload_n hx hb d_Law_law_282 rfl (lv_at hl 1 rfl) ?_
  refine lv_iload hx hb d_Law_law_283 (lv_at hl 5 rfl) ?_
  refine lv_iconst (v := 2) hx hb d_Law_law_285 (by decide) ?_
  refine lv_iadd hx hb d_Law_law_286 ?_
  refine va_sld hx hb hX hbl hbA hS (inb_in hi59) d_Law_law_287 ?_
  refine lv_i2l (v := (Int32.toInt64 (xs (Int32.toNatClampNeg (x4 + (2 : Int32)))))) hx hb d_Law_law_288 rfl ?_
  refine lv_bipush (v := 32) hx hb d_Law_law_289 (by decide) ?_
  refine lv_lshl (v := (lshl (Int32.toInt64 (xs (Int32.toNatClampNeg (x4 + (2 : Int32))))) (32 : Int32))) hx hb d_Law_law_291 rfl ?_
  refine lv_aload_n hx hb d_Law_law_292 rfl (lv_at hl 1 rfl) ?_
  refine lv_iload hx hb d_Law_law_293 (lv_at hl 5 rfl) ?_
  refine lv_iconst (v := 3) hx hb d_Law_law_295 (by decide) ?_
  refine lv_iadd hx hb d_Law_law_296 ?_
  refine va_sld hx hb hX hbl hbA hS (inb_in hi60) d_Law_law_297 ?_
  refine lv_i2l (v := (Int32.toInt64 (xs (Int32.toNatClampNeg (x4 + (3 : Int32)))))) hx hb d_Law_law_298 rfl ?_
  refine lv_ldc2 (v := 4294967295) hx hb hown (hts _ cn_Law_86) d_Law_law_299 ?_
  refine lv_land hx hb d_Law_law_302 ?_
  refine lv_lor hx hb d_Law_law_303 ?_
  refine lv_aload_n hx hb d_Law_law_304 rfl (lv_at hl 1 rfl) ?_
  refine lv_iload hx hb d_Law_law_305 (lv_at hl 5 rfl) ?_
  refine lv_iconst (v := 4) hx hb d_Law_law_307 (by decide) ?_
  refine lv_iadd hx hb d_Law_law_308 ?_
  refine va_sld hx hb hX hbl hbA hS (inb_in hi61) d_Law_law_309 ?_
  refine lv_i2l (v := (Int32.toInt64 (xs (Int32.toNatClampNeg (x4 + (4 : Int32)))))) hx hb d_Law_law_310 rfl ?_
  refine lv_bipush (v := 32) hx hb d_Law_law_311 (by decide) ?_
  refine lv_lshl (v := (lshl (Int32.toInt64 (xs (Int32.toNatClampNeg (x4 + (4 : Int32))))) (32 : Int32))) hx hb d_Law_law_313 rfl ?_
  refine lv_aload_n hx hb d_Law_law_314 rfl (lv_at hl 1 rfl) ?_
  refine lv_iload hx hb d_Law_law_315 (lv_at hl 5 rfl) ?_
  refine lv_iconst (v := 5) hx hb d_Law_law_317 (by decide) ?_
  refine lv_iadd hx hb d_Law_law_318 ?_
  refine va_sld hx hb hX hbl hbA hS (inb_in hi62) d_Law_law_319 ?_
  refine lv_i2l (v := (Int32.toInt64 (xs (Int32.toNatClampNeg (x4 + (5 : Int32)))))) hx hb d_Law_law_320 rfl ?_
  refine lv_ldc2 (v := 4294967295) hx hb hown (hts _ cn_Law_86) d_Law_law_321 ?_
  refine lv_land hx hb d_Law_law_324 ?_
  refine lv_lor hx hb d_Law_law_325 ?_
  obtain ⟨v75, o_76, hG74, h⟩ := bind2_some h
  refine bw_call (Lc := [wMod ct a13 o13]) (Lc' := [wMod ct a13 o_76]) (L' := [wPF ct a0 (a1 0) (a4 0) (a6 0) (a7 0) (a8 0) v0 o_65, wReader ct a1 (a2 0) o1, wText ct a2 (a3 0) o2, wSteps ct a3 o3, wText ct a4 (a5 0) o4, wSteps ct a5 o5, wReckoner ct a6 o_67, wCells ct a7 o_66, wCells ct a8 o8, wCells ct a9 o9, wCells ct a10 o10, wCells ct a11 o11, wCells ct a12 o12, wMod ct a13 o_76, wOut ct a14 o_68]) [13] (va_runV (As := [.int (xs (Int32.toNatClampNeg (x4 + (1 : Int32)))), .long ((lshl (Int32.toInt64 (xs (Int32.toNatClampNeg (x4 + (2 : Int32))))) (32 : Int32)) ||| ((Int32.toInt64 (xs (Int32.toNatClampNeg (x4 + (3 : Int32))))) &&& (4294967295 : Int64))), .long ((lshl (Int32.toInt64 (xs (Int32.toNatClampNeg (x4 + (4 : Int32))))) (32 : Int32)) ||| ((Int32.toInt64 (xs (Int32.toNatClampNeg (x4 + (5 : Int32))))) &&& (4294967295 : Int64)))]) (rest := []) ⟨hx, hb, hml, hown, hts⟩ (c_Mod_set l ct dC dI a13 _ (xs (Int32.toNatClampNeg (x4 + (1 : Int32)))) ((lshl (Int32.toInt64 (xs (Int32.toNatClampNeg (x4 + (2 : Int32))))) (32 : Int32)) ||| ((Int32.toInt64 (xs (Int32.toNatClampNeg (x4 + (3 : Int32))))) &&& (4294967295 : Int64))) ((lshl (Int32.toInt64 (xs (Int32.toNatClampNeg (x4 + (4 : Int32))))) (32 : Int32)) ||| ((Int32.toInt64 (xs (Int32.toNatClampNeg (x4 + (5 : Int32))))) &&& (4294967295 : Int64))) o13 v75 o_76 hG74) (cwV 3 hts g_Law_91 rfl rfl rfl (by decide +kernel) ⟨Nat.le_of_ble_eq_true rfl, Nat.le_of_ble_eq_true rfl⟩) ⟨bw_blind nx_call, va_recv hK (hP 13 _ rfl) (ci := 6) (q0 := 0) rfl rfl, fun U hU hW => ⟨rfl, by rw [hU], by rw [hU]; exact hP.sub [13] rfl, va_K.moved hW.alike hK, (hN.sub [13] (by decide) rfl).weaken (fun _ _ => trivial), nx_warm hW hnx⟩⟩ rfl rfl hl.1 rfl (Nat.le_of_ble_eq_true rfl) d_Law_law_326 ⟨by rw [room_c]; omega, by rw [room_s]; omega⟩) hP hN hS hA rfl rfl rfl (fun H locs hP hS => ?_)
  refine lv_istore (lv' := [(6, .int (b2i v75)), (5, .int v64), (0, .ref b), (1, .ref (a0 0)), (2, .ref (a13 0)), (3, .ref (a14 0)), (4, .int x4)]) hx hb d_Law_law_329 hl (by decide) rfl (fun ls hl => ?_)
  refine lv_aload_n hx hb d_Law_law_331 rfl (lv_at hl 4 rfl) ?_
  obtain ⟨v78, hG77, h⟩ := bind1_some h
  refine bw_callR (va_runV (As := []) (rest := []) ⟨hx, hb, hml, hown, hts⟩ (c_Mod_thrown l ct dC dI a13 _ o_76 v78 hG77) (cwV 0 hts g_Law_83 rfl rfl rfl (by decide +kernel) ⟨Nat.le_of_ble_eq_true rfl, Nat.le_of_ble_eq_true rfl⟩) ⟨bw_blind nx_call, va_recv hK (hP 13 _ rfl) (ci := 6) (q0 := 0) rfl rfl, fun U hU hW => ⟨rfl, by rw [hU], by rw [hU]; exact hP.sub [13] rfl, va_K.moved hW.alike hK, (hN.sub [13] (by decide) rfl).weaken (fun _ _ => trivial), nx_warm hW hnx⟩⟩ rfl rfl hl.1 rfl (Nat.le_of_ble_eq_true rfl) d_Law_law_332 ⟨by rw [room_c]; omega, by rw [room_s]; omega⟩) ?_
  refine lv_iload hx hb d_Law_law_335 (lv_at hl 1 rfl) ?_
  refine lv_icmp_eq (tgt := 342) hx hb d_Law_law_337 (by decide) (fun c79 => ?_) (fun c79 => ?_)
  · have h := ite_t c79 h
    refine lv_iload hx hb d_Law_law_342 (lv_at hl 1 rfl) ?_
    refine lv_if_ne (tgt := 366) hx hb d_Law_law_344 (by decide) (fun c80 => ?_) (fun c80 => ?_)
    · have h := ite_f c80 h
      refine lv_goto (tgt := 1128) hx hb d_Law_law_366 (by decide) ?_
      refine lv_iinc (v := (x4 + (6 : Int32))) (lv' := [(4, .int (x4 + (6 : Int32))), (6, .int (b2i v75)), (5, .int v64), (0, .ref b), (1, .ref (a0 0)), (2, .ref (a13 0)), (3, .ref (a14 0))]) hx hb d_Law_law_1128 hl (k := 6) rfl rfl (by decide) rfl (fun ls hl => ?_)
      refine lv_goto (tgt := 23) hx hb d_Law_law_1131 (by decide) ?_
      refine W.widen (k := 200 + (it + 1)) (n := 40000 + 6 * (it + 1)) (by omega) (by omega) ?_
      exact hk23 a0 a1 a2 a3 a4 a5 a6 a7 a8 a9 a10 a11 a12 a13 a14 v0 (x4 + (6 : Int32)) o_65 o1 o2 o3 o4 o5 o_67 o_66 o8 o9 o10 o11 o12 o_76 o_68 _ _ _ hN hver hP hS (lv_sub hl [3, 4, 5, 6, 0] rfl) h
    · have h := ite_t c80 h
      refine lv_aload_n hx hb d_Law_law_347 rfl (lv_at hl 5 rfl) ?_
      refine lv_iconst (v := 0) hx hb d_Law_law_348 (by decide) ?_
      obtain ⟨hi81, h⟩ := chk_some h
      refine va_lald (f := g64 o_68 0) hx hb hK (hP 14 _ rfl) 0 1 rfl rfl (inb_in hi81) d_Law_law_349 ?_
      refine lv_iload hx hb d_Law_law_350 (lv_at hl 0 rfl) ?_
      refine lv_if_eq (tgt := 359) hx hb d_Law_law_352 (by decide) (fun c82 => ?_) (fun c82 => ?_)
      · have h := ite_t c82 h
        refine lv_lconst (v := 0) hx hb d_Law_law_359 (by decide) ?_
        refine W.lcmp hx hb d_Law_law_360 ?_
        refine lv_if_eq (tgt := 366) hx hb d_Law_law_361 (by decide) (fun c83 => ?_) (fun c83 => ?_)
        · have h := ite_t c83 h
          refine lv_goto (tgt := 1128) hx hb d_Law_law_366 (by decide) ?_
          refine lv_iinc (v := (x4 + (6 : Int32))) (lv' := [(4, .int (x4 + (6 : Int32))), (6, .int (b2i v75)), (5, .int v64), (0, .ref b), (1, .ref (a0 0)), (2, .ref (a13 0)), (3, .ref (a14 0))]) hx hb d_Law_law_1128 hl (k := 6) rfl rfl (by decide) rfl (fun ls hl => ?_)
          refine lv_goto (tgt := 23) hx hb d_Law_law_1131 (by decide) ?_
          refine W.widen (k := 200 + (it + 1)) (n := 40000 + 6 * (it + 1)) (by omega) (by omega) ?_
          exact hk23 a0 a1 a2 a3 a4 a5 a6 a7 a8 a9 a10 a11 a12 a13 a14 v0 (x4 + (6 : Int32)) o_65 o1 o2 o3 o4 o5 o_67 o_66 o8 o9 o10 o11 o12 o_76 o_68 _ _ _ hN hver hP hS (lv_sub hl [3, 4, 5, 6, 0] rfl) h
        · have h := ite_f c83 h
          refine lv_iconst (v := 0) hx hb d_Law_law_364 (by decide) ?_
          cases h
      · have h := ite_f c82 h
        refine lv_lconst (v := 1) hx hb d_Law_law_355 (by decide) ?_
        refine lv_goto (tgt := 360) hx hb d_Law_law_356 (by decide) ?_
        refine W.lcmp hx hb d_Law_law_360 ?_
        refine lv_if_eq (tgt := 366) hx hb d_Law_law_361 (by decide) (fun c84 => ?_) (fun c84 => ?_)
        · have h := ite_t c84 h
          refine lv_goto (tgt := 1128) hx hb d_Law_law_366 (by decide) ?_
          refine lv_iinc (v := (x4 + (6 : Int32))) (lv' := [(4, .int (x4 + (6 : Int32))), (6, .int (b2i v75)), (5, .int v64), (0, .ref b), (1, .ref (a0 0)), (2, .ref (a13 0)), (3, .ref (a14 0))]) hx hb d_Law_law_1128 hl (k := 6) rfl rfl (by decide) rfl (fun ls hl => ?_)
          refine lv_goto (tgt := 23) hx hb d_Law_law_1131 (by decide) ?_
          refine W.widen (k := 200 + (it + 1)) (n := 40000 + 6 * (it + 1)) (by omega) (by omega) ?_
          exact hk23 a0 a1 a2 a3 a4 a5 a6 a7 a8 a9 a10 a11 a12 a13 a14 v0 (x4 + (6 : Int32)) o_65 o1 o2 o3 o4 o5 o_67 o_66 o8 o9 o10 o11 o12 o_76 o_68 _ _ _ hN hver hP hS (lv_sub hl [3, 4, 5, 6, 0] rfl) h
        · have h := ite_f c84 h
          refine lv_iconst (v := 0) hx hb d_Law_law_364 (by decide) ?_
          cases h
  · have h := ite_f c79 h
    refine lv_iconst (v := 0) hx hb d_Law_law_340 (by decide) ?_
    cases h
