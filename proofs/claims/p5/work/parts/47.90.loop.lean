/-! THE LAW: its loop -/
theorem sw_out0_16 {x : Int32} (h0 : ¬ x = 0) (h1 : ¬ x = 1) (h2 : ¬ x = 2) (h3 : ¬ x = 3) (h4 : ¬ x = 4) (h5 : ¬ x = 5) (h6 : ¬ x = 6) (h7 : ¬ x = 7) (h8 : ¬ x = 8) (h9 : ¬ x = 9) (h10 : ¬ x = 10) (h11 : ¬ x = 11) (h12 : ¬ x = 12) (h13 : ¬ x = 13) (h14 : ¬ x = 14) (h15 : ¬ x = 15) (h16 : ¬ x = 16) : x.toInt < 0 ∨ 16 < x.toInt := by
  have q0 := lv_neT (a := 0) h0 (by decide)
  have q1 := lv_neT (a := 1) h1 (by decide)
  have q2 := lv_neT (a := 2) h2 (by decide)
  have q3 := lv_neT (a := 3) h3 (by decide)
  have q4 := lv_neT (a := 4) h4 (by decide)
  have q5 := lv_neT (a := 5) h5 (by decide)
  have q6 := lv_neT (a := 6) h6 (by decide)
  have q7 := lv_neT (a := 7) h7 (by decide)
  have q8 := lv_neT (a := 8) h8 (by decide)
  have q9 := lv_neT (a := 9) h9 (by decide)
  have q10 := lv_neT (a := 10) h10 (by decide)
  have q11 := lv_neT (a := 11) h11 (by decide)
  have q12 := lv_neT (a := 12) h12 (by decide)
  have q13 := lv_neT (a := 13) h13 (by decide)
  have q14 := lv_neT (a := 14) h14 (by decide)
  have q15 := lv_neT (a := 15) h15 (by decide)
  have q16 := lv_neT (a := 16) h16 (by decide)
  omega
def F_Law_law_23 (L : Nat) (xs : Nat → Int32) : Nat → Int32 → Ob → Ob → Ob → Ob → Ob → Ob → Ob → Ob → Ob → Ob → Ob → Ob → Ob → Ob → Ob → Option Unit
  | 0, _, _, _, _, _, _, _, _, _, _, _, _, _, _, _, _ => none
  | n + 1, x4, o0, o1, o2, o3, o4, o5, o6, o7, o8, o9, o10, o11, o12, o13, o14 =>
    if ((Int32.ofNat L) - (6 : Int32)) < x4 then (some ()) else (chk (inb x4 L) (if ((xs (Int32.toNatClampNeg x4)) &&& (31 : Int32)) = 0 then (F_Law_law_124 L xs (F_Law_law_23 L xs n) x4 o0 o1 o2 o3 o4 o5 o6 o7 o8 o9 o10 o11 o12 o13 o14) else (if ((xs (Int32.toNatClampNeg x4)) &&& (31 : Int32)) = 1 then (F_Law_law_149 L xs (F_Law_law_23 L xs n) x4 o0 o1 o2 o3 o4 o5 o6 o7 o8 o9 o10 o11 o12 o13 o14) else (if ((xs (Int32.toNatClampNeg x4)) &&& (31 : Int32)) = 2 then (F_Law_law_162 L xs (F_Law_law_23 L xs n) x4 o0 o1 o2 o3 o4 o5 o6 o7 o8 o9 o10 o11 o12 o13 o14) else (if ((xs (Int32.toNatClampNeg x4)) &&& (31 : Int32)) = 3 then (F_Law_law_190 L xs (F_Law_law_23 L xs n) x4 o0 o1 o2 o3 o4 o5 o6 o7 o8 o9 o10 o11 o12 o13 o14) else (if ((xs (Int32.toNatClampNeg x4)) &&& (31 : Int32)) = 4 then (F_Law_law_341 L xs (F_Law_law_23 L xs n) x4 o0 o1 o2 o3 o4 o5 o6 o7 o8 o9 o10 o11 o12 o13 o14) else (if ((xs (Int32.toNatClampNeg x4)) &&& (31 : Int32)) = 5 then (F_Law_law_357 L xs (F_Law_law_23 L xs n) x4 o0 o1 o2 o3 o4 o5 o6 o7 o8 o9 o10 o11 o12 o13 o14) else (if ((xs (Int32.toNatClampNeg x4)) &&& (31 : Int32)) = 6 then (F_Law_law_397 L xs (F_Law_law_23 L xs n) x4 o0 o1 o2 o3 o4 o5 o6 o7 o8 o9 o10 o11 o12 o13 o14) else (if ((xs (Int32.toNatClampNeg x4)) &&& (31 : Int32)) = 7 then (F_Law_law_449 L xs (F_Law_law_23 L xs n) x4 o0 o1 o2 o3 o4 o5 o6 o7 o8 o9 o10 o11 o12 o13 o14) else (if ((xs (Int32.toNatClampNeg x4)) &&& (31 : Int32)) = 8 then (F_Law_law_477 L xs (F_Law_law_23 L xs n) x4 o0 o1 o2 o3 o4 o5 o6 o7 o8 o9 o10 o11 o12 o13 o14) else (if ((xs (Int32.toNatClampNeg x4)) &&& (31 : Int32)) = 9 then (F_Law_law_517 L xs (F_Law_law_23 L xs n) x4 o0 o1 o2 o3 o4 o5 o6 o7 o8 o9 o10 o11 o12 o13 o14) else (if ((xs (Int32.toNatClampNeg x4)) &&& (31 : Int32)) = 10 then (F_Law_law_557 L xs (F_Law_law_23 L xs n) x4 o0 o1 o2 o3 o4 o5 o6 o7 o8 o9 o10 o11 o12 o13 o14) else (if ((xs (Int32.toNatClampNeg x4)) &&& (31 : Int32)) = 11 then (F_Law_law_597 L xs (F_Law_law_23 L xs n) x4 o0 o1 o2 o3 o4 o5 o6 o7 o8 o9 o10 o11 o12 o13 o14) else (if ((xs (Int32.toNatClampNeg x4)) &&& (31 : Int32)) = 12 then (F_Law_law_637 L xs (F_Law_law_23 L xs n) x4 o0 o1 o2 o3 o4 o5 o6 o7 o8 o9 o10 o11 o12 o13 o14) else (if ((xs (Int32.toNatClampNeg x4)) &&& (31 : Int32)) = 13 then (F_Law_law_665 L xs (F_Law_law_23 L xs n) x4 o0 o1 o2 o3 o4 o5 o6 o7 o8 o9 o10 o11 o12 o13 o14) else (if ((xs (Int32.toNatClampNeg x4)) &&& (31 : Int32)) = 14 then (F_Law_law_681 L xs (F_Law_law_23 L xs n) x4 o0 o1 o2 o3 o4 o5 o6 o7 o8 o9 o10 o11 o12 o13 o14) else (if ((xs (Int32.toNatClampNeg x4)) &&& (31 : Int32)) = 15 then (F_Law_law_721 L xs (F_Law_law_23 L xs n) x4 o0 o1 o2 o3 o4 o5 o6 o7 o8 o9 o10 o11 o12 o13 o14) else (if ((xs (Int32.toNatClampNeg x4)) &&& (31 : Int32)) = 16 then (F_Law_law_737 L xs (F_Law_law_23 L xs n) x4 o0 o1 o2 o3 o4 o5 o6 o7 o8 o9 o10 o11 o12 o13 o14) else (F_Law_law_23 L xs n (x4 + (6 : Int32)) o0 o1 o2 o3 o4 o5 o6 o7 o8 o9 o10 o11 o12 o13 o14)))))))))))))))))))
set_option maxHeartbeats 8000000 in
set_option maxRecDepth 100000 in
theorem k_Law_law_23 {p : Program} {l : Launch} {e : Env} {s : State} {m : MethodId} {below : List Frame} {meth : Method} {c : Code} {b L : Nat} {xs : Nat → Int32} {A : Nat → Prop} {ct dC : Nat → ClassId} {dI : Nat → Nat → Nat} (C0 : lcx p s m meth c b L xs A ct dC dI) (hl0 : l.stackTraces = false) : ∀ (n it : Nat), it + n ≤ 600 → ∀ (a0 a1 a2 a3 a4 a5 a6 a7 a8 a9 a10 a11 a12 a13 a14 : Nat → Nat) (v0 : Nat → Nat) (x4 : Int32) (o0 o1 o2 o3 o4 o5 o6 o7 o8 o9 o10 o11 o12 o13 o14 : Ob) (H : Heap) (locs : List Loc) (ls : Array Slot), bw_N A [adPF a0, adReader a1, adText a2, adSteps a3, adText a4, adSteps a5, adReckoner a6, adCells a7, adCells a8, adCells a9, adCells a10, adCells a11, adCells a12, adMod a13, adOut a14] → (v0 0 = a9 0 ∧ v0 1 = a10 0 ∧ v0 2 = a11 0 ∧ v0 3 = a12 0) → bw_P (dC, dI) vwCl [wPF ct a0 (a1 0) (a4 0) (a6 0) (a7 0) (a8 0) v0 o0, wReader ct a1 (a2 0) o1, wText ct a2 (a3 0) o2, wSteps ct a3 o3, wText ct a4 (a5 0) o4, wSteps ct a5 o5, wReckoner ct a6 o6, wCells ct a7 o7, wCells ct a8 o8, wCells ct a9 o9, wCells ct a10 o10, wCells ct a11 o11, wCells ct a12 o12, wMod ct a13 o13, wOut ct a14 o14] H → va_S A s.heap H locs → lv_has ls 8 [(0, .ref b), (1, .ref (a0 0)), (2, .ref (a13 0)), (3, .ref (a14 0)), (4, .int x4)] → F_Law_law_23 L xs n x4 o0 o1 o2 o3 o4 o5 o6 o7 o8 o9 o10 o11 o12 o13 o14 = some () → W p l e room_1 s m #[Value.ref b] below meth c H locs (200 + it) (40000 + 6 * it) (lw_Z below #[Value.ref b] s) (F0 m 23 ls []) := by
  obtain ⟨hx, hb, hr, hml, hown, hlocks, hts, hK, hA, hAs, hX, hbl, hnx, hthy, hex9, hsx⟩ := id C0
  have hbA : ¬ A b := fun z => absurd (hAs b z) (Nat.not_le.mpr hbl)
  intro n
  induction n with
  | zero =>
    intro it hit
    intro a0 a1 a2 a3 a4 a5 a6 a7 a8 a9 a10 a11 a12 a13 a14 v0 x4 o0 o1 o2 o3 o4 o5 o6 o7 o8 o9 o10 o11 o12 o13 o14 H locs ls hN hver hP hS hl h
    cases h
  | succ n ih =>
    intro it hit
    intro a0 a1 a2 a3 a4 a5 a6 a7 a8 a9 a10 a11 a12 a13 a14 v0 x4 o0 o1 o2 o3 o4 o5 o6 o7 o8 o9 o10 o11 o12 o13 o14 H locs ls hN hver hP hS hl h
    rw [F_Law_law_23] at h
    refine lv_iload hx hb d_Law_law_23 (lv_at hl 4 rfl) ?_
    refine lv_aload_n hx hb d_Law_law_25 rfl (lv_at hl 0 rfl) ?_
    refine va_slen hx hb hX hbl hbA hS d_Law_law_26 ?_
    refine lv_bipush (v := 6) hx hb d_Law_law_27 (by decide) ?_
    refine lv_isub hx hb d_Law_law_29 ?_
    refine lv_icmp_gt (tgt := 756) hx hb d_Law_law_30 (by decide) (fun c1 => ?_) (fun c1 => ?_)
    · have h := ite_t c1 h
      refine lv_iconst (v := 1) hx hb d_Law_law_756 (by decide) ?_
      refine va_forget (fun q hq => hAs _ (hS.2.2 q hq)) ?_
      refine W.widen (k := 601024) (n := 7293034) (by omega) (by omega) ?_
      exact lw_ret hx hb hr hlocks d_Law_law_757
    · have h := ite_f c1 h
      refine lv_aload_n hx hb d_Law_law_33 rfl (lv_at hl 0 rfl) ?_
      refine lv_iload hx hb d_Law_law_34 (lv_at hl 4 rfl) ?_
      obtain ⟨hi2, h⟩ := chk_some h
      refine va_sld hx hb hX hbl hbA hS (inb_in hi2) d_Law_law_36 ?_
      refine lv_bipush (v := 31) hx hb d_Law_law_37 (by decide) ?_
      refine lv_iand hx hb d_Law_law_39 ?_
      by_cases c3 : ((xs (Int32.toNatClampNeg x4)) &&& (31 : Int32)) = 0
      · have h := ite_t c3 h
        refine lv_tableIn (off := 84) (tgt := 124) hx hb d_Law_law_40 (by rw [c3]; decide) (by rw [c3]; decide) (by rw [c3]; rfl) (by decide) ?_
        exact k_Law_law_124 C0 hl0 (it := it) (by omega) (fun a0 a1 a2 a3 a4 a5 a6 a7 a8 a9 a10 a11 a12 a13 a14 v0 x4 o0 o1 o2 o3 o4 o5 o6 o7 o8 o9 o10 o11 o12 o13 o14 H locs ls => ih (it + 1) (by omega) a0 a1 a2 a3 a4 a5 a6 a7 a8 a9 a10 a11 a12 a13 a14 v0 x4 o0 o1 o2 o3 o4 o5 o6 o7 o8 o9 o10 o11 o12 o13 o14 H locs ls) a0 a1 a2 a3 a4 a5 a6 a7 a8 a9 a10 a11 a12 a13 a14 v0 x4 o0 o1 o2 o3 o4 o5 o6 o7 o8 o9 o10 o11 o12 o13 o14 _ _ _ hN hver hP hS (lv_sub hl [0, 1, 2, 3, 4] rfl) h
      · have h := ite_f c3 h
        by_cases c4 : ((xs (Int32.toNatClampNeg x4)) &&& (31 : Int32)) = 1
        · have h := ite_t c4 h
          refine lv_tableIn (off := 109) (tgt := 149) hx hb d_Law_law_40 (by rw [c4]; decide) (by rw [c4]; decide) (by rw [c4]; rfl) (by decide) ?_
          exact k_Law_law_149 C0 hl0 (it := it) (by omega) (fun a0 a1 a2 a3 a4 a5 a6 a7 a8 a9 a10 a11 a12 a13 a14 v0 x4 o0 o1 o2 o3 o4 o5 o6 o7 o8 o9 o10 o11 o12 o13 o14 H locs ls => ih (it + 1) (by omega) a0 a1 a2 a3 a4 a5 a6 a7 a8 a9 a10 a11 a12 a13 a14 v0 x4 o0 o1 o2 o3 o4 o5 o6 o7 o8 o9 o10 o11 o12 o13 o14 H locs ls) a0 a1 a2 a3 a4 a5 a6 a7 a8 a9 a10 a11 a12 a13 a14 v0 x4 o0 o1 o2 o3 o4 o5 o6 o7 o8 o9 o10 o11 o12 o13 o14 _ _ _ hN hver hP hS (lv_sub hl [0, 1, 2, 3, 4] rfl) h
        · have h := ite_f c4 h
          by_cases c5 : ((xs (Int32.toNatClampNeg x4)) &&& (31 : Int32)) = 2
          · have h := ite_t c5 h
            refine lv_tableIn (off := 122) (tgt := 162) hx hb d_Law_law_40 (by rw [c5]; decide) (by rw [c5]; decide) (by rw [c5]; rfl) (by decide) ?_
            exact k_Law_law_162 C0 hl0 (it := it) (by omega) (fun a0 a1 a2 a3 a4 a5 a6 a7 a8 a9 a10 a11 a12 a13 a14 v0 x4 o0 o1 o2 o3 o4 o5 o6 o7 o8 o9 o10 o11 o12 o13 o14 H locs ls => ih (it + 1) (by omega) a0 a1 a2 a3 a4 a5 a6 a7 a8 a9 a10 a11 a12 a13 a14 v0 x4 o0 o1 o2 o3 o4 o5 o6 o7 o8 o9 o10 o11 o12 o13 o14 H locs ls) a0 a1 a2 a3 a4 a5 a6 a7 a8 a9 a10 a11 a12 a13 a14 v0 x4 o0 o1 o2 o3 o4 o5 o6 o7 o8 o9 o10 o11 o12 o13 o14 _ _ _ hN hver hP hS (lv_sub hl [0, 1, 2, 3, 4] rfl) h
          · have h := ite_f c5 h
            by_cases c6 : ((xs (Int32.toNatClampNeg x4)) &&& (31 : Int32)) = 3
            · have h := ite_t c6 h
              refine lv_tableIn (off := 150) (tgt := 190) hx hb d_Law_law_40 (by rw [c6]; decide) (by rw [c6]; decide) (by rw [c6]; rfl) (by decide) ?_
              exact k_Law_law_190 C0 hl0 (it := it) (by omega) (fun a0 a1 a2 a3 a4 a5 a6 a7 a8 a9 a10 a11 a12 a13 a14 v0 x4 o0 o1 o2 o3 o4 o5 o6 o7 o8 o9 o10 o11 o12 o13 o14 H locs ls => ih (it + 1) (by omega) a0 a1 a2 a3 a4 a5 a6 a7 a8 a9 a10 a11 a12 a13 a14 v0 x4 o0 o1 o2 o3 o4 o5 o6 o7 o8 o9 o10 o11 o12 o13 o14 H locs ls) a0 a1 a2 a3 a4 a5 a6 a7 a8 a9 a10 a11 a12 a13 a14 v0 x4 o0 o1 o2 o3 o4 o5 o6 o7 o8 o9 o10 o11 o12 o13 o14 _ _ _ hN hver hP hS (lv_sub hl [0, 1, 2, 3, 4] rfl) h
            · have h := ite_f c6 h
              by_cases c7 : ((xs (Int32.toNatClampNeg x4)) &&& (31 : Int32)) = 4
              · have h := ite_t c7 h
                refine lv_tableIn (off := 301) (tgt := 341) hx hb d_Law_law_40 (by rw [c7]; decide) (by rw [c7]; decide) (by rw [c7]; rfl) (by decide) ?_
                exact k_Law_law_341 C0 hl0 (it := it) (by omega) (fun a0 a1 a2 a3 a4 a5 a6 a7 a8 a9 a10 a11 a12 a13 a14 v0 x4 o0 o1 o2 o3 o4 o5 o6 o7 o8 o9 o10 o11 o12 o13 o14 H locs ls => ih (it + 1) (by omega) a0 a1 a2 a3 a4 a5 a6 a7 a8 a9 a10 a11 a12 a13 a14 v0 x4 o0 o1 o2 o3 o4 o5 o6 o7 o8 o9 o10 o11 o12 o13 o14 H locs ls) a0 a1 a2 a3 a4 a5 a6 a7 a8 a9 a10 a11 a12 a13 a14 v0 x4 o0 o1 o2 o3 o4 o5 o6 o7 o8 o9 o10 o11 o12 o13 o14 _ _ _ hN hver hP hS (lv_sub hl [0, 1, 2, 3, 4] rfl) h
              · have h := ite_f c7 h
                by_cases c8 : ((xs (Int32.toNatClampNeg x4)) &&& (31 : Int32)) = 5
                · have h := ite_t c8 h
                  refine lv_tableIn (off := 317) (tgt := 357) hx hb d_Law_law_40 (by rw [c8]; decide) (by rw [c8]; decide) (by rw [c8]; rfl) (by decide) ?_
                  exact k_Law_law_357 C0 hl0 (it := it) (by omega) (fun a0 a1 a2 a3 a4 a5 a6 a7 a8 a9 a10 a11 a12 a13 a14 v0 x4 o0 o1 o2 o3 o4 o5 o6 o7 o8 o9 o10 o11 o12 o13 o14 H locs ls => ih (it + 1) (by omega) a0 a1 a2 a3 a4 a5 a6 a7 a8 a9 a10 a11 a12 a13 a14 v0 x4 o0 o1 o2 o3 o4 o5 o6 o7 o8 o9 o10 o11 o12 o13 o14 H locs ls) a0 a1 a2 a3 a4 a5 a6 a7 a8 a9 a10 a11 a12 a13 a14 v0 x4 o0 o1 o2 o3 o4 o5 o6 o7 o8 o9 o10 o11 o12 o13 o14 _ _ _ hN hver hP hS (lv_sub hl [0, 1, 2, 3, 4] rfl) h
                · have h := ite_f c8 h
                  by_cases c9 : ((xs (Int32.toNatClampNeg x4)) &&& (31 : Int32)) = 6
                  · have h := ite_t c9 h
                    refine lv_tableIn (off := 357) (tgt := 397) hx hb d_Law_law_40 (by rw [c9]; decide) (by rw [c9]; decide) (by rw [c9]; rfl) (by decide) ?_
                    exact k_Law_law_397 C0 hl0 (it := it) (by omega) (fun a0 a1 a2 a3 a4 a5 a6 a7 a8 a9 a10 a11 a12 a13 a14 v0 x4 o0 o1 o2 o3 o4 o5 o6 o7 o8 o9 o10 o11 o12 o13 o14 H locs ls => ih (it + 1) (by omega) a0 a1 a2 a3 a4 a5 a6 a7 a8 a9 a10 a11 a12 a13 a14 v0 x4 o0 o1 o2 o3 o4 o5 o6 o7 o8 o9 o10 o11 o12 o13 o14 H locs ls) a0 a1 a2 a3 a4 a5 a6 a7 a8 a9 a10 a11 a12 a13 a14 v0 x4 o0 o1 o2 o3 o4 o5 o6 o7 o8 o9 o10 o11 o12 o13 o14 _ _ _ hN hver hP hS (lv_sub hl [0, 1, 2, 3, 4] rfl) h
                  · have h := ite_f c9 h
                    by_cases c10 : ((xs (Int32.toNatClampNeg x4)) &&& (31 : Int32)) = 7
                    · have h := ite_t c10 h
                      refine lv_tableIn (off := 409) (tgt := 449) hx hb d_Law_law_40 (by rw [c10]; decide) (by rw [c10]; decide) (by rw [c10]; rfl) (by decide) ?_
                      exact k_Law_law_449 C0 hl0 (it := it) (by omega) (fun a0 a1 a2 a3 a4 a5 a6 a7 a8 a9 a10 a11 a12 a13 a14 v0 x4 o0 o1 o2 o3 o4 o5 o6 o7 o8 o9 o10 o11 o12 o13 o14 H locs ls => ih (it + 1) (by omega) a0 a1 a2 a3 a4 a5 a6 a7 a8 a9 a10 a11 a12 a13 a14 v0 x4 o0 o1 o2 o3 o4 o5 o6 o7 o8 o9 o10 o11 o12 o13 o14 H locs ls) a0 a1 a2 a3 a4 a5 a6 a7 a8 a9 a10 a11 a12 a13 a14 v0 x4 o0 o1 o2 o3 o4 o5 o6 o7 o8 o9 o10 o11 o12 o13 o14 _ _ _ hN hver hP hS (lv_sub hl [0, 1, 2, 3, 4] rfl) h
                    · have h := ite_f c10 h
                      by_cases c11 : ((xs (Int32.toNatClampNeg x4)) &&& (31 : Int32)) = 8
                      · have h := ite_t c11 h
                        refine lv_tableIn (off := 437) (tgt := 477) hx hb d_Law_law_40 (by rw [c11]; decide) (by rw [c11]; decide) (by rw [c11]; rfl) (by decide) ?_
                        exact k_Law_law_477 C0 hl0 (it := it) (by omega) (fun a0 a1 a2 a3 a4 a5 a6 a7 a8 a9 a10 a11 a12 a13 a14 v0 x4 o0 o1 o2 o3 o4 o5 o6 o7 o8 o9 o10 o11 o12 o13 o14 H locs ls => ih (it + 1) (by omega) a0 a1 a2 a3 a4 a5 a6 a7 a8 a9 a10 a11 a12 a13 a14 v0 x4 o0 o1 o2 o3 o4 o5 o6 o7 o8 o9 o10 o11 o12 o13 o14 H locs ls) a0 a1 a2 a3 a4 a5 a6 a7 a8 a9 a10 a11 a12 a13 a14 v0 x4 o0 o1 o2 o3 o4 o5 o6 o7 o8 o9 o10 o11 o12 o13 o14 _ _ _ hN hver hP hS (lv_sub hl [0, 1, 2, 3, 4] rfl) h
                      · have h := ite_f c11 h
                        by_cases c12 : ((xs (Int32.toNatClampNeg x4)) &&& (31 : Int32)) = 9
                        · have h := ite_t c12 h
                          refine lv_tableIn (off := 477) (tgt := 517) hx hb d_Law_law_40 (by rw [c12]; decide) (by rw [c12]; decide) (by rw [c12]; rfl) (by decide) ?_
                          exact k_Law_law_517 C0 hl0 (it := it) (by omega) (fun a0 a1 a2 a3 a4 a5 a6 a7 a8 a9 a10 a11 a12 a13 a14 v0 x4 o0 o1 o2 o3 o4 o5 o6 o7 o8 o9 o10 o11 o12 o13 o14 H locs ls => ih (it + 1) (by omega) a0 a1 a2 a3 a4 a5 a6 a7 a8 a9 a10 a11 a12 a13 a14 v0 x4 o0 o1 o2 o3 o4 o5 o6 o7 o8 o9 o10 o11 o12 o13 o14 H locs ls) a0 a1 a2 a3 a4 a5 a6 a7 a8 a9 a10 a11 a12 a13 a14 v0 x4 o0 o1 o2 o3 o4 o5 o6 o7 o8 o9 o10 o11 o12 o13 o14 _ _ _ hN hver hP hS (lv_sub hl [0, 1, 2, 3, 4] rfl) h
                        · have h := ite_f c12 h
                          by_cases c13 : ((xs (Int32.toNatClampNeg x4)) &&& (31 : Int32)) = 10
                          · have h := ite_t c13 h
                            refine lv_tableIn (off := 517) (tgt := 557) hx hb d_Law_law_40 (by rw [c13]; decide) (by rw [c13]; decide) (by rw [c13]; rfl) (by decide) ?_
                            exact k_Law_law_557 C0 hl0 (it := it) (by omega) (fun a0 a1 a2 a3 a4 a5 a6 a7 a8 a9 a10 a11 a12 a13 a14 v0 x4 o0 o1 o2 o3 o4 o5 o6 o7 o8 o9 o10 o11 o12 o13 o14 H locs ls => ih (it + 1) (by omega) a0 a1 a2 a3 a4 a5 a6 a7 a8 a9 a10 a11 a12 a13 a14 v0 x4 o0 o1 o2 o3 o4 o5 o6 o7 o8 o9 o10 o11 o12 o13 o14 H locs ls) a0 a1 a2 a3 a4 a5 a6 a7 a8 a9 a10 a11 a12 a13 a14 v0 x4 o0 o1 o2 o3 o4 o5 o6 o7 o8 o9 o10 o11 o12 o13 o14 _ _ _ hN hver hP hS (lv_sub hl [0, 1, 2, 3, 4] rfl) h
                          · have h := ite_f c13 h
                            by_cases c14 : ((xs (Int32.toNatClampNeg x4)) &&& (31 : Int32)) = 11
                            · have h := ite_t c14 h
                              refine lv_tableIn (off := 557) (tgt := 597) hx hb d_Law_law_40 (by rw [c14]; decide) (by rw [c14]; decide) (by rw [c14]; rfl) (by decide) ?_
                              exact k_Law_law_597 C0 hl0 (it := it) (by omega) (fun a0 a1 a2 a3 a4 a5 a6 a7 a8 a9 a10 a11 a12 a13 a14 v0 x4 o0 o1 o2 o3 o4 o5 o6 o7 o8 o9 o10 o11 o12 o13 o14 H locs ls => ih (it + 1) (by omega) a0 a1 a2 a3 a4 a5 a6 a7 a8 a9 a10 a11 a12 a13 a14 v0 x4 o0 o1 o2 o3 o4 o5 o6 o7 o8 o9 o10 o11 o12 o13 o14 H locs ls) a0 a1 a2 a3 a4 a5 a6 a7 a8 a9 a10 a11 a12 a13 a14 v0 x4 o0 o1 o2 o3 o4 o5 o6 o7 o8 o9 o10 o11 o12 o13 o14 _ _ _ hN hver hP hS (lv_sub hl [0, 1, 2, 3, 4] rfl) h
                            · have h := ite_f c14 h
                              by_cases c15 : ((xs (Int32.toNatClampNeg x4)) &&& (31 : Int32)) = 12
                              · have h := ite_t c15 h
                                refine lv_tableIn (off := 597) (tgt := 637) hx hb d_Law_law_40 (by rw [c15]; decide) (by rw [c15]; decide) (by rw [c15]; rfl) (by decide) ?_
                                exact k_Law_law_637 C0 hl0 (it := it) (by omega) (fun a0 a1 a2 a3 a4 a5 a6 a7 a8 a9 a10 a11 a12 a13 a14 v0 x4 o0 o1 o2 o3 o4 o5 o6 o7 o8 o9 o10 o11 o12 o13 o14 H locs ls => ih (it + 1) (by omega) a0 a1 a2 a3 a4 a5 a6 a7 a8 a9 a10 a11 a12 a13 a14 v0 x4 o0 o1 o2 o3 o4 o5 o6 o7 o8 o9 o10 o11 o12 o13 o14 H locs ls) a0 a1 a2 a3 a4 a5 a6 a7 a8 a9 a10 a11 a12 a13 a14 v0 x4 o0 o1 o2 o3 o4 o5 o6 o7 o8 o9 o10 o11 o12 o13 o14 _ _ _ hN hver hP hS (lv_sub hl [0, 1, 2, 3, 4] rfl) h
                              · have h := ite_f c15 h
                                by_cases c16 : ((xs (Int32.toNatClampNeg x4)) &&& (31 : Int32)) = 13
                                · have h := ite_t c16 h
                                  refine lv_tableIn (off := 625) (tgt := 665) hx hb d_Law_law_40 (by rw [c16]; decide) (by rw [c16]; decide) (by rw [c16]; rfl) (by decide) ?_
                                  exact k_Law_law_665 C0 hl0 (it := it) (by omega) (fun a0 a1 a2 a3 a4 a5 a6 a7 a8 a9 a10 a11 a12 a13 a14 v0 x4 o0 o1 o2 o3 o4 o5 o6 o7 o8 o9 o10 o11 o12 o13 o14 H locs ls => ih (it + 1) (by omega) a0 a1 a2 a3 a4 a5 a6 a7 a8 a9 a10 a11 a12 a13 a14 v0 x4 o0 o1 o2 o3 o4 o5 o6 o7 o8 o9 o10 o11 o12 o13 o14 H locs ls) a0 a1 a2 a3 a4 a5 a6 a7 a8 a9 a10 a11 a12 a13 a14 v0 x4 o0 o1 o2 o3 o4 o5 o6 o7 o8 o9 o10 o11 o12 o13 o14 _ _ _ hN hver hP hS (lv_sub hl [0, 1, 2, 3, 4] rfl) h
                                · have h := ite_f c16 h
                                  by_cases c17 : ((xs (Int32.toNatClampNeg x4)) &&& (31 : Int32)) = 14
                                  · have h := ite_t c17 h
                                    refine lv_tableIn (off := 641) (tgt := 681) hx hb d_Law_law_40 (by rw [c17]; decide) (by rw [c17]; decide) (by rw [c17]; rfl) (by decide) ?_
                                    exact k_Law_law_681 C0 hl0 (it := it) (by omega) (fun a0 a1 a2 a3 a4 a5 a6 a7 a8 a9 a10 a11 a12 a13 a14 v0 x4 o0 o1 o2 o3 o4 o5 o6 o7 o8 o9 o10 o11 o12 o13 o14 H locs ls => ih (it + 1) (by omega) a0 a1 a2 a3 a4 a5 a6 a7 a8 a9 a10 a11 a12 a13 a14 v0 x4 o0 o1 o2 o3 o4 o5 o6 o7 o8 o9 o10 o11 o12 o13 o14 H locs ls) a0 a1 a2 a3 a4 a5 a6 a7 a8 a9 a10 a11 a12 a13 a14 v0 x4 o0 o1 o2 o3 o4 o5 o6 o7 o8 o9 o10 o11 o12 o13 o14 _ _ _ hN hver hP hS (lv_sub hl [0, 1, 2, 3, 4] rfl) h
                                  · have h := ite_f c17 h
                                    by_cases c18 : ((xs (Int32.toNatClampNeg x4)) &&& (31 : Int32)) = 15
                                    · have h := ite_t c18 h
                                      refine lv_tableIn (off := 681) (tgt := 721) hx hb d_Law_law_40 (by rw [c18]; decide) (by rw [c18]; decide) (by rw [c18]; rfl) (by decide) ?_
                                      exact k_Law_law_721 C0 hl0 (it := it) (by omega) (fun a0 a1 a2 a3 a4 a5 a6 a7 a8 a9 a10 a11 a12 a13 a14 v0 x4 o0 o1 o2 o3 o4 o5 o6 o7 o8 o9 o10 o11 o12 o13 o14 H locs ls => ih (it + 1) (by omega) a0 a1 a2 a3 a4 a5 a6 a7 a8 a9 a10 a11 a12 a13 a14 v0 x4 o0 o1 o2 o3 o4 o5 o6 o7 o8 o9 o10 o11 o12 o13 o14 H locs ls) a0 a1 a2 a3 a4 a5 a6 a7 a8 a9 a10 a11 a12 a13 a14 v0 x4 o0 o1 o2 o3 o4 o5 o6 o7 o8 o9 o10 o11 o12 o13 o14 _ _ _ hN hver hP hS (lv_sub hl [0, 1, 2, 3, 4] rfl) h
                                    · have h := ite_f c18 h
                                      by_cases c19 : ((xs (Int32.toNatClampNeg x4)) &&& (31 : Int32)) = 16
                                      · have h := ite_t c19 h
                                        refine lv_tableIn (off := 697) (tgt := 737) hx hb d_Law_law_40 (by rw [c19]; decide) (by rw [c19]; decide) (by rw [c19]; rfl) (by decide) ?_
                                        exact k_Law_law_737 C0 hl0 (it := it) (by omega) (fun a0 a1 a2 a3 a4 a5 a6 a7 a8 a9 a10 a11 a12 a13 a14 v0 x4 o0 o1 o2 o3 o4 o5 o6 o7 o8 o9 o10 o11 o12 o13 o14 H locs ls => ih (it + 1) (by omega) a0 a1 a2 a3 a4 a5 a6 a7 a8 a9 a10 a11 a12 a13 a14 v0 x4 o0 o1 o2 o3 o4 o5 o6 o7 o8 o9 o10 o11 o12 o13 o14 H locs ls) a0 a1 a2 a3 a4 a5 a6 a7 a8 a9 a10 a11 a12 a13 a14 v0 x4 o0 o1 o2 o3 o4 o5 o6 o7 o8 o9 o10 o11 o12 o13 o14 _ _ _ hN hver hP hS (lv_sub hl [0, 1, 2, 3, 4] rfl) h
                                      · have h := ite_f c19 h
                                        refine lv_tableOut (tgt := 750) hx hb d_Law_law_40 (sw_out0_16 c3 c4 c5 c6 c7 c8 c9 c10 c11 c12 c13 c14 c15 c16 c17 c18 c19) (by decide) ?_
                                        refine lv_iinc (v := (x4 + (6 : Int32))) (lv' := [(4, .int (x4 + (6 : Int32))), (0, .ref b), (1, .ref (a0 0)), (2, .ref (a13 0)), (3, .ref (a14 0))]) hx hb d_Law_law_750 hl (k := 4) rfl rfl (by decide) rfl (fun ls hl => ?_)
                                        refine lv_goto (tgt := 23) hx hb d_Law_law_753 (by decide) ?_
                                        refine W.widen (k := 200 + (it + 1)) (n := 40000 + 6 * (it + 1)) (by omega) (by omega) ?_
                                        exact ih (it + 1) (by omega) a0 a1 a2 a3 a4 a5 a6 a7 a8 a9 a10 a11 a12 a13 a14 v0 (x4 + (6 : Int32)) o0 o1 o2 o3 o4 o5 o6 o7 o8 o9 o10 o11 o12 o13 o14 _ _ _ hN hver hP hS (lv_sub hl [1, 2, 3, 4, 0] rfl) h
