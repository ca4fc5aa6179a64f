/-! 08.jdk -/
abbrev b_PF_commonDivisor : ByteArray := prog_1_method_25_code
def y_PF_commonDivisor : MethodName := ⟨R_PF, "commonDivisor", "(JJ)J"⟩
abbrev b_JLong_compare : ByteArray := prog_14_method_42_code
def y_JLong_compare : MethodName := ⟨R_JLong, "compare", "(JJ)I"⟩
theorem d_PF_commonDivisor_0 : decode b_PF_commonDivisor 0 = .ok (.lload_n 0, 1) := by decide +kernel
theorem d_PF_commonDivisor_1 : decode b_PF_commonDivisor 1 = .ok (.lconst 0, 1) := by decide +kernel
theorem d_PF_commonDivisor_2 : decode b_PF_commonDivisor 2 = .ok (.lcmp, 1) := by decide +kernel
theorem d_PF_commonDivisor_3 : decode b_PF_commonDivisor 3 = .ok (.ifCond .ge 8, 3) := by decide +kernel
theorem d_PF_commonDivisor_6 : decode b_PF_commonDivisor 6 = .ok (.lload_n 0, 1) := by decide +kernel
theorem d_PF_commonDivisor_7 : decode b_PF_commonDivisor 7 = .ok (.lneg, 1) := by decide +kernel
theorem d_PF_commonDivisor_8 : decode b_PF_commonDivisor 8 = .ok (.goto 4, 3) := by decide +kernel
theorem d_PF_commonDivisor_11 : decode b_PF_commonDivisor 11 = .ok (.lload_n 0, 1) := by decide +kernel
theorem d_PF_commonDivisor_12 : decode b_PF_commonDivisor 12 = .ok (.lstore 4, 2) := by decide +kernel
theorem d_PF_commonDivisor_14 : decode b_PF_commonDivisor 14 = .ok (.lload_n 2, 1) := by decide +kernel
theorem d_PF_commonDivisor_15 : decode b_PF_commonDivisor 15 = .ok (.lstore 6, 2) := by decide +kernel
theorem d_PF_commonDivisor_17 : decode b_PF_commonDivisor 17 = .ok (.iconst 0, 1) := by decide +kernel
theorem d_PF_commonDivisor_18 : decode b_PF_commonDivisor 18 = .ok (.istore 8, 2) := by decide +kernel
theorem d_PF_commonDivisor_20 : decode b_PF_commonDivisor 20 = .ok (.iload 8, 2) := by decide +kernel
theorem d_PF_commonDivisor_22 : decode b_PF_commonDivisor 22 = .ok (.bipush 100, 2) := by decide +kernel
theorem d_PF_commonDivisor_24 : decode b_PF_commonDivisor 24 = .ok (.if_icmp .ge 31, 3) := by decide +kernel
theorem d_PF_commonDivisor_27 : decode b_PF_commonDivisor 27 = .ok (.lload 4, 2) := by decide +kernel
theorem d_PF_commonDivisor_29 : decode b_PF_commonDivisor 29 = .ok (.lconst 0, 1) := by decide +kernel
theorem d_PF_commonDivisor_30 : decode b_PF_commonDivisor 30 = .ok (.lcmp, 1) := by decide +kernel
theorem d_PF_commonDivisor_31 : decode b_PF_commonDivisor 31 = .ok (.ifCond .le 24, 3) := by decide +kernel
theorem d_PF_commonDivisor_34 : decode b_PF_commonDivisor 34 = .ok (.lload 6, 2) := by decide +kernel
theorem d_PF_commonDivisor_36 : decode b_PF_commonDivisor 36 = .ok (.lload 4, 2) := by decide +kernel
theorem d_PF_commonDivisor_38 : decode b_PF_commonDivisor 38 = .ok (.lrem, 1) := by decide +kernel
theorem d_PF_commonDivisor_39 : decode b_PF_commonDivisor 39 = .ok (.lstore 9, 2) := by decide +kernel
theorem d_PF_commonDivisor_41 : decode b_PF_commonDivisor 41 = .ok (.lload 4, 2) := by decide +kernel
theorem d_PF_commonDivisor_43 : decode b_PF_commonDivisor 43 = .ok (.lstore 6, 2) := by decide +kernel
theorem d_PF_commonDivisor_45 : decode b_PF_commonDivisor 45 = .ok (.lload 9, 2) := by decide +kernel
theorem d_PF_commonDivisor_47 : decode b_PF_commonDivisor 47 = .ok (.lstore 4, 2) := by decide +kernel
theorem d_PF_commonDivisor_49 : decode b_PF_commonDivisor 49 = .ok (.iinc 8 1, 3) := by decide +kernel
theorem d_PF_commonDivisor_52 : decode b_PF_commonDivisor 52 = .ok (.goto (-32), 3) := by decide +kernel
theorem d_PF_commonDivisor_55 : decode b_PF_commonDivisor 55 = .ok (.lload 6, 2) := by decide +kernel
theorem d_PF_commonDivisor_57 : decode b_PF_commonDivisor 57 = .ok (.lreturn, 1) := by decide +kernel
theorem d_JLong_compare_0 : decode b_JLong_compare 0 = .ok (.lload_n 0, 1) := by decide +kernel
theorem d_JLong_compare_1 : decode b_JLong_compare 1 = .ok (.lload_n 2, 1) := by decide +kernel
theorem d_JLong_compare_2 : decode b_JLong_compare 2 = .ok (.lcmp, 1) := by decide +kernel
theorem d_JLong_compare_3 : decode b_JLong_compare 3 = .ok (.ifCond .ge 7, 3) := by decide +kernel
theorem d_JLong_compare_6 : decode b_JLong_compare 6 = .ok (.iconst (-1), 1) := by decide +kernel
theorem d_JLong_compare_7 : decode b_JLong_compare 7 = .ok (.goto 14, 3) := by decide +kernel
theorem d_JLong_compare_10 : decode b_JLong_compare 10 = .ok (.lload_n 0, 1) := by decide +kernel
theorem d_JLong_compare_11 : decode b_JLong_compare 11 = .ok (.lload_n 2, 1) := by decide +kernel
theorem d_JLong_compare_12 : decode b_JLong_compare 12 = .ok (.lcmp, 1) := by decide +kernel
theorem d_JLong_compare_13 : decode b_JLong_compare 13 = .ok (.ifCond .ne 7, 3) := by decide +kernel
theorem d_JLong_compare_16 : decode b_JLong_compare 16 = .ok (.iconst 0, 1) := by decide +kernel
theorem d_JLong_compare_17 : decode b_JLong_compare 17 = .ok (.goto 4, 3) := by decide +kernel
theorem d_JLong_compare_20 : decode b_JLong_compare 20 = .ok (.iconst 1, 1) := by decide +kernel
theorem d_JLong_compare_21 : decode b_JLong_compare 21 = .ok (.ireturn, 1) := by decide +kernel
def F_PF_commonDivisor_20  : Nat → Int64 → Int64 → Int32 → Option (Int64)
  | 0, _, _, _ => none
  | n + 1, x4, x6, x8 =>
    if (100 : Int32) ≤ x8 then (some x6) else (if (lg_cmp x4 (0 : Int64)) ≤ 0 then (some x6) else (chk (decide (¬ x4 = 0)) (F_PF_commonDivisor_20 n (x6 - x6 / x4 * x4) x4 (x8 + (1 : Int32)))))
def F_PF_commonDivisor (x0 : Int64) (x2 : Int64)  : Option (Int64) :=
  if 0 ≤ (lg_cmp x0 (0 : Int64)) then (F_PF_commonDivisor_20 fuel x0 x2 (0 : Int32)) else (F_PF_commonDivisor_20 fuel (-x0) x2 (0 : Int32))
abbrev ws_PF_commonDivisor : List Cond := Cond.code y_PF_commonDivisor b_PF_commonDivisor 11 (some .long) :: wsAll
abbrev rm_PF_commonDivisor : Room := { frames := 0, cells := 0, slots := 0, locals := 0 }
set_option maxHeartbeats 4000000 in
set_option maxRecDepth 100000 in
theorem k_PF_commonDivisor_20 {p : Program} {l : Launch} {e : Env} {s : State} {m : MethodId} {args : Array Value} {below : List Frame} {meth : Method} {c : Code} {A : Nat → Prop} {ct dC : Nat → ClassId} {dI : Nat → Nat → Nat}   {r : Int64}   (C0 : cx wsAll vwCl nx p s m args meth c (dC, dI) (tyA ct) b_PF_commonDivisor 11 (some .long) R_PF A [])  : ∀ (n : Nat) (x4 : Int64) (x6 : Int64) (x8 : Int32) (H : Heap) (locs : List Loc) (ls : Array Slot), bw_P (dC, dI) vwCl [] H → (H = s.heap ∧ locs = []) → lv_has ls 11 [(4, .long x4), (6, .long x6), (8, .int x8)] → F_PF_commonDivisor_20 n x4 x6 x8 = some r → W p l e (headSpec ws_PF_commonDivisor rm_PF_commonDivisor).room s m args below meth c H locs 0 0 (MQ below (bw_QR (some (.long r))) args s 0 0 (fun _ => False)) (F0 m 20 ls []) := by
  obtain ⟨hx, hb, hr, hml, hown, hlocks, hts, hK, hN, hA, hnx⟩ := id C0
  intro n
  induction n with
  | zero =>
    intro x4 x6 x8 H locs ls hP hS hl h
    cases h
  | succ n ih =>
    intro x4 x6 x8 H locs ls hP hS hl h
    rw [F_PF_commonDivisor_20] at h
    refine lv_iload hx hb d_PF_commonDivisor_20 (lv_at hl 2 rfl) ?_
    refine lv_bipush (v := 100) hx hb d_PF_commonDivisor_22 (by decide) ?_
    refine lv_icmp_ge (tgt := 55) hx hb d_PF_commonDivisor_24 (by decide) (fun c2 => ?_) (fun c2 => ?_)
    · have h := ite_t c2 h
      refine lv_lload hx hb d_PF_commonDivisor_55 (lv_at hl 1 rfl) ?_
      obtain rfl := res1 h
      exact W.lret hx hb hr (fun t ht hW => ⟨rfl, ht.trans hS.1⟩) (bw_nil hS.2) d_PF_commonDivisor_57
    · have h := ite_f c2 h
      refine lv_lload hx hb d_PF_commonDivisor_27 (lv_at hl 0 rfl) ?_
      refine lv_lconst (v := 0) hx hb d_PF_commonDivisor_29 (by decide) ?_
      refine W.lcmp hx hb d_PF_commonDivisor_30 ?_
      refine lv_if_le (tgt := 55) hx hb d_PF_commonDivisor_31 (by decide) (fun c3 => ?_) (fun c3 => ?_)
      · have h := ite_t c3 h
        refine lv_lload hx hb d_PF_commonDivisor_55 (lv_at hl 1 rfl) ?_
        obtain rfl := res1 h
        exact W.lret hx hb hr (fun t ht hW => ⟨rfl, ht.trans hS.1⟩) (bw_nil hS.2) d_PF_commonDivisor_57
      · have h := ite_f c3 h
        refine lv_lload hx hb d_PF_commonDivisor_34 (lv_at hl 1 rfl) ?_
        refine lv_lload hx hb d_PF_commonDivisor_36 (lv_at hl 0 rfl) ?_
        obtain ⟨hz4, h⟩ := chk_some h
        refine lv_lrem hx hb d_PF_commonDivisor_38 (of_decide_eq_true hz4) ?_
        refine lv_lstore (lv' := [(9, .long (x6 - x6 / x4 * x4)), (4, .long x4), (6, .long x6), (8, .int x8)]) hx hb d_PF_commonDivisor_39 hl (by decide) rfl (fun ls hl => ?_)
        refine lv_lload hx hb d_PF_commonDivisor_41 (lv_at hl 1 rfl) ?_
        refine lv_lstore (lv' := [(6, .long x4), (9, .long (x6 - x6 / x4 * x4)), (4, .long x4), (8, .int x8)]) hx hb d_PF_commonDivisor_43 hl (by decide) rfl (fun ls hl => ?_)
        refine lv_lload hx hb d_PF_commonDivisor_45 (lv_at hl 1 rfl) ?_
        refine lv_lstore (lv' := [(4, .long (x6 - x6 / x4 * x4)), (6, .long x4), (9, .long (x6 - x6 / x4 * x4)), (8, .int x8)]) hx hb d_PF_commonDivisor_47 hl (by decide) rfl (fun ls hl => ?_)
        refine lv_iinc (v := (x8 + (1 : Int32))) (lv' := [(8, .int (x8 + (1 : Int32))), (4, .long (x6 - x6 / x4 * x4)), (6, .long x4), (9, .long (x6 - x6 / x4 * x4))]) hx hb d_PF_commonDivisor_49 hl (k := 3) rfl rfl (by decide) rfl (fun ls hl => ?_)
        refine lv_goto (tgt := 20) hx hb d_PF_commonDivisor_52 (by decide) ?_
        exact ih (x6 - x6 / x4 * x4) x4 (x8 + (1 : Int32)) _ _ _ hP hS (lv_sub hl [1, 2, 0] rfl) h
set_option maxHeartbeats 4000000 in
set_option maxRecDepth 100000 in
theorem c_PF_commonDivisor (l : Launch) (ct dC : Nat → ClassId) (dI : Nat → Nat → Nat)   (sz : Nat) (x0 : Int64) (x2 : Int64)  (r : Int64) (hF : F_PF_commonDivisor x0 x2 = some r) : Met l y_PF_commonDivisor ws_PF_commonDivisor rm_PF_commonDivisor (bw_Pc [.long x0, .long x2] (dC, dI) vwCl (tyA ct) [] sz nx) (bw_QR (some (.long r))) 0 0 (fun _ => False) := by
  refine Met.ofW (cc := b_PF_commonDivisor) (maxL := 11) (ret := (some .long)) (by decide) rfl ?_
  intro p e s m args below meth c s₁ B hml hv
  obtain ⟨rfl, hsz, hP, hK, hN0, hnx⟩ := hv
  have hx := B.exec
  have hb := B.bytes
  have hr := B.returns
  have hts : ∀ w ∈ wsAll, w.before [.long x0, .long x2].toArray s = true := fun w h9 => atoms_spec (ws := ws_PF_commonDivisor) B.pre w (List.mem_cons_of_mem _ h9)
  have hown : s.vm.findClass R_PF = some m.cls := findClass_of_methodNamed B.named
  have hlocks := B.notSynchronized
  subst hsz
  have hN : bw_N (fun _ => True) [] := hN0
  generalize hAe : (fun _ : Nat => True) = A at hN
  have hA : ∀ q : Nat, s.heap.size ≤ q → A q := fun q _ => by rw [← hAe]; trivial
  have hS : s.heap = s.heap ∧ ([] : List Loc) = [] := ⟨rfl, rfl⟩
  have hl := lv_entry ([.long x0, .long x2]) (n := 11) (Nat.le_of_ble_eq_true rfl)
  rw [lg_entry_eq]
  generalize (lg_sl ([.long x0, .long x2]) ++ List.replicate (11 - (lg_sl ([.long x0, .long x2])).length) Slot.unset).toArray = ls at hl ⊢
  have hl : lv_has ls 11 [(0, .long x0), (2, .long x2)] := hl
  have C0 : cx wsAll vwCl nx p s m [.long x0, .long x2].toArray meth c (dC, dI) (tyA ct) b_PF_commonDivisor 11 (some .long) R_PF A [] := ⟨hx, hb, hr, hml, hown, hlocks, hts, hK, hN, hA, hnx⟩
  have h := hF
  rw [F_PF_commonDivisor] at h
  refine lv_lload_n hx hb d_PF_commonDivisor_0 rfl (lv_at hl 0 rfl) ?_
  refine lv_lconst (v := 0) hx hb d_PF_commonDivisor_1 (by decide) ?_
  refine W.lcmp hx hb d_PF_commonDivisor_2 ?_
  refine lv_if_ge (tgt := 11) hx hb d_PF_commonDivisor_3 (by decide) (fun c1 => ?_) (fun c1 => ?_)
  · have h := ite_t c1 h
    refine lv_lload_n hx hb d_PF_commonDivisor_11 rfl (lv_at hl 0 rfl) ?_
    refine lv_lstore (lv' := [(4, .long x0), (0, .long x0), (2, .long x2)]) hx hb d_PF_commonDivisor_12 hl (by decide) rfl (fun ls hl => ?_)
    refine lv_lload_n hx hb d_PF_commonDivisor_14 rfl (lv_at hl 2 rfl) ?_
    refine lv_lstore (lv' := [(6, .long x2), (4, .long x0), (0, .long x0), (2, .long x2)]) hx hb d_PF_commonDivisor_15 hl (by decide) rfl (fun ls hl => ?_)
    refine lv_iconst (v := 0) hx hb d_PF_commonDivisor_17 (by decide) ?_
    refine lv_istore (lv' := [(8, .int (0 : Int32)), (6, .long x2), (4, .long x0), (0, .long x0), (2, .long x2)]) hx hb d_PF_commonDivisor_18 hl (by decide) rfl (fun ls hl => ?_)
    exact k_PF_commonDivisor_20 C0 fuel x0 x2 (0 : Int32) _ _ _ hP hS (lv_sub hl [2, 1, 0] rfl) h
  · have h := ite_f c1 h
    refine lv_lload_n hx hb d_PF_commonDivisor_6 rfl (lv_at hl 0 rfl) ?_
    refine lv_lneg hx hb d_PF_commonDivisor_7 ?_
    refine lv_goto (tgt := 12) hx hb d_PF_commonDivisor_8 (by decide) ?_
    refine lv_lstore (lv' := [(4, .long (-x0)), (0, .long x0), (2, .long x2)]) hx hb d_PF_commonDivisor_12 hl (by decide) rfl (fun ls hl => ?_)
    refine lv_lload_n hx hb d_PF_commonDivisor_14 rfl (lv_at hl 2 rfl) ?_
    refine lv_lstore (lv' := [(6, .long x2), (4, .long (-x0)), (0, .long x0), (2, .long x2)]) hx hb d_PF_commonDivisor_15 hl (by decide) rfl (fun ls hl => ?_)
    refine lv_iconst (v := 0) hx hb d_PF_commonDivisor_17 (by decide) ?_
    refine lv_istore (lv' := [(8, .int (0 : Int32)), (6, .long x2), (4, .long (-x0)), (0, .long x0), (2, .long x2)]) hx hb d_PF_commonDivisor_18 hl (by decide) rfl (fun ls hl => ?_)
    exact k_PF_commonDivisor_20 C0 fuel (-x0) x2 (0 : Int32) _ _ _ hP hS (lv_sub hl [2, 1, 0] rfl) h
def F_JLong_compare (x0 : Int64) (x2 : Int64)  : Option (Int32) :=
  if 0 ≤ (lg_cmp x0 x2) then (if (lg_cmp x0 x2) = 0 then (some (0 : Int32)) else (some (1 : Int32))) else (some (-1 : Int32))
abbrev ws_JLong_compare : List Cond := Cond.code y_JLong_compare b_JLong_compare 4 (some .int) :: wsAll
abbrev rm_JLong_compare : Room := { frames := 0, cells := 0, slots := 0, locals := 0 }
set_option maxHeartbeats 4000000 in
set_option maxRecDepth 100000 in
theorem c_JLong_compare (l : Launch) (ct dC : Nat → ClassId) (dI : Nat → Nat → Nat)   (sz : Nat) (x0 : Int64) (x2 : Int64)  (r : Int32) (hF : F_JLong_compare x0 x2 = some r) : Met l y_JLong_compare ws_JLong_compare rm_JLong_compare (bw_Pc [.long x0, .long x2] (dC, dI) vwCl (tyA ct) [] sz nx) (bw_QR (some (.int r))) 0 0 (fun _ => False) := by
  refine Met.ofW (cc := b_JLong_compare) (maxL := 4) (ret := (some .int)) (by decide) rfl ?_
  intro p e s m args below meth c s₁ B hml hv
  obtain ⟨rfl, hsz, hP, hK, hN0, hnx⟩ := hv
  have hx := B.exec
  have hb := B.bytes
  have hr := B.returns
  have hts : ∀ w ∈ wsAll, w.before [.long x0, .long x2].toArray s = true := fun w h9 => atoms_spec (ws := ws_JLong_compare) B.pre w (List.mem_cons_of_mem _ h9)
  have hown : s.vm.findClass R_JLong = some m.cls := findClass_of_methodNamed B.named
  have hlocks := B.notSynchronized
  subst hsz
  have hN : bw_N (fun _ => True) [] := hN0
  generalize hAe : (fun _ : Nat => True) = A at hN
  have hA : ∀ q : Nat, s.heap.size ≤ q → A q := fun q _ => by rw [← hAe]; trivial
  have hS : s.heap = s.heap ∧ ([] : List Loc) = [] := ⟨rfl, rfl⟩
  have hl := lv_entry ([.long x0, .long x2]) (n := 4) (Nat.le_of_ble_eq_true rfl)
  rw [lg_entry_eq]
  generalize (lg_sl ([.long x0, .long x2]) ++ List.replicate (4 - (lg_sl ([.long x0, .long x2])).length) Slot.unset).toArray = ls at hl ⊢
  have hl : lv_has ls 4 [(0, .long x0), (2, .long x2)] := hl
  have C0 : cx wsAll vwCl nx p s m [.long x0, .long x2].toArray meth c (dC, dI) (tyA ct) b_JLong_compare 4 (some .int) R_JLong A [] := ⟨hx, hb, hr, hml, hown, hlocks, hts, hK, hN, hA, hnx⟩
  have h := hF
  rw [F_JLong_compare] at h
  refine lv_lload_n hx hb d_JLong_compare_0 rfl (lv_at hl 0 rfl) ?_
  refine lv_lload_n hx hb d_JLong_compare_1 rfl (lv_at hl 1 rfl) ?_
  refine W.lcmp hx hb d_JLong_compare_2 ?_
  refine lv_if_ge (tgt := 10) hx hb d_JLong_compare_3 (by decide) (fun c1 => ?_) (fun c1 => ?_)
  · have h := ite_t c1 h
    refine lv_lload_n hx hb d_JLong_compare_10 rfl (lv_at hl 0 rfl) ?_
    refine lv_lload_n hx hb d_JLong_compare_11 rfl (lv_at hl 1 rfl) ?_
    refine W.lcmp hx hb d_JLong_compare_12 ?_
    refine lv_if_ne (tgt := 20) hx hb d_JLong_compare_13 (by decide) (fun c2 => ?_) (fun c2 => ?_)
    · have h := ite_f c2 h
      refine lv_iconst (v := 1) hx hb d_JLong_compare_20 (by decide) ?_
      obtain rfl := res1 h
      exact W.iret hx hb hr (fun t ht hW => ⟨rfl, ht.trans hS.1⟩) (bw_nil hS.2) d_JLong_compare_21
    · have h := ite_t c2 h
      refine lv_iconst (v := 0) hx hb d_JLong_compare_16 (by decide) ?_
      refine lv_goto (tgt := 21) hx hb d_JLong_compare_17 (by decide) ?_
      obtain rfl := res1 h
      exact W.iret hx hb hr (fun t ht hW => ⟨rfl, ht.trans hS.1⟩) (bw_nil hS.2) d_JLong_compare_21
  · have h := ite_f c1 h
    refine lv_iconst (v := -1) hx hb d_JLong_compare_6 (by decide) ?_
    refine lv_goto (tgt := 21) hx hb d_JLong_compare_7 (by decide) ?_
    obtain rfl := res1 h
    exact W.iret hx hb hr (fun t ht hW => ⟨rfl, ht.trans hS.1⟩) (bw_nil hS.2) d_JLong_compare_21
