set_option maxHeartbeats 1000000 in
theorem t_Steps_clear (o0 : Ob) (g0 : okSteps o0) : ∃ (n0 : Ob), F_Steps_clear o0 = some n0 ∧ (okSteps n0) := by
  obtain ⟨f1, f2, f3, f4, f5, f6⟩ := id g0
  rw [F_Steps_clear]
  rw [show (inb (0 : Int32) 401) = true from inb_iff.mpr ⟨tu_, tu_⟩, chk_tr]
  refine ⟨_, rfl, ok6_⟩
set_option maxHeartbeats 1000000 in
theorem t_Steps_add (x1 : Int32) (x2 : Int32) (x3 : Int32) (o0 : Ob) (g0 : okSteps o0) (g1 : x1 = 2 → 0 ≤ x2.toInt ∧ x2.toInt < 8) (g2 : x1 = 3 → 0 ≤ x2.toInt ∧ x2.toInt < 60) : ∃ (n0 : Ob), F_Steps_add x1 x2 x3 o0 = some n0 ∧ (okSteps n0) ∧ ((g32 n0 6 0).toInt = (g32 o0 6 0).toInt) := by
  obtain ⟨f7, f8, f9, f10, f11, f12⟩ := id g0
  rw [F_Steps_add]
  by_cases c13 : (400 : Int32) ≤ (g32 o0 3 0)
  · rw [if_pos c13]
    (try simp (disch := (first | omega | (simp only [Int32.reduceToInt]; omega) | (simp (disch := first | omega | (simp only [Int32.reduceToInt]; omega)) only [tadd, tsub, mul6, neg1, Int32.reduceToInt]; omega))) only [neg1, mul6, g_s, g_l, tadd, tsub, inb_iff, Int32.lt_iff_toInt_lt, Int32.le_iff_toInt_le, i32_eq, b2i_0, Int32.reduceToInt, reduceIte, Nat.reduceEqDiff] at c13)
    refine ⟨_, rfl, ok6_, tu_⟩
  · rw [if_neg c13]
    (try simp (disch := (first | omega | (simp only [Int32.reduceToInt]; omega) | (simp (disch := first | omega | (simp only [Int32.reduceToInt]; omega)) only [tadd, tsub, mul6, neg1, Int32.reduceToInt]; omega))) only [neg1, mul6, g_s, g_l, tadd, tsub, inb_iff, Int32.lt_iff_toInt_lt, Int32.le_iff_toInt_le, i32_eq, b2i_0, Int32.reduceToInt, reduceIte, Nat.reduceEqDiff] at c13)
    rw [show (inb (g32 o0 3 0) 400) = true from inb_iff.mpr ⟨tu_, tu_⟩, chk_tr]
    refine ⟨_, rfl, ok6_, tu_⟩
set_option maxHeartbeats 1000000 in
theorem t_Steps_endExpression (x1 : Int32) (o0 : Ob) (g0 : okSteps o0) : ∃ (n0 : Ob), F_Steps_endExpression x1 o0 = some n0 ∧ (okSteps n0) := by
  obtain ⟨f14, f15, f16, f17, f18, f19⟩ := id g0
  rw [F_Steps_endExpression]
  by_cases c20 : (400 : Int32) ≤ (g32 o0 6 0)
  · rw [if_pos c20]
    (try simp (disch := (first | omega | (simp only [Int32.reduceToInt]; omega) | (simp (disch := first | omega | (simp only [Int32.reduceToInt]; omega)) only [tadd, tsub, mul6, neg1, Int32.reduceToInt]; omega))) only [neg1, mul6, g_s, g_l, tadd, tsub, inb_iff, Int32.lt_iff_toInt_lt, Int32.le_iff_toInt_le, i32_eq, b2i_0, Int32.reduceToInt, reduceIte, Nat.reduceEqDiff] at c20)
    refine ⟨_, rfl, ok6_⟩
  · rw [if_neg c20]
    (try simp (disch := (first | omega | (simp only [Int32.reduceToInt]; omega) | (simp (disch := first | omega | (simp only [Int32.reduceToInt]; omega)) only [tadd, tsub, mul6, neg1, Int32.reduceToInt]; omega))) only [neg1, mul6, g_s, g_l, tadd, tsub, inb_iff, Int32.lt_iff_toInt_lt, Int32.le_iff_toInt_le, i32_eq, b2i_0, Int32.reduceToInt, reduceIte, Nat.reduceEqDiff] at c20)
    rw [show (inb (g32 o0 6 0) 401) = true from inb_iff.mpr ⟨tu_, tu_⟩, chk_tr]
    rw [show (inb ((g32 o0 6 0) + (1 : Int32)) 401) = true from inb_iff.mpr ⟨tu_, tu_⟩, chk_tr]
    refine ⟨_, rfl, ok6_⟩
set_option maxHeartbeats 1000000 in
theorem t_Text_clear_24  : ∀ (n : Nat) (x1 : Int32) (o0 : Ob) (o1 : Ob), (okText o0) → (okSteps o1) → (0 ≤ x1.toInt) → (x1.toInt ≤ 60) → ((g32 o0 1 0).toInt = 0) → ((g32 o0 3 0).toInt = 0) → ((g32 o0 11 0).toInt = 0) → (60 - x1.toInt < (n : Int)) → ∃ (n0 : Ob) (n1 : Ob), F_Text_clear_24 n x1 o0 o1 = some (n0, n1) ∧ (okText n0) ∧ (okSteps n1) ∧ ((g32 n0 1 0).toInt = 0) ∧ ((g32 n0 3 0).toInt = 0) ∧ ((g32 n0 11 0).toInt = 0) := by
  intro n
  induction n with
  | zero =>
    intro x1 o0 o1 g0 g1 g2 g3 g4 g5 g6 g7
    obtain ⟨f21, f22, f23, f24, f25, f26, f27, f28, f29⟩ := id g0
    obtain ⟨f30, f31, f32, f33, f34, f35⟩ := id g1
    exfalso
    (try simp (disch := (first | omega | (simp only [Int32.reduceToInt]; omega) | (simp (disch := first | omega | (simp only [Int32.reduceToInt]; omega)) only [tadd, tsub, mul6, neg1, Int32.reduceToInt]; omega))) only [neg1, mul6, g_s, g_l, tadd, tsub, inb_iff, Int32.lt_iff_toInt_lt, Int32.le_iff_toInt_le, i32_eq, b2i_0, Int32.reduceToInt, reduceIte, Nat.reduceEqDiff] at g7)
    exact ari_
  | succ n ih =>
    intro x1 o0 o1 g0 g1 g2 g3 g4 g5 g6 g7
    obtain ⟨f36, f37, f38, f39, f40, f41, f42, f43, f44⟩ := id g0
    obtain ⟨f45, f46, f47, f48, f49, f50⟩ := id g1
    rw [F_Text_clear_24]
    (try simp (disch := (first | omega | (simp only [Int32.reduceToInt]; omega) | (simp (disch := first | omega | (simp only [Int32.reduceToInt]; omega)) only [tadd, tsub, mul6, neg1, Int32.reduceToInt]; omega))) only [neg1, mul6, g_s, g_l, tadd, tsub, inb_iff, Int32.lt_iff_toInt_lt, Int32.le_iff_toInt_le, i32_eq, b2i_0, Int32.reduceToInt, reduceIte, Nat.reduceEqDiff] at g7)
    by_cases c51 : (60 : Int32) ≤ x1
    · rw [if_pos c51]
      (try simp (disch := (first | omega | (simp only [Int32.reduceToInt]; omega) | (simp (disch := first | omega | (simp only [Int32.reduceToInt]; omega)) only [tadd, tsub, mul6, neg1, Int32.reduceToInt]; omega))) only [neg1, mul6, g_s, g_l, tadd, tsub, inb_iff, Int32.lt_iff_toInt_lt, Int32.le_iff_toInt_le, i32_eq, b2i_0, Int32.reduceToInt, reduceIte, Nat.reduceEqDiff] at c51)
      refine ⟨_, _, rfl, ok9_, ok6_, tu_, tu_, tu_⟩
    · rw [if_neg c51]
      (try simp (disch := (first | omega | (simp only [Int32.reduceToInt]; omega) | (simp (disch := first | omega | (simp only [Int32.reduceToInt]; omega)) only [tadd, tsub, mul6, neg1, Int32.reduceToInt]; omega))) only [neg1, mul6, g_s, g_l, tadd, tsub, inb_iff, Int32.lt_iff_toInt_lt, Int32.le_iff_toInt_le, i32_eq, b2i_0, Int32.reduceToInt, reduceIte, Nat.reduceEqDiff] at c51)
      rw [show (inb x1 60) = true from inb_iff.mpr ⟨tu_, tu_⟩, chk_tr]
      obtain ⟨y52, y53, e59, p54, p55, p56, p57, p58⟩ := ih (x1 + (1 : Int32)) (s32 (s64 (s32 o0 7 (Int32.toNatClampNeg x1) (-1 : Int32)) 8 (Int32.toNatClampNeg x1) (0 : Int64)) 9 (Int32.toNatClampNeg x1) (0 : Int32)) o1 (ok9_) (ok6_) (tu_) (tu_) (tu_) (tu_) (tu_) tu_
      obtain ⟨f60, f61, f62, f63, f64, f65, f66, f67, f68⟩ := id p54
      obtain ⟨f69, f70, f71, f72, f73, f74⟩ := id p55
      refine ⟨y52, y53, e59, ok9_, ok6_, tu_, tu_, tu_⟩
set_option maxHeartbeats 1000000 in
theorem t_Text_clear (o0 : Ob) (o1 : Ob) (g0 : okText o0) (g1 : okSteps o1) : ∃ (n0 : Ob) (n1 : Ob), F_Text_clear o0 o1 = some (n0, n1) ∧ (okText n0) ∧ (okSteps n1) ∧ ((g32 n0 1 0).toInt = 0) ∧ ((g32 n0 3 0).toInt = 0) ∧ ((g32 n0 11 0).toInt = 0) := by
  obtain ⟨f75, f76, f77, f78, f79, f80, f81, f82, f83⟩ := id g0
  obtain ⟨f84, f85, f86, f87, f88, f89⟩ := id g1
  rw [F_Text_clear]
  obtain ⟨o_2, e91, p90⟩ := t_Steps_clear o1 (ok6_)
  rw [e91, bind1_s]
  obtain ⟨f92, f93, f94, f95, f96, f97⟩ := id p90
  obtain ⟨y98, y99, e105, p100, p101, p102, p103, p104⟩ := t_Text_clear_24 fuel (0 : Int32) (s32 (s32 (s32 o0 1 0 (0 : Int32)) 3 0 (0 : Int32)) 11 0 (0 : Int32)) o_2 (ok9_) (ok6_) (tu_) (tu_) (tu_) (tu_) (tu_) tu_
  obtain ⟨f106, f107, f108, f109, f110, f111, f112, f113, f114⟩ := id p100
  obtain ⟨f115, f116, f117, f118, f119, f120⟩ := id p101
  refine ⟨y98, y99, e105, ok9_, ok6_, tu_, tu_, tu_⟩
theorem t_Text_openStatement (x1 : Int32) (o0 o1 : Ob) (g0 : okText o0) (g1 : okSteps o1) (g2 : -1 ≤ x1.toInt) (g3 : x1.toInt ≤ 59) (g4 : (g32 o0 3 0).toInt < 24) : ∃ (n0 : Ob), F_Text_openStatement x1 o0 o1 = some n0 ∧ (okText n0) ∧ (cdn n0 = 0) ∧ ((g32 n0 3 0).toInt = (g32 o0 3 0).toInt + 1) ∧ ((g32 n0 1 0).toInt = (g32 o0 1 0).toInt) ∧ ((g32 n0 11 0).toInt = (g32 o0 11 0).toInt) := by
  obtain ⟨f1, f2, f3, f4, f5, f6, f7, f8, f9⟩ := id g0
  rw [F_Text_openStatement]
  have c : ¬ (24 : Int32) ≤ g32 o0 3 0 := fun z => by
    have z2 := Int32.le_iff_toInt_le.mp z
    have z3 : (24 : Int32).toInt = 24 := rfl
    omega
  rw [if_neg c, show (inb (g32 o0 3 0) 24) = true from inb_iff.mpr ⟨f3, by omega⟩, chk_tr]
  have e1 := add1 (x := g32 o0 3 0) (by omega)
  have e2 : ((g32 o0 3 0) + (1 : Int32)) - (1 : Int32) = g32 o0 3 0 := Int32.toInt_inj.mp (by rw [sub1 (by omega), e1]; omega)
  have z0 : (0 : Int32).toInt = 0 := rfl
  have hc : ∀ (o : Ob), (∀ j, g32 o 6 j = g32 (s32 o0 6 (Int32.toNatClampNeg (g32 o0 3 0)) (0 : Int32)) 6 j) → cdn (s32 o 3 0 ((g32 o0 3 0) + (1 : Int32))) = 0 := by
    intro o ho
    show (g32 o 6 (Int32.toNatClampNeg (((g32 o0 3 0) + (1 : Int32)) - (1 : Int32)))).toInt = 0
    rw [e2, ho, g32_self]
    rfl
  by_cases c2 : x1 = (-1 : Int32)
  · rw [if_pos c2]
    exact ⟨_, rfl, ⟨f1, f2, by show 0 ≤ ((g32 o0 3 0) + (1 : Int32)).toInt; omega, by show ((g32 o0 3 0) + (1 : Int32)).toInt ≤ 24; omega, arr_, arr_, f7, f8, arr_⟩, hc _ (fun j => rfl), e1, rfl, rfl⟩
  · rw [if_neg c2]
    have c3 : ¬ x1.toInt = -1 := fun z => c2 (Int32.toInt_inj.mp z)
    rw [show (inb x1 60) = true from inb_iff.mpr ⟨by omega, by omega⟩, chk_tr]
    exact ⟨_, rfl, ⟨f1, f2, by show 0 ≤ ((g32 o0 3 0) + (1 : Int32)).toInt; omega, by show ((g32 o0 3 0) + (1 : Int32)).toInt ≤ 24; omega, arr_, arr_, f7, f8, arr_⟩, hc _ (fun j => rfl), e1, rfl, rfl⟩
set_option maxHeartbeats 1000000 in
theorem t_Text_openCell (o0 : Ob) (g0 : okText o0) : ∃ (r : Int32), F_Text_openCell o0 = some r ∧ (-1 ≤ r.toInt) ∧ (r.toInt ≤ 59) := by
  obtain ⟨f121, f122, f123, f124, f125, f126, f127, f128, f129⟩ := id g0
  rw [F_Text_openCell]
  by_cases c130 : (g32 o0 3 0) ≤ 0
  · rw [if_pos c130]
    (try simp (disch := (first | omega | (simp only [Int32.reduceToInt]; omega) | (simp (disch := first | omega | (simp only [Int32.reduceToInt]; omega)) only [tadd, tsub, mul6, neg1, Int32.reduceToInt]; omega))) only [neg1, mul6, g_s, g_l, tadd, tsub, inb_iff, Int32.lt_iff_toInt_lt, Int32.le_iff_toInt_le, i32_eq, b2i_0, Int32.reduceToInt, reduceIte, Nat.reduceEqDiff] at c130)
    refine ⟨_, rfl, tu_, tu_⟩
  · rw [if_neg c130]
    (try simp (disch := (first | omega | (simp only [Int32.reduceToInt]; omega) | (simp (disch := first | omega | (simp only [Int32.reduceToInt]; omega)) only [tadd, tsub, mul6, neg1, Int32.reduceToInt]; omega))) only [neg1, mul6, g_s, g_l, tadd, tsub, inb_iff, Int32.lt_iff_toInt_lt, Int32.le_iff_toInt_le, i32_eq, b2i_0, Int32.reduceToInt, reduceIte, Nat.reduceEqDiff] at c130)
    rw [show (inb ((g32 o0 3 0) - (1 : Int32)) 24) = true from inb_iff.mpr ⟨tu_, tu_⟩, chk_tr]
    have a131 := f125 (Int32.toNatClampNeg ((g32 o0 3 0) - (1 : Int32)))
    refine ⟨_, rfl, tu_, tu_⟩
set_option maxHeartbeats 1000000 in
theorem t_Text_mentionOption (x1 : Int32) (o0 : Ob) (o1 : Ob) (g0 : okText o0) (g1 : okSteps o1) (g2 : 0 ≤ x1.toInt) (g3 : x1.toInt < 8) : ∃ (n0 : Ob) (n1 : Ob), F_Text_mentionOption x1 o0 o1 = some (n0, n1) ∧ (okText n0) ∧ (okSteps n1) ∧ (TK o0 n0) := by
  obtain ⟨f132, f133, f134, f135, f136, f137, f138, f139, f140⟩ := id g0
  obtain ⟨f141, f142, f143, f144, f145, f146⟩ := id g1
  rw [F_Text_mentionOption]
  obtain ⟨o_2, e149, p147, p148⟩ := t_Steps_add (2 : Int32) x1 (0 : Int32) o1 (ok6_) (tu_) (tu_)
  rw [e149, bind1_s]
  obtain ⟨f150, f151, f152, f153, f154, f155⟩ := id p147
  obtain ⟨v4, e158, p156, p157⟩ := t_Text_openCell o0 (ok9_)
  rw [e158, bind1_s]
  by_cases c159 : v4 = (-1 : Int32)
  · rw [if_pos c159]
    (try simp (disch := (first | omega | (simp only [Int32.reduceToInt]; omega) | (simp (disch := first | omega | (simp only [Int32.reduceToInt]; omega)) only [tadd, tsub, mul6, neg1, Int32.reduceToInt]; omega))) only [neg1, mul6, g_s, g_l, tadd, tsub, inb_iff, Int32.lt_iff_toInt_lt, Int32.le_iff_toInt_le, i32_eq, b2i_0, Int32.reduceToInt, reduceIte, Nat.reduceEqDiff] at c159)
    refine ⟨_, _, rfl, ok9_, ok6_, tk_⟩
  · rw [if_neg c159]
    (try simp (disch := (first | omega | (simp only [Int32.reduceToInt]; omega) | (simp (disch := first | omega | (simp only [Int32.reduceToInt]; omega)) only [tadd, tsub, mul6, neg1, Int32.reduceToInt]; omega))) only [neg1, mul6, g_s, g_l, tadd, tsub, inb_iff, Int32.lt_iff_toInt_lt, Int32.le_iff_toInt_le, i32_eq, b2i_0, Int32.reduceToInt, reduceIte, Nat.reduceEqDiff] at c159)
    rw [show (inb v4 60) = true from inb_iff.mpr ⟨tu_, tu_⟩, chk_tr]
    refine ⟨_, _, rfl, ok9_, ok6_, tk_⟩
set_option maxHeartbeats 1000000 in
theorem t_Text_mentionCell (x1 : Int32) (o0 : Ob) (o1 : Ob) (g0 : okText o0) (g1 : okSteps o1) (g2 : 0 ≤ x1.toInt) (g3 : x1.toInt < 60) : ∃ (n0 : Ob) (n1 : Ob), F_Text_mentionCell x1 o0 o1 = some (n0, n1) ∧ (okText n0) ∧ (okSteps n1) ∧ (TK o0 n0) := by
  obtain ⟨f160, f161, f162, f163, f164, f165, f166, f167, f168⟩ := id g0
  obtain ⟨f169, f170, f171, f172, f173, f174⟩ := id g1
  rw [F_Text_mentionCell]
  obtain ⟨o_2, e177, p175, p176⟩ := t_Steps_add (3 : Int32) x1 (0 : Int32) o1 (ok6_) (tu_) (tu_)
  rw [e177, bind1_s]
  obtain ⟨f178, f179, f180, f181, f182, f183⟩ := id p175
  obtain ⟨v4, e186, p184, p185⟩ := t_Text_openCell o0 (ok9_)
  rw [e186, bind1_s]
  by_cases c187 : v4 = (-1 : Int32)
  · rw [if_pos c187]
    (try simp (disch := (first | omega | (simp only [Int32.reduceToInt]; omega) | (simp (disch := first | omega | (simp only [Int32.reduceToInt]; omega)) only [tadd, tsub, mul6, neg1, Int32.reduceToInt]; omega))) only [neg1, mul6, g_s, g_l, tadd, tsub, inb_iff, Int32.lt_iff_toInt_lt, Int32.le_iff_toInt_le, i32_eq, b2i_0, Int32.reduceToInt, reduceIte, Nat.reduceEqDiff] at c187)
    refine ⟨_, _, rfl, ok9_, ok6_, tk_⟩
  · rw [if_neg c187]
    (try simp (disch := (first | omega | (simp only [Int32.reduceToInt]; omega) | (simp (disch := first | omega | (simp only [Int32.reduceToInt]; omega)) only [tadd, tsub, mul6, neg1, Int32.reduceToInt]; omega))) only [neg1, mul6, g_s, g_l, tadd, tsub, inb_iff, Int32.lt_iff_toInt_lt, Int32.le_iff_toInt_le, i32_eq, b2i_0, Int32.reduceToInt, reduceIte, Nat.reduceEqDiff] at c187)
    rw [show (inb v4 60) = true from inb_iff.mpr ⟨tu_, tu_⟩, chk_tr]
    refine ⟨_, _, rfl, ok9_, ok6_, tk_⟩
theorem t_Text_countCondition (o0 : Ob) (g0 : okText o0) (g1 : cdn o0 ≤ 4) : ∃ (n0 : Ob), F_Text_countCondition o0 = some n0 ∧ (okText n0) ∧ (cdn n0 ≤ cdn o0 + 1) ∧ ((g32 n0 1 0).toInt = (g32 o0 1 0).toInt) ∧ ((g32 n0 3 0).toInt = (g32 o0 3 0).toInt) ∧ ((g32 n0 11 0).toInt = (g32 o0 11 0).toInt) := by
  obtain ⟨f1, f2, f3, f4, f5, f6, f7, f8, f9⟩ := id g0
  rw [F_Text_countCondition]
  by_cases c : g32 o0 3 0 ≤ 0
  · rw [if_pos c]
    exact ⟨o0, rfl, g0, by omega, rfl, rfl, rfl⟩
  · rw [if_neg c]
    have c := nle0 c
    have e1 := sub1 (x := g32 o0 3 0) (by omega)
    rw [show (inb ((g32 o0 3 0) - (1 : Int32)) 24) = true from inb_iff.mpr ⟨by omega, by omega⟩, chk_tr]
    have f9a := f9 (Int32.toNatClampNeg ((g32 o0 3 0) - (1 : Int32)))
    have e4 : cdn o0 = (g32 o0 6 (Int32.toNatClampNeg ((g32 o0 3 0) - (1 : Int32)))).toInt := rfl
    have e2 := add1 (x := g32 o0 6 (Int32.toNatClampNeg ((g32 o0 3 0) - (1 : Int32)))) (by omega)
    have e3 : cdn (s32 o0 6 (Int32.toNatClampNeg ((g32 o0 3 0) - (1 : Int32))) ((g32 o0 6 (Int32.toNatClampNeg ((g32 o0 3 0) - (1 : Int32)))) + (1 : Int32))) = ((g32 o0 6 (Int32.toNatClampNeg ((g32 o0 3 0) - (1 : Int32)))) + (1 : Int32)).toInt := congrArg Int32.toInt (g32_self o0 6 _ _)
    exact ⟨_, rfl, ⟨f1, f2, f3, f4, arr_, arr_, f7, f8, AR.eq (by omega) (by omega) f9⟩, by rw [e3, e2, e4]; exact Int.le_refl _, rfl, rfl, rfl⟩
set_option maxHeartbeats 1000000 in
theorem t_Text_isLimit (x1 : Int32) (o0 : Ob) (g0 : okText o0) (g1 : 0 ≤ x1.toInt) (g2 : x1.toInt < 24) : ∃ (r : Bool), F_Text_isLimit x1 o0 = some r ∧ (True) := by
  obtain ⟨f188, f189, f190, f191, f192, f193, f194, f195, f196⟩ := id g0
  rw [F_Text_isLimit]
  rw [show (inb x1 24) = true from inb_iff.mpr ⟨tu_, tu_⟩, chk_tr]
  have a198 := f192 (Int32.toNatClampNeg x1)
  by_cases c197 : (g32 o0 4 (Int32.toNatClampNeg x1)) = (-1 : Int32)
  · rw [if_pos c197]
    (try simp (disch := (first | omega | (simp only [Int32.reduceToInt]; omega) | (simp (disch := first | omega | (simp only [Int32.reduceToInt]; omega)) only [tadd, tsub, mul6, neg1, Int32.reduceToInt]; omega))) only [neg1, mul6, g_s, g_l, tadd, tsub, inb_iff, Int32.lt_iff_toInt_lt, Int32.le_iff_toInt_le, i32_eq, b2i_0, Int32.reduceToInt, reduceIte, Nat.reduceEqDiff] at c197)
    refine ⟨_, rfl, tu_⟩
  · rw [if_neg c197]
    (try simp (disch := (first | omega | (simp only [Int32.reduceToInt]; omega) | (simp (disch := first | omega | (simp only [Int32.reduceToInt]; omega)) only [tadd, tsub, mul6, neg1, Int32.reduceToInt]; omega))) only [neg1, mul6, g_s, g_l, tadd, tsub, inb_iff, Int32.lt_iff_toInt_lt, Int32.le_iff_toInt_le, i32_eq, b2i_0, Int32.reduceToInt, reduceIte, Nat.reduceEqDiff] at c197)
    refine ⟨_, rfl, tu_⟩
set_option maxHeartbeats 1000000 in
theorem t_Text_reaches (x1 : Int32) (x2 : Int32) (o0 : Ob) (g0 : 0 ≤ x1.toInt) (g1 : x1.toInt < 60) : ∃ (r : Bool), F_Text_reaches x1 x2 o0 = some r ∧ (True) := by
  rw [F_Text_reaches]
  rw [show (inb x1 60) = true from inb_iff.mpr ⟨tu_, tu_⟩, chk_tr]
  by_cases c199 : (lg_cmp ((lushr (g64 o0 8 (Int32.toNatClampNeg x1)) x2) &&& (1 : Int64)) (0 : Int64)) = 0
  · rw [if_pos c199]
    (try simp (disch := (first | omega | (simp only [Int32.reduceToInt]; omega) | (simp (disch := first | omega | (simp only [Int32.reduceToInt]; omega)) only [tadd, tsub, mul6, neg1, Int32.reduceToInt]; omega))) only [neg1, mul6, g_s, g_l, tadd, tsub, inb_iff, Int32.lt_iff_toInt_lt, Int32.le_iff_toInt_le, i32_eq, b2i_0, Int32.reduceToInt, reduceIte, Nat.reduceEqDiff] at c199)
    refine ⟨_, rfl, tu_⟩
  · rw [if_neg c199]
    (try simp (disch := (first | omega | (simp only [Int32.reduceToInt]; omega) | (simp (disch := first | omega | (simp only [Int32.reduceToInt]; omega)) only [tadd, tsub, mul6, neg1, Int32.reduceToInt]; omega))) only [neg1, mul6, g_s, g_l, tadd, tsub, inb_iff, Int32.lt_iff_toInt_lt, Int32.le_iff_toInt_le, i32_eq, b2i_0, Int32.reduceToInt, reduceIte, Nat.reduceEqDiff] at c199)
    refine ⟨_, rfl, tu_⟩
set_option maxHeartbeats 1000000 in
theorem t_Text_isRing (x1 : Int32) (o0 : Ob) (g0 : 0 ≤ x1.toInt) (g1 : x1.toInt < 60) : ∃ (r : Bool), F_Text_isRing x1 o0 = some r ∧ (True) := by
  rw [F_Text_isRing]
  obtain ⟨v2, e201, p200⟩ := t_Text_reaches x1 x1 o0 (tu_) (tu_)
  rw [e201, bind1_s]
  refine ⟨_, rfl, tu_⟩
set_option maxHeartbeats 1000000 in
theorem t_Text_hangsOn (x1 : Int32) (x2 : Int32) (o0 : Ob) (g0 : 0 ≤ x1.toInt) (g1 : x1.toInt < 60) : ∃ (r : Bool), F_Text_hangsOn x1 x2 o0 = some r ∧ (True) := by
  rw [F_Text_hangsOn]
  rw [show (inb x1 60) = true from inb_iff.mpr ⟨tu_, tu_⟩, chk_tr]
  by_cases c202 : ((iushr (g32 o0 9 (Int32.toNatClampNeg x1)) x2) &&& (1 : Int32)) = 0
  · rw [if_pos c202]
    (try simp (disch := (first | omega | (simp only [Int32.reduceToInt]; omega) | (simp (disch := first | omega | (simp only [Int32.reduceToInt]; omega)) only [tadd, tsub, mul6, neg1, Int32.reduceToInt]; omega))) only [neg1, mul6, g_s, g_l, tadd, tsub, inb_iff, Int32.lt_iff_toInt_lt, Int32.le_iff_toInt_le, i32_eq, b2i_0, Int32.reduceToInt, reduceIte, Nat.reduceEqDiff] at c202)
    refine ⟨_, rfl, tu_⟩
  · rw [if_neg c202]
    (try simp (disch := (first | omega | (simp only [Int32.reduceToInt]; omega) | (simp (disch := first | omega | (simp only [Int32.reduceToInt]; omega)) only [tadd, tsub, mul6, neg1, Int32.reduceToInt]; omega))) only [neg1, mul6, g_s, g_l, tadd, tsub, inb_iff, Int32.lt_iff_toInt_lt, Int32.le_iff_toInt_le, i32_eq, b2i_0, Int32.reduceToInt, reduceIte, Nat.reduceEqDiff] at c202)
    refine ⟨_, rfl, tu_⟩
set_option maxHeartbeats 1000000 in
theorem t_Text_followNeeds_10  (M2 : Int) (k2 : Int32 → Ob → Option (Ob)) (hk2 : ∀ (x1 : Int32) (o0 : Ob), (okText o0) → (0 ≤ x1.toInt) → (x1.toInt ≤ 60) → (60 - x1.toInt < M2) → ∃ (n0 : Ob), k2 x1 o0 = some n0 ∧ (okText n0) ∧ (TK o0 n0)) : ∀ (n : Nat) (x1 : Int32) (x2 : Int32) (o0 : Ob), (okText o0) → (0 ≤ x1.toInt) → (x1.toInt < 60) → (0 ≤ x2.toInt) → (x2.toInt ≤ 60) → (60 - x1.toInt - 1 < M2) → (60 - x2.toInt < (n : Int)) → ∃ (n0 : Ob), F_Text_followNeeds_10 k2 n x1 x2 o0 = some n0 ∧ (okText n0) ∧ (TK o0 n0) := by
  intro n
  induction n with
  | zero =>
    intro x1 x2 o0 g0 g1 g2 g3 g4 g5 g6
    obtain ⟨f203, f204, f205, f206, f207, f208, f209, f210, f211⟩ := id g0
    exfalso
    (try simp (disch := (first | omega | (simp only [Int32.reduceToInt]; omega) | (simp (disch := first | omega | (simp only [Int32.reduceToInt]; omega)) only [tadd, tsub, mul6, neg1, Int32.reduceToInt]; omega))) only [neg1, mul6, g_s, g_l, tadd, tsub, inb_iff, Int32.lt_iff_toInt_lt, Int32.le_iff_toInt_le, i32_eq, b2i_0, Int32.reduceToInt, reduceIte, Nat.reduceEqDiff] at g6)
    exact ari_
  | succ n ih =>
    intro x1 x2 o0 g0 g1 g2 g3 g4 g5 g6
    obtain ⟨f212, f213, f214, f215, f216, f217, f218, f219, f220⟩ := id g0
    rw [F_Text_followNeeds_10]
    (try simp (disch := (first | omega | (simp only [Int32.reduceToInt]; omega) | (simp (disch := first | omega | (simp only [Int32.reduceToInt]; omega)) only [tadd, tsub, mul6, neg1, Int32.reduceToInt]; omega))) only [neg1, mul6, g_s, g_l, tadd, tsub, inb_iff, Int32.lt_iff_toInt_lt, Int32.le_iff_toInt_le, i32_eq, b2i_0, Int32.reduceToInt, reduceIte, Nat.reduceEqDiff] at g6)
    by_cases c221 : (60 : Int32) ≤ x2
    · rw [if_pos c221]
      (try simp (disch := (first | omega | (simp only [Int32.reduceToInt]; omega) | (simp (disch := first | omega | (simp only [Int32.reduceToInt]; omega)) only [tadd, tsub, mul6, neg1, Int32.reduceToInt]; omega))) only [neg1, mul6, g_s, g_l, tadd, tsub, inb_iff, Int32.lt_iff_toInt_lt, Int32.le_iff_toInt_le, i32_eq, b2i_0, Int32.reduceToInt, reduceIte, Nat.reduceEqDiff] at c221)
      obtain ⟨y222, e225, p223, p224⟩ := hk2 (x1 + (1 : Int32)) o0 (ok9_) (tu_) (tu_) tu_
      obtain ⟨f226, f227, f228, f229, f230, f231, f232, f233, f234⟩ := id p223
      have f235 := congrArg Int32.toInt p224.1
      have f236 := congrArg Int32.toInt p224.2.1
      have f237 := congrArg Int32.toInt p224.2.2.1
      have f238 := TK.cd p224
      refine ⟨y222, e225, ok9_, tk_⟩
    · rw [if_neg c221]
      (try simp (disch := (first | omega | (simp only [Int32.reduceToInt]; omega) | (simp (disch := first | omega | (simp only [Int32.reduceToInt]; omega)) only [tadd, tsub, mul6, neg1, Int32.reduceToInt]; omega))) only [neg1, mul6, g_s, g_l, tadd, tsub, inb_iff, Int32.lt_iff_toInt_lt, Int32.le_iff_toInt_le, i32_eq, b2i_0, Int32.reduceToInt, reduceIte, Nat.reduceEqDiff] at c221)
      obtain ⟨v4, e240, p239⟩ := t_Text_reaches x2 x1 o0 (tu_) (tu_)
      rw [e240, bind1_s]
      by_cases c241 : (b2i v4) = 0
      · rw [if_pos c241]
        have c241 := b2i_0.mp c241
        subst c241
        obtain ⟨y242, e245, p243, p244⟩ := ih x1 (x2 + (1 : Int32)) o0 (ok9_) (tu_) (tu_) (tu_) (tu_) (tu_) tu_
        obtain ⟨f246, f247, f248, f249, f250, f251, f252, f253, f254⟩ := id p243
        have f255 := congrArg Int32.toInt p244.1
        have f256 := congrArg Int32.toInt p244.2.1
        have f257 := congrArg Int32.toInt p244.2.2.1
        have f258 := TK.cd p244
        refine ⟨y242, e245, ok9_, tk_⟩
      · rw [if_neg c241]
        have c241 := b2i_1 c241
        subst c241
        rw [show (inb x2 60) = true from inb_iff.mpr ⟨tu_, tu_⟩, chk_tr]
        rw [show (inb x1 60) = true from inb_iff.mpr ⟨tu_, tu_⟩, chk_tr]
        obtain ⟨y259, e262, p260, p261⟩ := ih x1 (x2 + (1 : Int32)) (s32 (s64 o0 8 (Int32.toNatClampNeg x2) ((g64 o0 8 (Int32.toNatClampNeg x2)) ||| (g64 o0 8 (Int32.toNatClampNeg x1)))) 9 (Int32.toNatClampNeg x2) ((g32 o0 9 (Int32.toNatClampNeg x2)) ||| (g32 o0 9 (Int32.toNatClampNeg x1)))) (ok9_) (tu_) (tu_) (tu_) (tu_) (tu_) tu_
        obtain ⟨f263, f264, f265, f266, f267, f268, f269, f270, f271⟩ := id p260
        have f272 := congrArg Int32.toInt p261.1
        have f273 := congrArg Int32.toInt p261.2.1
        have f274 := congrArg Int32.toInt p261.2.2.1
        have f275 := TK.cd p261
        refine ⟨y259, e262, ok9_, tk_⟩
set_option maxHeartbeats 1000000 in
theorem t_Text_followNeeds_2  : ∀ (n : Nat) (x1 : Int32) (o0 : Ob), (okText o0) → (0 ≤ x1.toInt) → (x1.toInt ≤ 60) → (60 - x1.toInt < (n : Int)) → ∃ (n0 : Ob), F_Text_followNeeds_2 n x1 o0 = some n0 ∧ (okText n0) ∧ (TK o0 n0) := by
  intro n
  induction n with
  | zero =>
    intro x1 o0 g0 g1 g2 g3
    obtain ⟨f276, f277, f278, f279, f280, f281, f282, f283, f284⟩ := id g0
    exfalso
    (try simp (disch := (first | omega | (simp only [Int32.reduceToInt]; omega) | (simp (disch := first | omega | (simp only [Int32.reduceToInt]; omega)) only [tadd, tsub, mul6, neg1, Int32.reduceToInt]; omega))) only [neg1, mul6, g_s, g_l, tadd, tsub, inb_iff, Int32.lt_iff_toInt_lt, Int32.le_iff_toInt_le, i32_eq, b2i_0, Int32.reduceToInt, reduceIte, Nat.reduceEqDiff] at g3)
    exact ari_
  | succ n ih =>
    intro x1 o0 g0 g1 g2 g3
    obtain ⟨f285, f286, f287, f288, f289, f290, f291, f292, f293⟩ := id g0
    rw [F_Text_followNeeds_2]
    (try simp (disch := (first | omega | (simp only [Int32.reduceToInt]; omega) | (simp (disch := first | omega | (simp only [Int32.reduceToInt]; omega)) only [tadd, tsub, mul6, neg1, Int32.reduceToInt]; omega))) only [neg1, mul6, g_s, g_l, tadd, tsub, inb_iff, Int32.lt_iff_toInt_lt, Int32.le_iff_toInt_le, i32_eq, b2i_0, Int32.reduceToInt, reduceIte, Nat.reduceEqDiff] at g3)
    by_cases c294 : (60 : Int32) ≤ x1
    · rw [if_pos c294]
      (try simp (disch := (first | omega | (simp only [Int32.reduceToInt]; omega) | (simp (disch := first | omega | (simp only [Int32.reduceToInt]; omega)) only [tadd, tsub, mul6, neg1, Int32.reduceToInt]; omega))) only [neg1, mul6, g_s, g_l, tadd, tsub, inb_iff, Int32.lt_iff_toInt_lt, Int32.le_iff_toInt_le, i32_eq, b2i_0, Int32.reduceToInt, reduceIte, Nat.reduceEqDiff] at c294)
      refine ⟨_, rfl, ok9_, tk_⟩
    · rw [if_neg c294]
      (try simp (disch := (first | omega | (simp only [Int32.reduceToInt]; omega) | (simp (disch := first | omega | (simp only [Int32.reduceToInt]; omega)) only [tadd, tsub, mul6, neg1, Int32.reduceToInt]; omega))) only [neg1, mul6, g_s, g_l, tadd, tsub, inb_iff, Int32.lt_iff_toInt_lt, Int32.le_iff_toInt_le, i32_eq, b2i_0, Int32.reduceToInt, reduceIte, Nat.reduceEqDiff] at c294)
      obtain ⟨y295, e298, p296, p297⟩ := t_Text_followNeeds_10 (n : Int) _ ih fuel x1 (0 : Int32) o0 (ok9_) (tu_) (tu_) (tu_) (tu_) (tu_) tu_
      obtain ⟨f299, f300, f301, f302, f303, f304, f305, f306, f307⟩ := id p296
      have f308 := congrArg Int32.toInt p297.1
      have f309 := congrArg Int32.toInt p297.2.1
      have f310 := congrArg Int32.toInt p297.2.2.1
      have f311 := TK.cd p297
      refine ⟨y295, e298, ok9_, tk_⟩
set_option maxHeartbeats 1000000 in
theorem t_Text_followNeeds (o0 : Ob) (g0 : okText o0) : ∃ (n0 : Ob), F_Text_followNeeds o0 = some n0 ∧ (okText n0) ∧ (TK o0 n0) := by
  obtain ⟨f312, f313, f314, f315, f316, f317, f318, f319, f320⟩ := id g0
  rw [F_Text_followNeeds]
  obtain ⟨y321, e324, p322, p323⟩ := t_Text_followNeeds_2 fuel (0 : Int32) o0 (ok9_) (tu_) (tu_) tu_
  obtain ⟨f325, f326, f327, f328, f329, f330, f331, f332, f333⟩ := id p322
  have f334 := congrArg Int32.toInt p323.1
  have f335 := congrArg Int32.toInt p323.2.1
  have f336 := congrArg Int32.toInt p323.2.2.1
  have f337 := TK.cd p323
  refine ⟨y321, e324, ok9_, tk_⟩
def bt (x : Int64) (i : Nat) : Bool := x.toBitVec.getLsbD i
def pcf (f : Nat → Bool) : Nat → Int
  | 0 => 0
  | n + 1 => pcf f n + (if f n = true then 1 else 0)
theorem pcf_0le (f : Nat → Bool) : ∀ n, 0 ≤ pcf f n
  | 0 => Int.le_refl 0
  | n + 1 => by
    have h := pcf_0le f n
    show 0 ≤ pcf f n + (if f n = true then 1 else 0)
    split <;> omega
theorem pcf_z {f : Nat → Bool} (h : ∀ i, f i = false) : ∀ n, pcf f n = 0
  | 0 => rfl
  | n + 1 => by
    show pcf f n + (if f n = true then 1 else 0) = 0
    rw [pcf_z h n, h n]
    rfl
theorem pcf_or {f g : Nat → Bool} {c : Nat} (h : ∀ i, g i = true → f i = true ∨ i = c) : ∀ n, pcf g n ≤ pcf f n + (if c < n then 1 else 0)
  | 0 => by
    show (0 : Int) ≤ 0 + (if c < 0 then 1 else 0)
    split <;> omega
  | n + 1 => by
    have ih := pcf_or h n
    have hn := h n
    show pcf g n + (if g n = true then 1 else 0) ≤ pcf f n + (if f n = true then 1 else 0) + (if c < n + 1 then 1 else 0)
    by_cases gn : g n = true
    · rw [if_pos gn]
      rcases hn gn with fn | en
      · rw [if_pos fn]
        by_cases c1 : c < n
        · rw [if_pos c1] at ih; rw [if_pos (by omega : c < n + 1)]; omega
        · rw [if_neg c1] at ih; split <;> omega
      · have c1 : ¬ c < n := by omega
        rw [if_neg c1] at ih; rw [if_pos (by omega : c < n + 1)]
        split <;> omega
    · rw [if_neg gn]
      by_cases c1 : c < n
      · rw [if_pos c1] at ih; rw [if_pos (by omega : c < n + 1)]
        split <;> omega
      · rw [if_neg c1] at ih
        split <;> split <;> omega
theorem pcf_cl {f g : Nat → Bool} {c : Nat} (h : ∀ i, g i = (f i && !decide (i = c))) (hc : f c = true) : ∀ n, pcf g n = pcf f n - (if c < n then 1 else 0)
  | 0 => by
    show (0 : Int) = 0 - (if c < 0 then 1 else 0)
    rw [if_neg (by omega : ¬ c < 0)]; rfl
  | n + 1 => by
    have ih := pcf_cl h hc n
    show pcf g n + (if g n = true then 1 else 0) = pcf f n + (if f n = true then 1 else 0) - (if c < n + 1 then 1 else 0)
    by_cases e : n = c
    · have gn : ¬ g n = true := by rw [h n, e]; simp
      have fn : f n = true := by rw [e]; exact hc
      rw [if_neg gn, if_pos fn, if_pos (by omega : c < n + 1)]
      rw [if_neg (by omega : ¬ c < n)] at ih
      omega
    · have gf : g n = f n := by rw [h n]; simp [e]
      rw [gf]
      by_cases c1 : c < n
      · rw [if_pos c1] at ih; rw [if_pos (by omega : c < n + 1)]; omega
      · rw [if_neg c1] at ih; rw [if_neg (by omega : ¬ c < n + 1)]; omega
theorem sh_u (k : Fin 60) : (Int32.ofNat k.val).toInt64.toUInt64 &&& Int64.toUInt64 63 = UInt64.ofNat k.val ∧ ((UInt64.ofNat k.val).toBitVec % 64#64).toNat = k.val := by
  revert k; decide +kernel
theorem bt_lushr {x : Int64} {k : Nat} (h : k < 60) (i : Nat) : bt (lushr x (Int32.ofNat k)) i = bt x (k + i) := by
  obtain ⟨e1, e2⟩ := sh_u ⟨k, h⟩
  unfold lushr
  rw [e1]
  show (x.toBitVec >>> ((UInt64.ofNat k).toBitVec % 64#64)).getLsbD i = x.toBitVec.getLsbD (k + i)
  rw [BitVec.ushiftRight_eq', BitVec.getLsbD_ushiftRight, e2]
theorem and1_bt {y : Int64} : lg_cmp (y &&& (1 : Int64)) (0 : Int64) = 0 ↔ bt y 0 = false := by
  rw [lgc_eq]
  have hb : ∀ i, bt (y &&& (1 : Int64)) i = (bt y i && (1#64).getLsbD i) := fun i => BitVec.getLsbD_and
  constructor
  · intro e
    have e2 := hb 0
    rw [e] at e2
    have e3 : bt (0 : Int64) 0 = false := rfl
    have e4 : (1#64).getLsbD 0 = true := rfl
    rw [e3, e4, Bool.and_true] at e2
    exact e2.symm
  · intro e
    apply Int64.toBitVec_inj.mp
    apply BitVec.eq_of_getLsbD_eq
    intro i hi
    have e2 : (y &&& (1 : Int64)).toBitVec.getLsbD i = (bt y i && (1#64).getLsbD i) := hb i
    have e3 : (0 : Int64).toBitVec.getLsbD i = false := BitVec.getLsbD_zero
    rw [e2, e3]
    by_cases z : i = 0
    · rw [z, e]; rfl
    · have e4 : (1#64).getLsbD i = false := by rw [BitVec.getLsbD_one]; simp [z]
      rw [e4, Bool.and_false]
theorem sh_l (k : Fin 60) (i : Fin 64) : (lshl (1 : Int64) (Int32.ofNat k.val)).toBitVec.getLsbD i.val = decide (i.val = k.val) ∧ ((lshl (1 : Int64) (Int32.ofNat k.val)) ^^^ (-1 : Int64)).toBitVec.getLsbD i.val = !decide (i.val = k.val) := by
  revert k i; decide +kernel
theorem of_clamp {x : Int32} (h0 : 0 ≤ x.toInt) : Int32.ofNat (Int32.toNatClampNeg x) = x := by
  apply Int32.toInt_inj.mp
  have e : ((Int32.toNatClampNeg x : Nat) : Int) = x.toInt := clampI h0
  have := x.toInt_lt
  rw [i32n (by omega)]
  exact e
theorem bt_or {x : Int64} {c : Int32} (h0 : 0 ≤ c.toInt) (h1 : c.toInt < 60) (i : Nat) (hg : bt (x ||| (lshl (1 : Int64) c)) i = true) : bt x i = true ∨ i = Int32.toNatClampNeg c := by
  have hk : Int32.toNatClampNeg c < 60 := by have := clampI h0; omega
  have e : bt (x ||| (lshl (1 : Int64) c)) i = (bt x i || (lshl (1 : Int64) c).toBitVec.getLsbD i) := BitVec.getLsbD_or
  rw [e] at hg
  by_cases hi : i < 64
  · have q := (sh_l ⟨Int32.toNatClampNeg c, hk⟩ ⟨i, hi⟩).1
    rw [of_clamp h0] at q
    have q : (lshl (1 : Int64) c).toBitVec.getLsbD i = decide (i = Int32.toNatClampNeg c) := q
    rw [q] at hg
    rcases Bool.or_eq_true_iff.mp hg with a | a
    · exact Or.inl a
    · exact Or.inr (of_decide_eq_true a)
  · have q : (lshl (1 : Int64) c).toBitVec.getLsbD i = false := BitVec.getLsbD_of_ge _ _ (by omega)
    rw [q, Bool.or_false] at hg
    exact Or.inl hg
theorem bt_cl {x : Int64} {c : Int32} (h0 : 0 ≤ c.toInt) (h1 : c.toInt < 60) (i : Nat) : bt (x &&& ((lshl (1 : Int64) c) ^^^ (-1 : Int64))) i = (bt x i && !decide (i = Int32.toNatClampNeg c)) := by
  have hk : Int32.toNatClampNeg c < 60 := by have := clampI h0; omega
  have e : bt (x &&& ((lshl (1 : Int64) c) ^^^ (-1 : Int64))) i = (bt x i && ((lshl (1 : Int64) c) ^^^ (-1 : Int64)).toBitVec.getLsbD i) := BitVec.getLsbD_and
  rw [e]
  by_cases hi : i < 64
  · have q := (sh_l ⟨Int32.toNatClampNeg c, hk⟩ ⟨i, hi⟩).2
    rw [of_clamp h0] at q
    have q : ((lshl (1 : Int64) c) ^^^ (-1 : Int64)).toBitVec.getLsbD i = !decide (i = Int32.toNatClampNeg c) := q
    rw [q]
  · have q : bt x i = false := BitVec.getLsbD_of_ge _ _ (by omega)
    rw [q, Bool.false_and, Bool.false_and]
def pcn (x : Int64) : Int := pcf (bt x) 60
theorem pcn_0 : pcn 0 = 0 := pcf_z (fun i => BitVec.getLsbD_zero) 60
theorem pcn_or {x : Int64} {c : Int32} (h0 : 0 ≤ c.toInt) (h1 : c.toInt < 60) : pcn (x ||| (lshl (1 : Int64) c)) ≤ pcn x + 1 := by
  have q := pcf_or (f := bt x) (g := bt (x ||| (lshl (1 : Int64) c))) (c := Int32.toNatClampNeg c) (fun i hg => bt_or h0 h1 i hg) 60
  unfold pcn
  split at q <;> omega
theorem pcn_cl {x : Int64} {c : Int32} (h0 : 0 ≤ c.toInt) (h1 : c.toInt < 60) (hb : bt x (Int32.toNatClampNeg c) = true) : pcn (x &&& ((lshl (1 : Int64) c) ^^^ (-1 : Int64))) = pcn x - 1 := by
  have hk : Int32.toNatClampNeg c < 60 := by have := clampI h0; omega
  have q := pcf_cl (f := bt x) (g := bt (x &&& ((lshl (1 : Int64) c) ^^^ (-1 : Int64)))) (c := Int32.toNatClampNeg c) (fun i => bt_cl h0 h1 i) hb 60
  rw [if_pos hk] at q
  exact q
theorem pcn_0le (x : Int64) : 0 ≤ pcn x := pcf_0le _ _
def FE (o n : Ob) : Prop := (g32 n 1 0).toInt = (g32 o 1 0).toInt ∧ (g32 n 3 0).toInt = (g32 o 3 0).toInt
theorem OC.app {o : Ob} {x : Int32} (h : OC o) (h0 : 0 ≤ (g32 o 11 0).toInt) (h1 : (g32 o 11 0).toInt < 24) (hx : 0 ≤ (g32 o 4 (Int32.toNatClampNeg x)).toInt) : OC (s32 (s32 o 10 (Int32.toNatClampNeg (g32 o 11 0)) x) 11 0 ((g32 o 11 0) + (1 : Int32))) := by
  intro i hi
  have hi : (i : Int) < ((g32 o 11 0) + (1 : Int32)).toInt := hi
  rw [add1 (by omega)] at hi
  show 0 ≤ (g32 o 4 (Int32.toNatClampNeg (g32 (s32 o 10 (Int32.toNatClampNeg (g32 o 11 0)) x) 10 i))).toInt
  rw [g_s, if_pos rfl]
  by_cases c : i = Int32.toNatClampNeg (g32 o 11 0)
  · rw [if_pos c]; exact hx
  · rw [if_neg c]
    have e := clampI h0
    exact h i (by omega)
theorem fo_67 (M : Int) (k52 : Int64 → Int32 → Ob → Option Ob) (hk : ∀ (x1 : Int64) (x3 : Int32) (o : Ob), okText o → OC o → (g32 o 11 0).toInt + pcn x1 ≤ 24 → 0 ≤ x3.toInt → x3.toInt ≤ 24 → 24 - x3.toInt < M → ∃ n0, k52 x1 x3 o = some n0 ∧ okText n0 ∧ OC n0 ∧ FE o n0) : ∀ (n : Nat) (x1 : Int64) (x3 x4 : Int32) (o0 : Ob), okText o0 → OC o0 → (g32 o0 11 0).toInt + pcn x1 ≤ 24 → 0 ≤ x3.toInt → x3.toInt < 24 → 24 - x3.toInt - 1 < M → 0 ≤ x4.toInt → x4.toInt ≤ 24 → 24 - x4.toInt < (n : Int) → ∃ n0, F_Text_findOrder_67 k52 n x1 x3 x4 o0 = some n0 ∧ okText n0 ∧ OC n0 ∧ FE o0 n0 := by
  intro n
  induction n with
  | zero => intro x1 x3 x4 o0 _ _ _ _ _ _ _ _ _; exfalso; omega
  | succ n ih =>
    intro x1 x3 x4 o0 hT hO hp h3 h3b hM h4 h4b hn
    obtain ⟨f1, f2, f3, f4, f5, f6, f7, f8, f9⟩ := id hT
    rw [F_Text_findOrder_67]
    have e3 := add1 (x := x3) (by omega)
    have e4 := add1 (x := x4) (by omega)
    by_cases c : (g32 o0 3 0) ≤ x4
    · rw [if_pos c]
      exact hk x1 _ o0 hT hO hp (by omega) (by omega) (by omega)
    rw [if_neg c]
    have c : ¬ (g32 o0 3 0).toInt ≤ x4.toInt := fun z => c (Int32.le_iff_toInt_le.mpr z)
    have go : ∃ n0, F_Text_findOrder_67 k52 n x1 x3 (x4 + (1 : Int32)) o0 = some n0 ∧ okText n0 ∧ OC n0 ∧ FE o0 n0 := ih x1 x3 _ o0 hT hO hp h3 h3b hM (by omega) (by omega) (by omega)
    rw [show (inb x4 24) = true from inb_iff.mpr ⟨h4, by omega⟩, chk_tr]
    by_cases c2 : (g32 o0 4 (Int32.toNatClampNeg x4)) = (-1 : Int32)
    · rw [if_pos c2]; exact go
    rw [if_neg c2]
    have a4 := f5 (Int32.toNatClampNeg x4)
    have n1 : ¬ (g32 o0 4 (Int32.toNatClampNeg x4)).toInt = -1 := fun z => c2 (Int32.toInt_inj.mp z)
    by_cases c3 : (lg_cmp ((lushr x1 (g32 o0 4 (Int32.toNatClampNeg x4))) &&& (1 : Int64)) (0 : Int64)) = 0
    · rw [if_pos c3]; exact go
    rw [if_neg c3, show (inb (g32 o0 4 (Int32.toNatClampNeg x4)) 60) = true from inb_iff.mpr ⟨by omega, by omega⟩, chk_tr]
    by_cases c5 : (lg_cmp ((g64 o0 8 (Int32.toNatClampNeg (g32 o0 4 (Int32.toNatClampNeg x4)))) &&& x1) (0 : Int64)) = 0
    · rw [if_pos c5]
      have hb : bt x1 (Int32.toNatClampNeg (g32 o0 4 (Int32.toNatClampNeg x4))) = true := by
        have q := bt_lushr (x := x1) (k := Int32.toNatClampNeg (g32 o0 4 (Int32.toNatClampNeg x4))) (by have := clampI (x := g32 o0 4 (Int32.toNatClampNeg x4)) (by omega); omega) 0
        rw [of_clamp (by omega), Nat.add_zero] at q
        rw [← q]
        cases hq : bt (lushr x1 (g32 o0 4 (Int32.toNatClampNeg x4))) 0
        · exact absurd (and1_bt.mpr hq) c3
        · rfl
      have hcl := pcn_cl (x := x1) (c := g32 o0 4 (Int32.toNatClampNeg x4)) (by omega) (by omega) hb
      have hpz := pcn_0le (x1 &&& ((lshl (1 : Int64) (g32 o0 4 (Int32.toNatClampNeg x4))) ^^^ (-1 : Int64)))
      rw [show (inb (g32 o0 11 0) 24) = true from inb_iff.mpr ⟨f7, by omega⟩, chk_tr]
      have e11 := add1 (x := g32 o0 11 0) (by omega)
      obtain ⟨n0, e, r1, r2, r3⟩ := ih (x1 &&& ((lshl (1 : Int64) (g32 o0 4 (Int32.toNatClampNeg x4))) ^^^ (-1 : Int64))) x3 (x4 + (1 : Int32)) (s32 (s32 o0 10 (Int32.toNatClampNeg (g32 o0 11 0)) x4) 11 0 ((g32 o0 11 0) + (1 : Int32))) ⟨f1, f2, f3, f4, AR.ne (by decide) (AR.ne (by decide) f5), AR.ne (by decide) (AR.eq (by omega) (by omega) f6), by show 0 ≤ ((g32 o0 11 0) + (1 : Int32)).toInt; omega, by show ((g32 o0 11 0) + (1 : Int32)).toInt ≤ 24; omega, AR.ne (by decide) (AR.ne (by decide) f9)⟩ (OC.app hO f7 (by omega) (by omega)) (by show ((g32 o0 11 0) + (1 : Int32)).toInt + _ ≤ 24; omega) h3 h3b hM (by omega) (by omega) (by omega)
      exact ⟨n0, e, r1, r2, r3⟩
    · rw [if_neg c5]; exact go
theorem fo_52 : ∀ (n : Nat) (x1 : Int64) (x3 : Int32) (o : Ob), okText o → OC o → (g32 o 11 0).toInt + pcn x1 ≤ 24 → 0 ≤ x3.toInt → x3.toInt ≤ 24 → 24 - x3.toInt < (n : Int) → ∃ n0, F_Text_findOrder_52 n x1 x3 o = some n0 ∧ okText n0 ∧ OC n0 ∧ FE o n0 := by
  intro n
  induction n with
  | zero => intro x1 x3 o _ _ _ _ _ _; exfalso; omega
  | succ n ih =>
    intro x1 x3 o hT hO hp h3 h3b hn
    rw [F_Text_findOrder_52]
    by_cases c : (24 : Int32) ≤ x3
    · rw [if_pos c]; exact ⟨o, rfl, hT, hO, rfl, rfl⟩
    rw [if_neg c]
    have z24 : (24 : Int32).toInt = 24 := rfl
    have c : ¬ 24 ≤ x3.toInt := fun z => c (Int32.le_iff_toInt_le.mpr (by omega))
    by_cases c2 : (lg_cmp x1 (0 : Int64)) = 0
    · rw [if_pos c2]; exact ⟨o, rfl, hT, hO, rfl, rfl⟩
    rw [if_neg c2]
    have z0 : (0 : Int32).toInt = 0 := rfl
    exact fo_67 n (F_Text_findOrder_52 n) ih fuel x1 x3 0 o hT hO hp h3 (by omega) (by omega) (by omega) (by omega) (by rw [fuel_eq]; omega)
theorem fo_4 : ∀ (n : Nat) (x1 : Int64) (x3 : Int32) (o : Ob), okText o → OC o → (g32 o 11 0).toInt = 0 → pcn x1 ≤ x3.toInt → 0 ≤ x3.toInt → x3.toInt ≤ 24 → 24 - x3.toInt < (n : Int) → ∃ n0, F_Text_findOrder_4 n x1 x3 o = some n0 ∧ okText n0 ∧ OC n0 ∧ FE o n0 := by
  intro n
  induction n with
  | zero => intro x1 x3 o _ _ _ _ _ _ _; exfalso; omega
  | succ n ih =>
    intro x1 x3 o hT hO h11 hp h3 h3b hn
    obtain ⟨f1, f2, f3, f4, f5, f6, f7, f8, f9⟩ := id hT
    rw [F_Text_findOrder_4]
    have z0 : (0 : Int32).toInt = 0 := rfl
    by_cases c : (g32 o 3 0) ≤ x3
    · rw [if_pos c]
      exact fo_52 fuel x1 0 o hT hO (by omega) (by omega) (by omega) (by rw [fuel_eq]; omega)
    rw [if_neg c]
    have c : ¬ (g32 o 3 0).toInt ≤ x3.toInt := fun z => c (Int32.le_iff_toInt_le.mpr z)
    have e3 := add1 (x := x3) (by omega)
    have a4 := f5 (Int32.toNatClampNeg x3)
    have m1 : (-1 : Int32).toInt = -1 := rfl
    have hi : (inb x3 24) = true := inb_iff.mpr ⟨h3, by omega⟩
    have go : ∃ n0, F_Text_findOrder_4 n x1 (x3 + (1 : Int32)) o = some n0 ∧ okText n0 ∧ OC n0 ∧ FE o n0 := ih x1 _ o hT hO h11 (by omega) (by omega) (by omega) (by omega)
    rw [F_Text_isLimit, hi, chk_tr]
    by_cases c2 : (g32 o 4 (Int32.toNatClampNeg x3)) = (-1 : Int32)
    · rw [if_pos c2, bind1_s, if_neg (by decide)]; exact go
    rw [if_neg c2, bind1_s, if_pos (by decide), chk_tr]
    have n1 : ¬ (g32 o 4 (Int32.toNatClampNeg x3)).toInt = -1 := fun z => c2 (Int32.toInt_inj.mp z)
    obtain ⟨v, ev, _⟩ := t_Text_isRing (g32 o 4 (Int32.toNatClampNeg x3)) o (by omega) (by omega)
    rw [ev, bind1_s]
    by_cases c3 : (b2i v) = 0
    · rw [if_pos c3]
      have hor := pcn_or (x := x1) (c := g32 o 4 (Int32.toNatClampNeg x3)) (by omega) (by omega)
      exact ih _ _ o hT hO h11 (by omega) (by omega) (by omega) (by omega)
    · rw [if_neg c3]; exact go
theorem t_Text_findOrder (o0 : Ob) (g0 : okText o0) (g1 : (g32 o0 11 0).toInt = 0) : ∃ (n0 : Ob), F_Text_findOrder o0 = some n0 ∧ (okText n0) ∧ (OC n0) ∧ ((g32 n0 1 0).toInt = (g32 o0 1 0).toInt) ∧ ((g32 n0 3 0).toInt = (g32 o0 3 0).toInt) := by
  have z0 : (0 : Int32).toInt = 0 := rfl
  rw [F_Text_findOrder]
  exact fo_4 fuel 0 0 o0 g0 (OC.none (by omega)) g1 (by rw [pcn_0]; omega) (by omega) (by omega) (by rw [fuel_eq]; omega)
set_option maxHeartbeats 1000000 in
theorem t_Cells_takeReason (x1 : Int32) (x2 : Int32) (o0 : Ob) (g0 : 0 ≤ x1.toInt) (g1 : x1.toInt < 60) : ∃ (n0 : Ob), F_Cells_takeReason x1 x2 o0 = some n0 ∧ (True) := by
  rw [F_Cells_takeReason]
  rw [show (inb x1 60) = true from inb_iff.mpr ⟨tu_, tu_⟩, chk_tr]
  refine ⟨_, rfl, tu_⟩
set_option maxHeartbeats 1000000 in
theorem t_Cells_takeValue (x1 : Int32) (x2 : Int64) (x4 : Int64) (x6 : Int32) (o0 : Ob) (g0 : 0 ≤ x1.toInt) (g1 : x1.toInt < 60) : ∃ (n0 : Ob), F_Cells_takeValue x1 x2 x4 x6 o0 = some n0 ∧ (True) := by
  rw [F_Cells_takeValue]
  rw [show (inb x1 60) = true from inb_iff.mpr ⟨tu_, tu_⟩, chk_tr]
  refine ⟨_, rfl, tu_⟩
set_option maxHeartbeats 1000000 in
theorem t_Cells_isAsIn (x2 : Int32) (o0 : Ob) (o1 : Ob) (g0 : 0 ≤ x2.toInt) (g1 : x2.toInt < 60) : ∃ (r : Bool), F_Cells_isAsIn x2 o0 o1 = some r ∧ (True) := by
  rw [F_Cells_isAsIn]
  rw [show (inb x2 60) = true from inb_iff.mpr ⟨tu_, tu_⟩, chk_tr]
  by_cases c338 : (g32 o0 0 (Int32.toNatClampNeg x2)) = (g32 o1 0 (Int32.toNatClampNeg x2))
  · rw [if_pos c338]
    (try simp (disch := (first | omega | (simp only [Int32.reduceToInt]; omega) | (simp (disch := first | omega | (simp only [Int32.reduceToInt]; omega)) only [tadd, tsub, mul6, neg1, Int32.reduceToInt]; omega))) only [neg1, mul6, g_s, g_l, tadd, tsub, inb_iff, Int32.lt_iff_toInt_lt, Int32.le_iff_toInt_le, i32_eq, b2i_0, Int32.reduceToInt, reduceIte, Nat.reduceEqDiff] at c338)
    by_cases c339 : (lg_cmp (g64 o0 1 (Int32.toNatClampNeg x2)) (g64 o1 1 (Int32.toNatClampNeg x2))) = 0
    · rw [if_pos c339]
      (try simp (disch := (first | omega | (simp only [Int32.reduceToInt]; omega) | (simp (disch := first | omega | (simp only [Int32.reduceToInt]; omega)) only [tadd, tsub, mul6, neg1, Int32.reduceToInt]; omega))) only [neg1, mul6, g_s, g_l, tadd, tsub, inb_iff, Int32.lt_iff_toInt_lt, Int32.le_iff_toInt_le, i32_eq, b2i_0, Int32.reduceToInt, reduceIte, Nat.reduceEqDiff] at c339)
      by_cases c340 : (lg_cmp (g64 o0 2 (Int32.toNatClampNeg x2)) (g64 o1 2 (Int32.toNatClampNeg x2))) = 0
      · rw [if_pos c340]
        (try simp (disch := (first | omega | (simp only [Int32.reduceToInt]; omega) | (simp (disch := first | omega | (simp only [Int32.reduceToInt]; omega)) only [tadd, tsub, mul6, neg1, Int32.reduceToInt]; omega))) only [neg1, mul6, g_s, g_l, tadd, tsub, inb_iff, Int32.lt_iff_toInt_lt, Int32.le_iff_toInt_le, i32_eq, b2i_0, Int32.reduceToInt, reduceIte, Nat.reduceEqDiff] at c340)
        refine ⟨_, rfl, tu_⟩
      · rw [if_neg c340]
        (try simp (disch := (first | omega | (simp only [Int32.reduceToInt]; omega) | (simp (disch := first | omega | (simp only [Int32.reduceToInt]; omega)) only [tadd, tsub, mul6, neg1, Int32.reduceToInt]; omega))) only [neg1, mul6, g_s, g_l, tadd, tsub, inb_iff, Int32.lt_iff_toInt_lt, Int32.le_iff_toInt_le, i32_eq, b2i_0, Int32.reduceToInt, reduceIte, Nat.reduceEqDiff] at c340)
        refine ⟨_, rfl, tu_⟩
    · rw [if_neg c339]
      (try simp (disch := (first | omega | (simp only [Int32.reduceToInt]; omega) | (simp (disch := first | omega | (simp only [Int32.reduceToInt]; omega)) only [tadd, tsub, mul6, neg1, Int32.reduceToInt]; omega))) only [neg1, mul6, g_s, g_l, tadd, tsub, inb_iff, Int32.lt_iff_toInt_lt, Int32.le_iff_toInt_le, i32_eq, b2i_0, Int32.reduceToInt, reduceIte, Nat.reduceEqDiff] at c339)
      refine ⟨_, rfl, tu_⟩
  · rw [if_neg c338]
    (try simp (disch := (first | omega | (simp only [Int32.reduceToInt]; omega) | (simp (disch := first | omega | (simp only [Int32.reduceToInt]; omega)) only [tadd, tsub, mul6, neg1, Int32.reduceToInt]; omega))) only [neg1, mul6, g_s, g_l, tadd, tsub, inb_iff, Int32.lt_iff_toInt_lt, Int32.le_iff_toInt_le, i32_eq, b2i_0, Int32.reduceToInt, reduceIte, Nat.reduceEqDiff] at c338)
    refine ⟨_, rfl, tu_⟩
set_option maxHeartbeats 1000000 in
theorem t_Cells_copyFrom (o0 : Ob) (o1 : Ob)  : ∃ (n0 : Ob), F_Cells_copyFrom o0 o1 = some n0 ∧ (True) := by
  rw [F_Cells_copyFrom]
  refine ⟨_, rfl, tu_⟩
set_option maxHeartbeats 1000000 in
theorem t_JLong_compare (x0 : Int64) (x2 : Int64)  : ∃ (r : Int32), F_JLong_compare x0 x2 = some r ∧ (True) := by
  rw [F_JLong_compare]
  by_cases c341 : 0 ≤ (lg_cmp x0 x2)
  · rw [if_pos c341]
    (try simp (disch := (first | omega | (simp only [Int32.reduceToInt]; omega) | (simp (disch := first | omega | (simp only [Int32.reduceToInt]; omega)) only [tadd, tsub, mul6, neg1, Int32.reduceToInt]; omega))) only [neg1, mul6, g_s, g_l, tadd, tsub, inb_iff, Int32.lt_iff_toInt_lt, Int32.le_iff_toInt_le, i32_eq, b2i_0, Int32.reduceToInt, reduceIte, Nat.reduceEqDiff] at c341)
    by_cases c342 : (lg_cmp x0 x2) = 0
    · rw [if_pos c342]
      (try simp (disch := (first | omega | (simp only [Int32.reduceToInt]; omega) | (simp (disch := first | omega | (simp only [Int32.reduceToInt]; omega)) only [tadd, tsub, mul6, neg1, Int32.reduceToInt]; omega))) only [neg1, mul6, g_s, g_l, tadd, tsub, inb_iff, Int32.lt_iff_toInt_lt, Int32.le_iff_toInt_le, i32_eq, b2i_0, Int32.reduceToInt, reduceIte, Nat.reduceEqDiff] at c342)
      refine ⟨_, rfl, tu_⟩
    · rw [if_neg c342]
      (try simp (disch := (first | omega | (simp only [Int32.reduceToInt]; omega) | (simp (disch := first | omega | (simp only [Int32.reduceToInt]; omega)) only [tadd, tsub, mul6, neg1, Int32.reduceToInt]; omega))) only [neg1, mul6, g_s, g_l, tadd, tsub, inb_iff, Int32.lt_iff_toInt_lt, Int32.le_iff_toInt_le, i32_eq, b2i_0, Int32.reduceToInt, reduceIte, Nat.reduceEqDiff] at c342)
      refine ⟨_, rfl, tu_⟩
  · rw [if_neg c341]
    (try simp (disch := (first | omega | (simp only [Int32.reduceToInt]; omega) | (simp (disch := first | omega | (simp only [Int32.reduceToInt]; omega)) only [tadd, tsub, mul6, neg1, Int32.reduceToInt]; omega))) only [neg1, mul6, g_s, g_l, tadd, tsub, inb_iff, Int32.lt_iff_toInt_lt, Int32.le_iff_toInt_le, i32_eq, b2i_0, Int32.reduceToInt, reduceIte, Nat.reduceEqDiff] at c341)
    refine ⟨_, rfl, tu_⟩
set_option maxHeartbeats 1000000 in
theorem t_PF_commonDivisor_20  : ∀ (n : Nat) (x4 : Int64) (x6 : Int64) (x8 : Int32), (0 ≤ x8.toInt) → (x8.toInt ≤ 100) → (100 - x8.toInt < (n : Int)) → ∃ (r : Int64), F_PF_commonDivisor_20 n x4 x6 x8 = some r ∧ (True) := by
  intro n
  induction n with
  | zero =>
    intro x4 x6 x8 g0 g1 g2
    exfalso
    (try simp (disch := (first | omega | (simp only [Int32.reduceToInt]; omega) | (simp (disch := first | omega | (simp only [Int32.reduceToInt]; omega)) only [tadd, tsub, mul6, neg1, Int32.reduceToInt]; omega))) only [neg1, mul6, g_s, g_l, tadd, tsub, inb_iff, Int32.lt_iff_toInt_lt, Int32.le_iff_toInt_le, i32_eq, b2i_0, Int32.reduceToInt, reduceIte, Nat.reduceEqDiff] at g2)
    exact ari_
  | succ n ih =>
    intro x4 x6 x8 g0 g1 g2
    rw [F_PF_commonDivisor_20]
    (try simp (disch := (first | omega | (simp only [Int32.reduceToInt]; omega) | (simp (disch := first | omega | (simp only [Int32.reduceToInt]; omega)) only [tadd, tsub, mul6, neg1, Int32.reduceToInt]; omega))) only [neg1, mul6, g_s, g_l, tadd, tsub, inb_iff, Int32.lt_iff_toInt_lt, Int32.le_iff_toInt_le, i32_eq, b2i_0, Int32.reduceToInt, reduceIte, Nat.reduceEqDiff] at g2)
    by_cases c343 : (100 : Int32) ≤ x8
    · rw [if_pos c343]
      (try simp (disch := (first | omega | (simp only [Int32.reduceToInt]; omega) | (simp (disch := first | omega | (simp only [Int32.reduceToInt]; omega)) only [tadd, tsub, mul6, neg1, Int32.reduceToInt]; omega))) only [neg1, mul6, g_s, g_l, tadd, tsub, inb_iff, Int32.lt_iff_toInt_lt, Int32.le_iff_toInt_le, i32_eq, b2i_0, Int32.reduceToInt, reduceIte, Nat.reduceEqDiff] at c343)
      refine ⟨_, rfl, tu_⟩
    · rw [if_neg c343]
      (try simp (disch := (first | omega | (simp only [Int32.reduceToInt]; omega) | (simp (disch := first | omega | (simp only [Int32.reduceToInt]; omega)) only [tadd, tsub, mul6, neg1, Int32.reduceToInt]; omega))) only [neg1, mul6, g_s, g_l, tadd, tsub, inb_iff, Int32.lt_iff_toInt_lt, Int32.le_iff_toInt_le, i32_eq, b2i_0, Int32.reduceToInt, reduceIte, Nat.reduceEqDiff] at c343)
      by_cases c344 : (lg_cmp x4 (0 : Int64)) ≤ 0
      · rw [if_pos c344]
        (try simp (disch := (first | omega | (simp only [Int32.reduceToInt]; omega) | (simp (disch := first | omega | (simp only [Int32.reduceToInt]; omega)) only [tadd, tsub, mul6, neg1, Int32.reduceToInt]; omega))) only [neg1, mul6, g_s, g_l, tadd, tsub, inb_iff, Int32.lt_iff_toInt_lt, Int32.le_iff_toInt_le, i32_eq, b2i_0, Int32.reduceToInt, reduceIte, Nat.reduceEqDiff] at c344)
        refine ⟨_, rfl, tu_⟩
      · rw [if_neg c344]
        (try simp (disch := (first | omega | (simp only [Int32.reduceToInt]; omega) | (simp (disch := first | omega | (simp only [Int32.reduceToInt]; omega)) only [tadd, tsub, mul6, neg1, Int32.reduceToInt]; omega))) only [neg1, mul6, g_s, g_l, tadd, tsub, inb_iff, Int32.lt_iff_toInt_lt, Int32.le_iff_toInt_le, i32_eq, b2i_0, Int32.reduceToInt, reduceIte, Nat.reduceEqDiff] at c344)
        rw [show (decide (¬ x4 = 0)) = true from decide_eq_true tu_, chk_tr]
        obtain ⟨y345, e347, p346⟩ := ih (x6 - x6 / x4 * x4) x4 (x8 + (1 : Int32)) (tu_) (tu_) tu_
        refine ⟨y345, e347, tu_⟩
set_option maxHeartbeats 1000000 in
theorem t_PF_commonDivisor (x0 : Int64) (x2 : Int64)  : ∃ (r : Int64), F_PF_commonDivisor x0 x2 = some r ∧ (True) := by
  rw [F_PF_commonDivisor]
  by_cases c348 : 0 ≤ (lg_cmp x0 (0 : Int64))
  · rw [if_pos c348]
    (try simp (disch := (first | omega | (simp only [Int32.reduceToInt]; omega) | (simp (disch := first | omega | (simp only [Int32.reduceToInt]; omega)) only [tadd, tsub, mul6, neg1, Int32.reduceToInt]; omega))) only [neg1, mul6, g_s, g_l, tadd, tsub, inb_iff, Int32.lt_iff_toInt_lt, Int32.le_iff_toInt_le, i32_eq, b2i_0, Int32.reduceToInt, reduceIte, Nat.reduceEqDiff] at c348)
    obtain ⟨y349, e351, p350⟩ := t_PF_commonDivisor_20 fuel x0 x2 (0 : Int32) (tu_) (tu_) tu_
    refine ⟨y349, e351, tu_⟩
  · rw [if_neg c348]
    (try simp (disch := (first | omega | (simp only [Int32.reduceToInt]; omega) | (simp (disch := first | omega | (simp only [Int32.reduceToInt]; omega)) only [tadd, tsub, mul6, neg1, Int32.reduceToInt]; omega))) only [neg1, mul6, g_s, g_l, tadd, tsub, inb_iff, Int32.lt_iff_toInt_lt, Int32.le_iff_toInt_le, i32_eq, b2i_0, Int32.reduceToInt, reduceIte, Nat.reduceEqDiff] at c348)
    obtain ⟨y352, e354, p353⟩ := t_PF_commonDivisor_20 fuel (-x0) x2 (0 : Int32) (tu_) (tu_) tu_
    refine ⟨y352, e354, tu_⟩
set_option maxHeartbeats 1000000 in
theorem t_Reckoner_push (x1 : Int64) (x3 : Int64) (o0 : Ob) (g0 : okReckoner o0) : ∃ (n0 : Ob), F_Reckoner_push x1 x3 o0 = some n0 ∧ (okReckoner n0) ∧ (KO o0 n0) := by
  obtain ⟨f355, f356⟩ := id g0
  rw [F_Reckoner_push]
  by_cases c357 : (19 : Int32) ≤ (g32 o0 4 0)
  · rw [if_pos c357]
    (try simp (disch := (first | omega | (simp only [Int32.reduceToInt]; omega) | (simp (disch := first | omega | (simp only [Int32.reduceToInt]; omega)) only [tadd, tsub, mul6, neg1, Int32.reduceToInt]; omega))) only [neg1, mul6, g_s, g_l, tadd, tsub, inb_iff, Int32.lt_iff_toInt_lt, Int32.le_iff_toInt_le, i32_eq, b2i_0, Int32.reduceToInt, reduceIte, Nat.reduceEqDiff] at c357)
    refine ⟨_, rfl, ok2_, ko_⟩
  · rw [if_neg c357]
    (try simp (disch := (first | omega | (simp only [Int32.reduceToInt]; omega) | (simp (disch := first | omega | (simp only [Int32.reduceToInt]; omega)) only [tadd, tsub, mul6, neg1, Int32.reduceToInt]; omega))) only [neg1, mul6, g_s, g_l, tadd, tsub, inb_iff, Int32.lt_iff_toInt_lt, Int32.le_iff_toInt_le, i32_eq, b2i_0, Int32.reduceToInt, reduceIte, Nat.reduceEqDiff] at c357)
    rw [show (inb (g32 o0 4 0) 19) = true from inb_iff.mpr ⟨tu_, tu_⟩, chk_tr]
    refine ⟨_, rfl, ok2_, ko_⟩
set_option maxHeartbeats 1000000 in
theorem t_Reckoner_settle (x1 : Int64) (x3 : Int64) (o0 : Ob) (g0 : okReckoner o0) : ∃ (n0 : Ob), F_Reckoner_settle x1 x3 o0 = some n0 ∧ (okReckoner n0) ∧ (KO o0 n0) := by
  obtain ⟨f358, f359⟩ := id g0
  rw [F_Reckoner_settle]
  obtain ⟨v2, e361, p360⟩ := t_PF_commonDivisor x1 x3
  rw [e361, bind1_s]
  by_cases c362 : 0 ≤ (lg_cmp v2 (1 : Int64))
  · rw [if_pos c362]
    (try simp (disch := (first | omega | (simp only [Int32.reduceToInt]; omega) | (simp (disch := first | omega | (simp only [Int32.reduceToInt]; omega)) only [tadd, tsub, mul6, neg1, Int32.reduceToInt]; omega))) only [neg1, mul6, g_s, g_l, tadd, tsub, inb_iff, Int32.lt_iff_toInt_lt, Int32.le_iff_toInt_le, i32_eq, b2i_0, Int32.reduceToInt, reduceIte, Nat.reduceEqDiff] at c362)
    rw [show (decide (¬ v2 = 0)) = true from decide_eq_true tu_, chk_tr]
    by_cases c363 : 0 < (lg_cmp (x1 / v2) (1000000000 : Int64))
    · rw [if_pos c363]
      (try simp (disch := (first | omega | (simp only [Int32.reduceToInt]; omega) | (simp (disch := first | omega | (simp only [Int32.reduceToInt]; omega)) only [tadd, tsub, mul6, neg1, Int32.reduceToInt]; omega))) only [neg1, mul6, g_s, g_l, tadd, tsub, inb_iff, Int32.lt_iff_toInt_lt, Int32.le_iff_toInt_le, i32_eq, b2i_0, Int32.reduceToInt, reduceIte, Nat.reduceEqDiff] at c363)
      refine ⟨_, rfl, ok2_, ko_⟩
    · rw [if_neg c363]
      (try simp (disch := (first | omega | (simp only [Int32.reduceToInt]; omega) | (simp (disch := first | omega | (simp only [Int32.reduceToInt]; omega)) only [tadd, tsub, mul6, neg1, Int32.reduceToInt]; omega))) only [neg1, mul6, g_s, g_l, tadd, tsub, inb_iff, Int32.lt_iff_toInt_lt, Int32.le_iff_toInt_le, i32_eq, b2i_0, Int32.reduceToInt, reduceIte, Nat.reduceEqDiff] at c363)
      by_cases c364 : (lg_cmp (x1 / v2) (-1000000000 : Int64)) < 0
      · rw [if_pos c364]
        (try simp (disch := (first | omega | (simp only [Int32.reduceToInt]; omega) | (simp (disch := first | omega | (simp only [Int32.reduceToInt]; omega)) only [tadd, tsub, mul6, neg1, Int32.reduceToInt]; omega))) only [neg1, mul6, g_s, g_l, tadd, tsub, inb_iff, Int32.lt_iff_toInt_lt, Int32.le_iff_toInt_le, i32_eq, b2i_0, Int32.reduceToInt, reduceIte, Nat.reduceEqDiff] at c364)
        refine ⟨_, rfl, ok2_, ko_⟩
      · rw [if_neg c364]
        (try simp (disch := (first | omega | (simp only [Int32.reduceToInt]; omega) | (simp (disch := first | omega | (simp only [Int32.reduceToInt]; omega)) only [tadd, tsub, mul6, neg1, Int32.reduceToInt]; omega))) only [neg1, mul6, g_s, g_l, tadd, tsub, inb_iff, Int32.lt_iff_toInt_lt, Int32.le_iff_toInt_le, i32_eq, b2i_0, Int32.reduceToInt, reduceIte, Nat.reduceEqDiff] at c364)
        by_cases c365 : (lg_cmp (x3 / v2) (1000000000 : Int64)) ≤ 0
        · rw [if_pos c365]
          (try simp (disch := (first | omega | (simp only [Int32.reduceToInt]; omega) | (simp (disch := first | omega | (simp only [Int32.reduceToInt]; omega)) only [tadd, tsub, mul6, neg1, Int32.reduceToInt]; omega))) only [neg1, mul6, g_s, g_l, tadd, tsub, inb_iff, Int32.lt_iff_toInt_lt, Int32.le_iff_toInt_le, i32_eq, b2i_0, Int32.reduceToInt, reduceIte, Nat.reduceEqDiff] at c365)
          obtain ⟨o_10, e368, p366, p367⟩ := t_Reckoner_push (x1 / v2) (x3 / v2) o0 (ok2_)
          rw [e368, bind1_s]
          obtain ⟨f369, f370⟩ := id p366
          refine ⟨_, rfl, ok2_, ko_⟩
        · rw [if_neg c365]
          (try simp (disch := (first | omega | (simp only [Int32.reduceToInt]; omega) | (simp (disch := first | omega | (simp only [Int32.reduceToInt]; omega)) only [tadd, tsub, mul6, neg1, Int32.reduceToInt]; omega))) only [neg1, mul6, g_s, g_l, tadd, tsub, inb_iff, Int32.lt_iff_toInt_lt, Int32.le_iff_toInt_le, i32_eq, b2i_0, Int32.reduceToInt, reduceIte, Nat.reduceEqDiff] at c365)
          refine ⟨_, rfl, ok2_, ko_⟩
  · rw [if_neg c362]
    (try simp (disch := (first | omega | (simp only [Int32.reduceToInt]; omega) | (simp (disch := first | omega | (simp only [Int32.reduceToInt]; omega)) only [tadd, tsub, mul6, neg1, Int32.reduceToInt]; omega))) only [neg1, mul6, g_s, g_l, tadd, tsub, inb_iff, Int32.lt_iff_toInt_lt, Int32.le_iff_toInt_le, i32_eq, b2i_0, Int32.reduceToInt, reduceIte, Nat.reduceEqDiff] at c362)
    refine ⟨_, rfl, ok2_, ko_⟩
set_option maxHeartbeats 1000000 in
theorem t_Reckoner_pushCell (x1 : Int32) (o0 : Ob) (o1 : Ob) (g0 : okReckoner o0) (g1 : 0 ≤ x1.toInt) (g2 : x1.toInt < 60) : ∃ (n0 : Ob), F_Reckoner_pushCell x1 o0 o1 = some n0 ∧ (okReckoner n0) ∧ (KO o0 n0) := by
  obtain ⟨f371, f372⟩ := id g0
  rw [F_Reckoner_pushCell]
  rw [show (inb x1 60) = true from inb_iff.mpr ⟨tu_, tu_⟩, chk_tr]
  by_cases c373 : (g32 o1 0 (Int32.toNatClampNeg x1)) = (1 : Int32)
  · rw [if_pos c373]
    (try simp (disch := (first | omega | (simp only [Int32.reduceToInt]; omega) | (simp (disch := first | omega | (simp only [Int32.reduceToInt]; omega)) only [tadd, tsub, mul6, neg1, Int32.reduceToInt]; omega))) only [neg1, mul6, g_s, g_l, tadd, tsub, inb_iff, Int32.lt_iff_toInt_lt, Int32.le_iff_toInt_le, i32_eq, b2i_0, Int32.reduceToInt, reduceIte, Nat.reduceEqDiff] at c373)
    obtain ⟨o_6, e376, p374, p375⟩ := t_Reckoner_push (g64 o1 1 (Int32.toNatClampNeg x1)) (g64 o1 2 (Int32.toNatClampNeg x1)) o0 (ok2_)
    rw [e376, bind1_s]
    obtain ⟨f377, f378⟩ := id p374
    refine ⟨_, rfl, ok2_, ko_⟩
  · rw [if_neg c373]
    (try simp (disch := (first | omega | (simp only [Int32.reduceToInt]; omega) | (simp (disch := first | omega | (simp only [Int32.reduceToInt]; omega)) only [tadd, tsub, mul6, neg1, Int32.reduceToInt]; omega))) only [neg1, mul6, g_s, g_l, tadd, tsub, inb_iff, Int32.lt_iff_toInt_lt, Int32.le_iff_toInt_le, i32_eq, b2i_0, Int32.reduceToInt, reduceIte, Nat.reduceEqDiff] at c373)
    refine ⟨_, rfl, ok2_, ko_⟩
set_option maxHeartbeats 1000000 in
theorem t_Reckoner_negate (o0 : Ob) (g0 : okReckoner o0) : ∃ (n0 : Ob), F_Reckoner_negate o0 = some n0 ∧ (okReckoner n0) ∧ (KO o0 n0) := by
  obtain ⟨f379, f380⟩ := id g0
  rw [F_Reckoner_negate]
  by_cases c381 : (g32 o0 4 0) ≤ 0
  · rw [if_pos c381]
    (try simp (disch := (first | omega | (simp only [Int32.reduceToInt]; omega) | (simp (disch := first | omega | (simp only [Int32.reduceToInt]; omega)) only [tadd, tsub, mul6, neg1, Int32.reduceToInt]; omega))) only [neg1, mul6, g_s, g_l, tadd, tsub, inb_iff, Int32.lt_iff_toInt_lt, Int32.le_iff_toInt_le, i32_eq, b2i_0, Int32.reduceToInt, reduceIte, Nat.reduceEqDiff] at c381)
    refine ⟨_, rfl, ok2_, ko_⟩
  · rw [if_neg c381]
    (try simp (disch := (first | omega | (simp only [Int32.reduceToInt]; omega) | (simp (disch := first | omega | (simp only [Int32.reduceToInt]; omega)) only [tadd, tsub, mul6, neg1, Int32.reduceToInt]; omega))) only [neg1, mul6, g_s, g_l, tadd, tsub, inb_iff, Int32.lt_iff_toInt_lt, Int32.le_iff_toInt_le, i32_eq, b2i_0, Int32.reduceToInt, reduceIte, Nat.reduceEqDiff] at c381)
    rw [show (inb ((g32 o0 4 0) - (1 : Int32)) 19) = true from inb_iff.mpr ⟨tu_, tu_⟩, chk_tr]
    refine ⟨_, rfl, ok2_, ko_⟩
set_option maxHeartbeats 1000000 in
theorem t_Reckoner_join (x1 : Int32) (o0 : Ob) (g0 : okReckoner o0) : ∃ (n0 : Ob), F_Reckoner_join x1 o0 = some n0 ∧ (okReckoner n0) ∧ (KO o0 n0) := by
  obtain ⟨f382, f383⟩ := id g0
  rw [F_Reckoner_join]
  by_cases c384 : (2 : Int32) ≤ (g32 o0 4 0)
  · rw [if_pos c384]
    (try simp (disch := (first | omega | (simp only [Int32.reduceToInt]; omega) | (simp (disch := first | omega | (simp only [Int32.reduceToInt]; omega)) only [tadd, tsub, mul6, neg1, Int32.reduceToInt]; omega))) only [neg1, mul6, g_s, g_l, tadd, tsub, inb_iff, Int32.lt_iff_toInt_lt, Int32.le_iff_toInt_le, i32_eq, b2i_0, Int32.reduceToInt, reduceIte, Nat.reduceEqDiff] at c384)
    rw [show (inb ((g32 o0 4 0) - (2 : Int32)) 19) = true from inb_iff.mpr ⟨tu_, tu_⟩, chk_tr]
    rw [show (inb (((g32 o0 4 0) - (2 : Int32)) + (1 : Int32)) 19) = true from inb_iff.mpr ⟨tu_, tu_⟩, chk_tr]
    by_cases c385 : x1 = 5
    · rw [if_pos c385]
      (try simp (disch := (first | omega | (simp only [Int32.reduceToInt]; omega) | (simp (disch := first | omega | (simp only [Int32.reduceToInt]; omega)) only [tadd, tsub, mul6, neg1, Int32.reduceToInt]; omega))) only [neg1, mul6, g_s, g_l, tadd, tsub, inb_iff, Int32.lt_iff_toInt_lt, Int32.le_iff_toInt_le, i32_eq, b2i_0, Int32.reduceToInt, reduceIte, Nat.reduceEqDiff] at c385)
      obtain ⟨o_8, e388, p386, p387⟩ := t_Reckoner_settle (((g64 o0 2 (Int32.toNatClampNeg ((g32 o0 4 0) - (2 : Int32)))) * (g64 o0 3 (Int32.toNatClampNeg (((g32 o0 4 0) - (2 : Int32)) + (1 : Int32))))) + ((g64 o0 2 (Int32.toNatClampNeg (((g32 o0 4 0) - (2 : Int32)) + (1 : Int32)))) * (g64 o0 3 (Int32.toNatClampNeg ((g32 o0 4 0) - (2 : Int32)))))) ((g64 o0 3 (Int32.toNatClampNeg ((g32 o0 4 0) - (2 : Int32)))) * (g64 o0 3 (Int32.toNatClampNeg (((g32 o0 4 0) - (2 : Int32)) + (1 : Int32))))) (s32 o0 4 0 ((g32 o0 4 0) - (2 : Int32))) (ok2_)
      rw [e388, bind1_s]
      obtain ⟨f389, f390⟩ := id p386
      refine ⟨_, rfl, ok2_, ko_⟩
    · rw [if_neg c385]
      (try simp (disch := (first | omega | (simp only [Int32.reduceToInt]; omega) | (simp (disch := first | omega | (simp only [Int32.reduceToInt]; omega)) only [tadd, tsub, mul6, neg1, Int32.reduceToInt]; omega))) only [neg1, mul6, g_s, g_l, tadd, tsub, inb_iff, Int32.lt_iff_toInt_lt, Int32.le_iff_toInt_le, i32_eq, b2i_0, Int32.reduceToInt, reduceIte, Nat.reduceEqDiff] at c385)
      by_cases c391 : x1 = 6
      · rw [if_pos c391]
        (try simp (disch := (first | omega | (simp only [Int32.reduceToInt]; omega) | (simp (disch := first | omega | (simp only [Int32.reduceToInt]; omega)) only [tadd, tsub, mul6, neg1, Int32.reduceToInt]; omega))) only [neg1, mul6, g_s, g_l, tadd, tsub, inb_iff, Int32.lt_iff_toInt_lt, Int32.le_iff_toInt_le, i32_eq, b2i_0, Int32.reduceToInt, reduceIte, Nat.reduceEqDiff] at c391)
        obtain ⟨o_11, e394, p392, p393⟩ := t_Reckoner_settle (((g64 o0 2 (Int32.toNatClampNeg ((g32 o0 4 0) - (2 : Int32)))) * (g64 o0 3 (Int32.toNatClampNeg (((g32 o0 4 0) - (2 : Int32)) + (1 : Int32))))) - ((g64 o0 2 (Int32.toNatClampNeg (((g32 o0 4 0) - (2 : Int32)) + (1 : Int32)))) * (g64 o0 3 (Int32.toNatClampNeg ((g32 o0 4 0) - (2 : Int32)))))) ((g64 o0 3 (Int32.toNatClampNeg ((g32 o0 4 0) - (2 : Int32)))) * (g64 o0 3 (Int32.toNatClampNeg (((g32 o0 4 0) - (2 : Int32)) + (1 : Int32))))) (s32 o0 4 0 ((g32 o0 4 0) - (2 : Int32))) (ok2_)
        rw [e394, bind1_s]
        obtain ⟨f395, f396⟩ := id p392
        refine ⟨_, rfl, ok2_, ko_⟩
      · rw [if_neg c391]
        (try simp (disch := (first | omega | (simp only [Int32.reduceToInt]; omega) | (simp (disch := first | omega | (simp only [Int32.reduceToInt]; omega)) only [tadd, tsub, mul6, neg1, Int32.reduceToInt]; omega))) only [neg1, mul6, g_s, g_l, tadd, tsub, inb_iff, Int32.lt_iff_toInt_lt, Int32.le_iff_toInt_le, i32_eq, b2i_0, Int32.reduceToInt, reduceIte, Nat.reduceEqDiff] at c391)
        by_cases c397 : x1 = 7
        · rw [if_pos c397]
          (try simp (disch := (first | omega | (simp only [Int32.reduceToInt]; omega) | (simp (disch := first | omega | (simp only [Int32.reduceToInt]; omega)) only [tadd, tsub, mul6, neg1, Int32.reduceToInt]; omega))) only [neg1, mul6, g_s, g_l, tadd, tsub, inb_iff, Int32.lt_iff_toInt_lt, Int32.le_iff_toInt_le, i32_eq, b2i_0, Int32.reduceToInt, reduceIte, Nat.reduceEqDiff] at c397)
          obtain ⟨o_14, e400, p398, p399⟩ := t_Reckoner_settle ((g64 o0 2 (Int32.toNatClampNeg ((g32 o0 4 0) - (2 : Int32)))) * (g64 o0 2 (Int32.toNatClampNeg (((g32 o0 4 0) - (2 : Int32)) + (1 : Int32))))) ((g64 o0 3 (Int32.toNatClampNeg ((g32 o0 4 0) - (2 : Int32)))) * (g64 o0 3 (Int32.toNatClampNeg (((g32 o0 4 0) - (2 : Int32)) + (1 : Int32))))) (s32 o0 4 0 ((g32 o0 4 0) - (2 : Int32))) (ok2_)
          rw [e400, bind1_s]
          obtain ⟨f401, f402⟩ := id p398
          refine ⟨_, rfl, ok2_, ko_⟩
        · rw [if_neg c397]
          (try simp (disch := (first | omega | (simp only [Int32.reduceToInt]; omega) | (simp (disch := first | omega | (simp only [Int32.reduceToInt]; omega)) only [tadd, tsub, mul6, neg1, Int32.reduceToInt]; omega))) only [neg1, mul6, g_s, g_l, tadd, tsub, inb_iff, Int32.lt_iff_toInt_lt, Int32.le_iff_toInt_le, i32_eq, b2i_0, Int32.reduceToInt, reduceIte, Nat.reduceEqDiff] at c397)
          by_cases c403 : (lg_cmp (g64 o0 2 (Int32.toNatClampNeg (((g32 o0 4 0) - (2 : Int32)) + (1 : Int32)))) (0 : Int64)) = 0
          · rw [if_pos c403]
            (try simp (disch := (first | omega | (simp only [Int32.reduceToInt]; omega) | (simp (disch := first | omega | (simp only [Int32.reduceToInt]; omega)) only [tadd, tsub, mul6, neg1, Int32.reduceToInt]; omega))) only [neg1, mul6, g_s, g_l, tadd, tsub, inb_iff, Int32.lt_iff_toInt_lt, Int32.le_iff_toInt_le, i32_eq, b2i_0, Int32.reduceToInt, reduceIte, Nat.reduceEqDiff] at c403)
            refine ⟨_, rfl, ok2_, ko_⟩
          · rw [if_neg c403]
            (try simp (disch := (first | omega | (simp only [Int32.reduceToInt]; omega) | (simp (disch := first | omega | (simp only [Int32.reduceToInt]; omega)) only [tadd, tsub, mul6, neg1, Int32.reduceToInt]; omega))) only [neg1, mul6, g_s, g_l, tadd, tsub, inb_iff, Int32.lt_iff_toInt_lt, Int32.le_iff_toInt_le, i32_eq, b2i_0, Int32.reduceToInt, reduceIte, Nat.reduceEqDiff] at c403)
            by_cases c404 : (lg_cmp (g64 o0 2 (Int32.toNatClampNeg (((g32 o0 4 0) - (2 : Int32)) + (1 : Int32)))) (0 : Int64)) ≤ 0
            · rw [if_pos c404]
              (try simp (disch := (first | omega | (simp only [Int32.reduceToInt]; omega) | (simp (disch := first | omega | (simp only [Int32.reduceToInt]; omega)) only [tadd, tsub, mul6, neg1, Int32.reduceToInt]; omega))) only [neg1, mul6, g_s, g_l, tadd, tsub, inb_iff, Int32.lt_iff_toInt_lt, Int32.le_iff_toInt_le, i32_eq, b2i_0, Int32.reduceToInt, reduceIte, Nat.reduceEqDiff] at c404)
              obtain ⟨o_18, e407, p405, p406⟩ := t_Reckoner_settle ((-(g64 o0 2 (Int32.toNatClampNeg ((g32 o0 4 0) - (2 : Int32))))) * (g64 o0 3 (Int32.toNatClampNeg (((g32 o0 4 0) - (2 : Int32)) + (1 : Int32))))) ((g64 o0 3 (Int32.toNatClampNeg ((g32 o0 4 0) - (2 : Int32)))) * (-(g64 o0 2 (Int32.toNatClampNeg (((g32 o0 4 0) - (2 : Int32)) + (1 : Int32)))))) (s32 o0 4 0 ((g32 o0 4 0) - (2 : Int32))) (ok2_)
              rw [e407, bind1_s]
              obtain ⟨f408, f409⟩ := id p405
              refine ⟨_, rfl, ok2_, ko_⟩
            · rw [if_neg c404]
              (try simp (disch := (first | omega | (simp only [Int32.reduceToInt]; omega) | (simp (disch := first | omega | (simp only [Int32.reduceToInt]; omega)) only [tadd, tsub, mul6, neg1, Int32.reduceToInt]; omega))) only [neg1, mul6, g_s, g_l, tadd, tsub, inb_iff, Int32.lt_iff_toInt_lt, Int32.le_iff_toInt_le, i32_eq, b2i_0, Int32.reduceToInt, reduceIte, Nat.reduceEqDiff] at c404)
              obtain ⟨o_20, e412, p410, p411⟩ := t_Reckoner_settle ((g64 o0 2 (Int32.toNatClampNeg ((g32 o0 4 0) - (2 : Int32)))) * (g64 o0 3 (Int32.toNatClampNeg (((g32 o0 4 0) - (2 : Int32)) + (1 : Int32))))) ((g64 o0 3 (Int32.toNatClampNeg ((g32 o0 4 0) - (2 : Int32)))) * (g64 o0 2 (Int32.toNatClampNeg (((g32 o0 4 0) - (2 : Int32)) + (1 : Int32))))) (s32 o0 4 0 ((g32 o0 4 0) - (2 : Int32))) (ok2_)
              rw [e412, bind1_s]
              obtain ⟨f413, f414⟩ := id p410
              refine ⟨_, rfl, ok2_, ko_⟩
  · rw [if_neg c384]
    (try simp (disch := (first | omega | (simp only [Int32.reduceToInt]; omega) | (simp (disch := first | omega | (simp only [Int32.reduceToInt]; omega)) only [tadd, tsub, mul6, neg1, Int32.reduceToInt]; omega))) only [neg1, mul6, g_s, g_l, tadd, tsub, inb_iff, Int32.lt_iff_toInt_lt, Int32.le_iff_toInt_le, i32_eq, b2i_0, Int32.reduceToInt, reduceIte, Nat.reduceEqDiff] at c384)
    refine ⟨_, rfl, ok2_, ko_⟩
set_option maxHeartbeats 1000000 in
theorem t_Reckoner_reckon_32 (o1 : Ob) (o2 : Ob) : ∀ (n : Nat) (x2 : Int32) (x4 : Int32) (o0 : Ob), (okReckoner o0) → (okSteps o1) → (0 ≤ x2.toInt) → (x2.toInt < (g32 o1 6 0).toInt) → (0 ≤ x4.toInt) → (x4.toInt ≤ 400) → (400 - x4.toInt < (n : Int)) → ∃ (r : Bool) (n0 : Ob), F_Reckoner_reckon_32 o1 o2 n x2 x4 o0 = some (r, n0) ∧ (okReckoner n0) ∧ (r = true → 0 ≤ x2.toInt ∧ x2.toInt < (g32 o1 6 0).toInt) ∧ (KO o0 n0) := by
  intro n
  induction n with
  | zero =>
    intro x2 x4 o0 g0 g1 g2 g3 g4 g5 g6
    obtain ⟨f415, f416⟩ := id g0
    obtain ⟨f417, f418, f419, f420, f421, f422⟩ := id g1
    exfalso
    (try simp (disch := (first | omega | (simp only [Int32.reduceToInt]; omega) | (simp (disch := first | omega | (simp only [Int32.reduceToInt]; omega)) only [tadd, tsub, mul6, neg1, Int32.reduceToInt]; omega))) only [neg1, mul6, g_s, g_l, tadd, tsub, inb_iff, Int32.lt_iff_toInt_lt, Int32.le_iff_toInt_le, i32_eq, b2i_0, Int32.reduceToInt, reduceIte, Nat.reduceEqDiff] at g6)
    exact ari_
  | succ n ih =>
    intro x2 x4 o0 g0 g1 g2 g3 g4 g5 g6
    obtain ⟨f423, f424⟩ := id g0
    obtain ⟨f425, f426, f427, f428, f429, f430⟩ := id g1
    rw [F_Reckoner_reckon_32]
    (try simp (disch := (first | omega | (simp only [Int32.reduceToInt]; omega) | (simp (disch := first | omega | (simp only [Int32.reduceToInt]; omega)) only [tadd, tsub, mul6, neg1, Int32.reduceToInt]; omega))) only [neg1, mul6, g_s, g_l, tadd, tsub, inb_iff, Int32.lt_iff_toInt_lt, Int32.le_iff_toInt_le, i32_eq, b2i_0, Int32.reduceToInt, reduceIte, Nat.reduceEqDiff] at g6)
    rw [show (inb (x2 + (1 : Int32)) 401) = true from inb_iff.mpr ⟨tu_, tu_⟩, chk_tr]
    have a432 := f429 (Int32.toNatClampNeg (x2 + (1 : Int32)))
    by_cases c431 : (g32 o1 4 (Int32.toNatClampNeg (x2 + (1 : Int32)))) ≤ x4
    · rw [if_pos c431]
      (try simp (disch := (first | omega | (simp only [Int32.reduceToInt]; omega) | (simp (disch := first | omega | (simp only [Int32.reduceToInt]; omega)) only [tadd, tsub, mul6, neg1, Int32.reduceToInt]; omega))) only [neg1, mul6, g_s, g_l, tadd, tsub, inb_iff, Int32.lt_iff_toInt_lt, Int32.le_iff_toInt_le, i32_eq, b2i_0, Int32.reduceToInt, reduceIte, Nat.reduceEqDiff] at c431)
      by_cases c433 : (g32 o0 5 0) = (1 : Int32)
      · rw [if_pos c433]
        (try simp (disch := (first | omega | (simp only [Int32.reduceToInt]; omega) | (simp (disch := first | omega | (simp only [Int32.reduceToInt]; omega)) only [tadd, tsub, mul6, neg1, Int32.reduceToInt]; omega))) only [neg1, mul6, g_s, g_l, tadd, tsub, inb_iff, Int32.lt_iff_toInt_lt, Int32.le_iff_toInt_le, i32_eq, b2i_0, Int32.reduceToInt, reduceIte, Nat.reduceEqDiff] at c433)
        refine ⟨_, _, rfl, ok2_, tu_, ko_⟩
      · rw [if_neg c433]
        (try simp (disch := (first | omega | (simp only [Int32.reduceToInt]; omega) | (simp (disch := first | omega | (simp only [Int32.reduceToInt]; omega)) only [tadd, tsub, mul6, neg1, Int32.reduceToInt]; omega))) only [neg1, mul6, g_s, g_l, tadd, tsub, inb_iff, Int32.lt_iff_toInt_lt, Int32.le_iff_toInt_le, i32_eq, b2i_0, Int32.reduceToInt, reduceIte, Nat.reduceEqDiff] at c433)
        refine ⟨_, _, rfl, ok2_, tu_, ko_⟩
    · rw [if_neg c431]
      (try simp (disch := (first | omega | (simp only [Int32.reduceToInt]; omega) | (simp (disch := first | omega | (simp only [Int32.reduceToInt]; omega)) only [tadd, tsub, mul6, neg1, Int32.reduceToInt]; omega))) only [neg1, mul6, g_s, g_l, tadd, tsub, inb_iff, Int32.lt_iff_toInt_lt, Int32.le_iff_toInt_le, i32_eq, b2i_0, Int32.reduceToInt, reduceIte, Nat.reduceEqDiff] at c431)
      by_cases c434 : (g32 o0 5 0) = (1 : Int32)
      · rw [if_pos c434]
        (try simp (disch := (first | omega | (simp only [Int32.reduceToInt]; omega) | (simp (disch := first | omega | (simp only [Int32.reduceToInt]; omega)) only [tadd, tsub, mul6, neg1, Int32.reduceToInt]; omega))) only [neg1, mul6, g_s, g_l, tadd, tsub, inb_iff, Int32.lt_iff_toInt_lt, Int32.le_iff_toInt_le, i32_eq, b2i_0, Int32.reduceToInt, reduceIte, Nat.reduceEqDiff] at c434)
        rw [show (inb x4 400) = true from inb_iff.mpr ⟨tu_, tu_⟩, chk_tr]
        by_cases c435 : (g32 o1 0 (Int32.toNatClampNeg x4)) = 1
        · rw [if_pos c435]
          (try simp (disch := (first | omega | (simp only [Int32.reduceToInt]; omega) | (simp (disch := first | omega | (simp only [Int32.reduceToInt]; omega)) only [tadd, tsub, mul6, neg1, Int32.reduceToInt]; omega))) only [neg1, mul6, g_s, g_l, tadd, tsub, inb_iff, Int32.lt_iff_toInt_lt, Int32.le_iff_toInt_le, i32_eq, b2i_0, Int32.reduceToInt, reduceIte, Nat.reduceEqDiff] at c435)
          obtain ⟨o_14, e438, p436, p437⟩ := t_Reckoner_settle (Int32.toInt64 (g32 o1 1 (Int32.toNatClampNeg x4))) (Int32.toInt64 (g32 o1 2 (Int32.toNatClampNeg x4))) o0 (ok2_)
          rw [e438, bind1_s]
          obtain ⟨f439, f440⟩ := id p436
          obtain ⟨y441, y442, e446, p443, p444, p445⟩ := ih x2 (x4 + (1 : Int32)) o_14 (ok2_) (ok6_) (tu_) (tu_) (tu_) (tu_) tu_
          obtain ⟨f447, f448⟩ := id p443
          refine ⟨y441, y442, e446, ok2_, tu_, ko_⟩
        · rw [if_neg c435]
          (try simp (disch := (first | omega | (simp only [Int32.reduceToInt]; omega) | (simp (disch := first | omega | (simp only [Int32.reduceToInt]; omega)) only [tadd, tsub, mul6, neg1, Int32.reduceToInt]; omega))) only [neg1, mul6, g_s, g_l, tadd, tsub, inb_iff, Int32.lt_iff_toInt_lt, Int32.le_iff_toInt_le, i32_eq, b2i_0, Int32.reduceToInt, reduceIte, Nat.reduceEqDiff] at c435)
          by_cases c449 : (g32 o1 0 (Int32.toNatClampNeg x4)) = 2
          · rw [if_pos c449]
            (try simp (disch := (first | omega | (simp only [Int32.reduceToInt]; omega) | (simp (disch := first | omega | (simp only [Int32.reduceToInt]; omega)) only [tadd, tsub, mul6, neg1, Int32.reduceToInt]; omega))) only [neg1, mul6, g_s, g_l, tadd, tsub, inb_iff, Int32.lt_iff_toInt_lt, Int32.le_iff_toInt_le, i32_eq, b2i_0, Int32.reduceToInt, reduceIte, Nat.reduceEqDiff] at c449)
            rw [show (inb (g32 o1 1 (Int32.toNatClampNeg x4)) 8) = true from inb_iff.mpr ⟨tu_, tu_⟩, chk_tr]
            obtain ⟨o_19, e452, p450, p451⟩ := t_Reckoner_push (g64 o0 0 (Int32.toNatClampNeg (g32 o1 1 (Int32.toNatClampNeg x4)))) (g64 o0 1 (Int32.toNatClampNeg (g32 o1 1 (Int32.toNatClampNeg x4)))) o0 (ok2_)
            rw [e452, bind1_s]
            obtain ⟨f453, f454⟩ := id p450
            obtain ⟨y455, y456, e460, p457, p458, p459⟩ := ih x2 (x4 + (1 : Int32)) o_19 (ok2_) (ok6_) (tu_) (tu_) (tu_) (tu_) tu_
            obtain ⟨f461, f462⟩ := id p457
            refine ⟨y455, y456, e460, ok2_, tu_, ko_⟩
          · rw [if_neg c449]
            (try simp (disch := (first | omega | (simp only [Int32.reduceToInt]; omega) | (simp (disch := first | omega | (simp only [Int32.reduceToInt]; omega)) only [tadd, tsub, mul6, neg1, Int32.reduceToInt]; omega))) only [neg1, mul6, g_s, g_l, tadd, tsub, inb_iff, Int32.lt_iff_toInt_lt, Int32.le_iff_toInt_le, i32_eq, b2i_0, Int32.reduceToInt, reduceIte, Nat.reduceEqDiff] at c449)
            by_cases c463 : (g32 o1 0 (Int32.toNatClampNeg x4)) = 3
            · rw [if_pos c463]
              (try simp (disch := (first | omega | (simp only [Int32.reduceToInt]; omega) | (simp (disch := first | omega | (simp only [Int32.reduceToInt]; omega)) only [tadd, tsub, mul6, neg1, Int32.reduceToInt]; omega))) only [neg1, mul6, g_s, g_l, tadd, tsub, inb_iff, Int32.lt_iff_toInt_lt, Int32.le_iff_toInt_le, i32_eq, b2i_0, Int32.reduceToInt, reduceIte, Nat.reduceEqDiff] at c463)
              obtain ⟨o_22, e466, p464, p465⟩ := t_Reckoner_pushCell (g32 o1 1 (Int32.toNatClampNeg x4)) o0 o2 (ok2_) (tu_) (tu_)
              rw [e466, bind1_s]
              obtain ⟨f467, f468⟩ := id p464
              obtain ⟨y469, y470, e474, p471, p472, p473⟩ := ih x2 (x4 + (1 : Int32)) o_22 (ok2_) (ok6_) (tu_) (tu_) (tu_) (tu_) tu_
              obtain ⟨f475, f476⟩ := id p471
              refine ⟨y469, y470, e474, ok2_, tu_, ko_⟩
            · rw [if_neg c463]
              (try simp (disch := (first | omega | (simp only [Int32.reduceToInt]; omega) | (simp (disch := first | omega | (simp only [Int32.reduceToInt]; omega)) only [tadd, tsub, mul6, neg1, Int32.reduceToInt]; omega))) only [neg1, mul6, g_s, g_l, tadd, tsub, inb_iff, Int32.lt_iff_toInt_lt, Int32.le_iff_toInt_le, i32_eq, b2i_0, Int32.reduceToInt, reduceIte, Nat.reduceEqDiff] at c463)
              by_cases c477 : (g32 o1 0 (Int32.toNatClampNeg x4)) = 4
              · rw [if_pos c477]
                (try simp (disch := (first | omega | (simp only [Int32.reduceToInt]; omega) | (simp (disch := first | omega | (simp only [Int32.reduceToInt]; omega)) only [tadd, tsub, mul6, neg1, Int32.reduceToInt]; omega))) only [neg1, mul6, g_s, g_l, tadd, tsub, inb_iff, Int32.lt_iff_toInt_lt, Int32.le_iff_toInt_le, i32_eq, b2i_0, Int32.reduceToInt, reduceIte, Nat.reduceEqDiff] at c477)
                obtain ⟨o_25, e480, p478, p479⟩ := t_Reckoner_negate o0 (ok2_)
                rw [e480, bind1_s]
                obtain ⟨f481, f482⟩ := id p478
                obtain ⟨y483, y484, e488, p485, p486, p487⟩ := ih x2 (x4 + (1 : Int32)) o_25 (ok2_) (ok6_) (tu_) (tu_) (tu_) (tu_) tu_
                obtain ⟨f489, f490⟩ := id p485
                refine ⟨y483, y484, e488, ok2_, tu_, ko_⟩
              · rw [if_neg c477]
                (try simp (disch := (first | omega | (simp only [Int32.reduceToInt]; omega) | (simp (disch := first | omega | (simp only [Int32.reduceToInt]; omega)) only [tadd, tsub, mul6, neg1, Int32.reduceToInt]; omega))) only [neg1, mul6, g_s, g_l, tadd, tsub, inb_iff, Int32.lt_iff_toInt_lt, Int32.le_iff_toInt_le, i32_eq, b2i_0, Int32.reduceToInt, reduceIte, Nat.reduceEqDiff] at c477)
                obtain ⟨o_28, e493, p491, p492⟩ := t_Reckoner_join (g32 o1 0 (Int32.toNatClampNeg x4)) o0 (ok2_)
                rw [e493, bind1_s]
                obtain ⟨f494, f495⟩ := id p491
                obtain ⟨y496, y497, e501, p498, p499, p500⟩ := ih x2 (x4 + (1 : Int32)) o_28 (ok2_) (ok6_) (tu_) (tu_) (tu_) (tu_) tu_
                obtain ⟨f502, f503⟩ := id p498
                refine ⟨y496, y497, e501, ok2_, tu_, ko_⟩
      · rw [if_neg c434]
        (try simp (disch := (first | omega | (simp only [Int32.reduceToInt]; omega) | (simp (disch := first | omega | (simp only [Int32.reduceToInt]; omega)) only [tadd, tsub, mul6, neg1, Int32.reduceToInt]; omega))) only [neg1, mul6, g_s, g_l, tadd, tsub, inb_iff, Int32.lt_iff_toInt_lt, Int32.le_iff_toInt_le, i32_eq, b2i_0, Int32.reduceToInt, reduceIte, Nat.reduceEqDiff] at c434)
        by_cases c504 : (g32 o0 5 0) = (1 : Int32)
        · rw [if_pos c504]
          (try simp (disch := (first | omega | (simp only [Int32.reduceToInt]; omega) | (simp (disch := first | omega | (simp only [Int32.reduceToInt]; omega)) only [tadd, tsub, mul6, neg1, Int32.reduceToInt]; omega))) only [neg1, mul6, g_s, g_l, tadd, tsub, inb_iff, Int32.lt_iff_toInt_lt, Int32.le_iff_toInt_le, i32_eq, b2i_0, Int32.reduceToInt, reduceIte, Nat.reduceEqDiff] at c504)
          refine ⟨_, _, rfl, ok2_, tu_, ko_⟩
        · rw [if_neg c504]
          (try simp (disch := (first | omega | (simp only [Int32.reduceToInt]; omega) | (simp (disch := first | omega | (simp only [Int32.reduceToInt]; omega)) only [tadd, tsub, mul6, neg1, Int32.reduceToInt]; omega))) only [neg1, mul6, g_s, g_l, tadd, tsub, inb_iff, Int32.lt_iff_toInt_lt, Int32.le_iff_toInt_le, i32_eq, b2i_0, Int32.reduceToInt, reduceIte, Nat.reduceEqDiff] at c504)
          refine ⟨_, _, rfl, ok2_, tu_, ko_⟩
set_option maxHeartbeats 1000000 in
theorem t_Reckoner_reckon (x2 : Int32) (o0 : Ob) (o1 : Ob) (o2 : Ob) (g0 : okReckoner o0) (g1 : okSteps o1) : ∃ (r : Bool) (n0 : Ob), F_Reckoner_reckon x2 o0 o1 o2 = some (r, n0) ∧ (okReckoner n0) ∧ (r = true → 0 ≤ x2.toInt ∧ x2.toInt < (g32 o1 6 0).toInt) ∧ (KO o0 n0) := by
  obtain ⟨f505, f506⟩ := id g0
  obtain ⟨f507, f508, f509, f510, f511, f512⟩ := id g1
  rw [F_Reckoner_reckon]
  by_cases c513 : x2 < 0
  · rw [if_pos c513]
    (try simp (disch := (first | omega | (simp only [Int32.reduceToInt]; omega) | (simp (disch := first | omega | (simp only [Int32.reduceToInt]; omega)) only [tadd, tsub, mul6, neg1, Int32.reduceToInt]; omega))) only [neg1, mul6, g_s, g_l, tadd, tsub, inb_iff, Int32.lt_iff_toInt_lt, Int32.le_iff_toInt_le, i32_eq, b2i_0, Int32.reduceToInt, reduceIte, Nat.reduceEqDiff] at c513)
    refine ⟨_, _, rfl, ok2_, tu_, ko_⟩
  · rw [if_neg c513]
    (try simp (disch := (first | omega | (simp only [Int32.reduceToInt]; omega) | (simp (disch := first | omega | (simp only [Int32.reduceToInt]; omega)) only [tadd, tsub, mul6, neg1, Int32.reduceToInt]; omega))) only [neg1, mul6, g_s, g_l, tadd, tsub, inb_iff, Int32.lt_iff_toInt_lt, Int32.le_iff_toInt_le, i32_eq, b2i_0, Int32.reduceToInt, reduceIte, Nat.reduceEqDiff] at c513)
    by_cases c514 : x2 < (g32 o1 6 0)
    · rw [if_pos c514]
      (try simp (disch := (first | omega | (simp only [Int32.reduceToInt]; omega) | (simp (disch := first | omega | (simp only [Int32.reduceToInt]; omega)) only [tadd, tsub, mul6, neg1, Int32.reduceToInt]; omega))) only [neg1, mul6, g_s, g_l, tadd, tsub, inb_iff, Int32.lt_iff_toInt_lt, Int32.le_iff_toInt_le, i32_eq, b2i_0, Int32.reduceToInt, reduceIte, Nat.reduceEqDiff] at c514)
      rw [show (inb x2 401) = true from inb_iff.mpr ⟨tu_, tu_⟩, chk_tr]
      have a515 := f511 (Int32.toNatClampNeg x2)
      obtain ⟨y516, y517, e521, p518, p519, p520⟩ := t_Reckoner_reckon_32 o1 o2 fuel x2 (g32 o1 4 (Int32.toNatClampNeg x2)) (s32 (s32 o0 4 0 (0 : Int32)) 5 0 (1 : Int32)) (ok2_) (ok6_) (tu_) (tu_) (tu_) (tu_) tu_
      obtain ⟨f522, f523⟩ := id p518
      refine ⟨y516, y517, e521, ok2_, tu_, ko_⟩
    · rw [if_neg c514]
      (try simp (disch := (first | omega | (simp only [Int32.reduceToInt]; omega) | (simp (disch := first | omega | (simp only [Int32.reduceToInt]; omega)) only [tadd, tsub, mul6, neg1, Int32.reduceToInt]; omega))) only [neg1, mul6, g_s, g_l, tadd, tsub, inb_iff, Int32.lt_iff_toInt_lt, Int32.le_iff_toInt_le, i32_eq, b2i_0, Int32.reduceToInt, reduceIte, Nat.reduceEqDiff] at c514)
      refine ⟨_, _, rfl, ok2_, tu_, ko_⟩
set_option maxHeartbeats 1000000 in
theorem t_Reckoner_judge (x2 : Int32) (o0 : Ob) (o1 : Ob) (o2 : Ob) (g0 : okReckoner o0) (g1 : okSteps o1) : ∃ (r : Int32) (n0 : Ob), F_Reckoner_judge x2 o0 o1 o2 = some (r, n0) ∧ (okReckoner n0) ∧ (KO o0 n0) := by
  obtain ⟨f524, f525⟩ := id g0
  obtain ⟨f526, f527, f528, f529, f530, f531⟩ := id g1
  rw [F_Reckoner_judge]
  obtain ⟨v2, o_3, e535, p532, p533, p534⟩ := t_Reckoner_reckon x2 o0 o1 o2 (ok2_) (ok6_)
  rw [e535, bind2_s]
  obtain ⟨f536, f537⟩ := id p532
  by_cases c538 : (b2i v2) = 0
  · rw [if_pos c538]
    have c538 := b2i_0.mp c538
    subst c538
    refine ⟨_, _, rfl, ok2_, ko_⟩
  · rw [if_neg c538]
    have c538 := b2i_1 c538
    subst c538
    have p533 := p533 rfl
    rw [show (inb (0 : Int32) 19) = true from inb_iff.mpr ⟨tu_, tu_⟩, chk_tr]
    obtain ⟨v8, o_9, e542, p539, p540, p541⟩ := t_Reckoner_reckon (x2 + (1 : Int32)) o_3 o1 o2 (ok2_) (ok6_)
    rw [e542, bind2_s]
    obtain ⟨f543, f544⟩ := id p539
    by_cases c545 : (b2i v8) = 0
    · rw [if_pos c545]
      have c545 := b2i_0.mp c545
      subst c545
      refine ⟨_, _, rfl, ok2_, ko_⟩
    · rw [if_neg c545]
      have c545 := b2i_1 c545
      subst c545
      have p540 := p540 rfl
      obtain ⟨v14, e547, p546⟩ := t_JLong_compare ((g64 o_3 2 (Int32.toNatClampNeg (0 : Int32))) * (g64 o_9 3 (Int32.toNatClampNeg (0 : Int32)))) ((g64 o_9 2 (Int32.toNatClampNeg (0 : Int32))) * (g64 o_3 3 (Int32.toNatClampNeg (0 : Int32))))
      rw [e547, bind1_s]
      rw [show (inb x2 401) = true from inb_iff.mpr ⟨tu_, tu_⟩, chk_tr]
      by_cases c548 : (g32 o1 5 (Int32.toNatClampNeg x2)) = (60 : Int32)
      · rw [if_pos c548]
        (try simp (disch := (first | omega | (simp only [Int32.reduceToInt]; omega) | (simp (disch := first | omega | (simp only [Int32.reduceToInt]; omega)) only [tadd, tsub, mul6, neg1, Int32.reduceToInt]; omega))) only [neg1, mul6, g_s, g_l, tadd, tsub, inb_iff, Int32.lt_iff_toInt_lt, Int32.le_iff_toInt_le, i32_eq, b2i_0, Int32.reduceToInt, reduceIte, Nat.reduceEqDiff] at c548)
        by_cases c549 : 0 ≤ v14
        · rw [if_pos c549]
          (try simp (disch := (first | omega | (simp only [Int32.reduceToInt]; omega) | (simp (disch := first | omega | (simp only [Int32.reduceToInt]; omega)) only [tadd, tsub, mul6, neg1, Int32.reduceToInt]; omega))) only [neg1, mul6, g_s, g_l, tadd, tsub, inb_iff, Int32.lt_iff_toInt_lt, Int32.le_iff_toInt_le, i32_eq, b2i_0, Int32.reduceToInt, reduceIte, Nat.reduceEqDiff] at c549)
          by_cases c550 : (0 : Int32) = 0
          · rw [if_pos c550]
            (try simp (disch := (first | omega | (simp only [Int32.reduceToInt]; omega) | (simp (disch := first | omega | (simp only [Int32.reduceToInt]; omega)) only [tadd, tsub, mul6, neg1, Int32.reduceToInt]; omega))) only [neg1, mul6, g_s, g_l, tadd, tsub, inb_iff, Int32.lt_iff_toInt_lt, Int32.le_iff_toInt_le, i32_eq, b2i_0, Int32.reduceToInt, reduceIte, Nat.reduceEqDiff] at c550)
            refine ⟨_, _, rfl, ok2_, ko_⟩
          · rw [if_neg c550]
            (try simp (disch := (first | omega | (simp only [Int32.reduceToInt]; omega) | (simp (disch := first | omega | (simp only [Int32.reduceToInt]; omega)) only [tadd, tsub, mul6, neg1, Int32.reduceToInt]; omega))) only [neg1, mul6, g_s, g_l, tadd, tsub, inb_iff, Int32.lt_iff_toInt_lt, Int32.le_iff_toInt_le, i32_eq, b2i_0, Int32.reduceToInt, reduceIte, Nat.reduceEqDiff] at c550)
            refine ⟨_, _, rfl, ok2_, ko_⟩
        · rw [if_neg c549]
          (try simp (disch := (first | omega | (simp only [Int32.reduceToInt]; omega) | (simp (disch := first | omega | (simp only [Int32.reduceToInt]; omega)) only [tadd, tsub, mul6, neg1, Int32.reduceToInt]; omega))) only [neg1, mul6, g_s, g_l, tadd, tsub, inb_iff, Int32.lt_iff_toInt_lt, Int32.le_iff_toInt_le, i32_eq, b2i_0, Int32.reduceToInt, reduceIte, Nat.reduceEqDiff] at c549)
          by_cases c551 : (1 : Int32) = 0
          · rw [if_pos c551]
            (try simp (disch := (first | omega | (simp only [Int32.reduceToInt]; omega) | (simp (disch := first | omega | (simp only [Int32.reduceToInt]; omega)) only [tadd, tsub, mul6, neg1, Int32.reduceToInt]; omega))) only [neg1, mul6, g_s, g_l, tadd, tsub, inb_iff, Int32.lt_iff_toInt_lt, Int32.le_iff_toInt_le, i32_eq, b2i_0, Int32.reduceToInt, reduceIte, Nat.reduceEqDiff] at c551)
            refine ⟨_, _, rfl, ok2_, ko_⟩
          · rw [if_neg c551]
            (try simp (disch := (first | omega | (simp only [Int32.reduceToInt]; omega) | (simp (disch := first | omega | (simp only [Int32.reduceToInt]; omega)) only [tadd, tsub, mul6, neg1, Int32.reduceToInt]; omega))) only [neg1, mul6, g_s, g_l, tadd, tsub, inb_iff, Int32.lt_iff_toInt_lt, Int32.le_iff_toInt_le, i32_eq, b2i_0, Int32.reduceToInt, reduceIte, Nat.reduceEqDiff] at c551)
            refine ⟨_, _, rfl, ok2_, ko_⟩
      · rw [if_neg c548]
        (try simp (disch := (first | omega | (simp only [Int32.reduceToInt]; omega) | (simp (disch := first | omega | (simp only [Int32.reduceToInt]; omega)) only [tadd, tsub, mul6, neg1, Int32.reduceToInt]; omega))) only [neg1, mul6, g_s, g_l, tadd, tsub, inb_iff, Int32.lt_iff_toInt_lt, Int32.le_iff_toInt_le, i32_eq, b2i_0, Int32.reduceToInt, reduceIte, Nat.reduceEqDiff] at c548)
        by_cases c552 : (g32 o1 5 (Int32.toNatClampNeg x2)) = (62 : Int32)
        · rw [if_pos c552]
          (try simp (disch := (first | omega | (simp only [Int32.reduceToInt]; omega) | (simp (disch := first | omega | (simp only [Int32.reduceToInt]; omega)) only [tadd, tsub, mul6, neg1, Int32.reduceToInt]; omega))) only [neg1, mul6, g_s, g_l, tadd, tsub, inb_iff, Int32.lt_iff_toInt_lt, Int32.le_iff_toInt_le, i32_eq, b2i_0, Int32.reduceToInt, reduceIte, Nat.reduceEqDiff] at c552)
          by_cases c553 : v14 ≤ 0
          · rw [if_pos c553]
            (try simp (disch := (first | omega | (simp only [Int32.reduceToInt]; omega) | (simp (disch := first | omega | (simp only [Int32.reduceToInt]; omega)) only [tadd, tsub, mul6, neg1, Int32.reduceToInt]; omega))) only [neg1, mul6, g_s, g_l, tadd, tsub, inb_iff, Int32.lt_iff_toInt_lt, Int32.le_iff_toInt_le, i32_eq, b2i_0, Int32.reduceToInt, reduceIte, Nat.reduceEqDiff] at c553)
            by_cases c554 : (0 : Int32) = 0
            · rw [if_pos c554]
              (try simp (disch := (first | omega | (simp only [Int32.reduceToInt]; omega) | (simp (disch := first | omega | (simp only [Int32.reduceToInt]; omega)) only [tadd, tsub, mul6, neg1, Int32.reduceToInt]; omega))) only [neg1, mul6, g_s, g_l, tadd, tsub, inb_iff, Int32.lt_iff_toInt_lt, Int32.le_iff_toInt_le, i32_eq, b2i_0, Int32.reduceToInt, reduceIte, Nat.reduceEqDiff] at c554)
              refine ⟨_, _, rfl, ok2_, ko_⟩
            · rw [if_neg c554]
              (try simp (disch := (first | omega | (simp only [Int32.reduceToInt]; omega) | (simp (disch := first | omega | (simp only [Int32.reduceToInt]; omega)) only [tadd, tsub, mul6, neg1, Int32.reduceToInt]; omega))) only [neg1, mul6, g_s, g_l, tadd, tsub, inb_iff, Int32.lt_iff_toInt_lt, Int32.le_iff_toInt_le, i32_eq, b2i_0, Int32.reduceToInt, reduceIte, Nat.reduceEqDiff] at c554)
              refine ⟨_, _, rfl, ok2_, ko_⟩
          · rw [if_neg c553]
            (try simp (disch := (first | omega | (simp only [Int32.reduceToInt]; omega) | (simp (disch := first | omega | (simp only [Int32.reduceToInt]; omega)) only [tadd, tsub, mul6, neg1, Int32.reduceToInt]; omega))) only [neg1, mul6, g_s, g_l, tadd, tsub, inb_iff, Int32.lt_iff_toInt_lt, Int32.le_iff_toInt_le, i32_eq, b2i_0, Int32.reduceToInt, reduceIte, Nat.reduceEqDiff] at c553)
            by_cases c555 : (1 : Int32) = 0
            · rw [if_pos c555]
              (try simp (disch := (first | omega | (simp only [Int32.reduceToInt]; omega) | (simp (disch := first | omega | (simp only [Int32.reduceToInt]; omega)) only [tadd, tsub, mul6, neg1, Int32.reduceToInt]; omega))) only [neg1, mul6, g_s, g_l, tadd, tsub, inb_iff, Int32.lt_iff_toInt_lt, Int32.le_iff_toInt_le, i32_eq, b2i_0, Int32.reduceToInt, reduceIte, Nat.reduceEqDiff] at c555)
              refine ⟨_, _, rfl, ok2_, ko_⟩
            · rw [if_neg c555]
              (try simp (disch := (first | omega | (simp only [Int32.reduceToInt]; omega) | (simp (disch := first | omega | (simp only [Int32.reduceToInt]; omega)) only [tadd, tsub, mul6, neg1, Int32.reduceToInt]; omega))) only [neg1, mul6, g_s, g_l, tadd, tsub, inb_iff, Int32.lt_iff_toInt_lt, Int32.le_iff_toInt_le, i32_eq, b2i_0, Int32.reduceToInt, reduceIte, Nat.reduceEqDiff] at c555)
              refine ⟨_, _, rfl, ok2_, ko_⟩
        · rw [if_neg c552]
          (try simp (disch := (first | omega | (simp only [Int32.reduceToInt]; omega) | (simp (disch := first | omega | (simp only [Int32.reduceToInt]; omega)) only [tadd, tsub, mul6, neg1, Int32.reduceToInt]; omega))) only [neg1, mul6, g_s, g_l, tadd, tsub, inb_iff, Int32.lt_iff_toInt_lt, Int32.le_iff_toInt_le, i32_eq, b2i_0, Int32.reduceToInt, reduceIte, Nat.reduceEqDiff] at c552)
          by_cases c556 : v14 = 0
          · rw [if_pos c556]
            (try simp (disch := (first | omega | (simp only [Int32.reduceToInt]; omega) | (simp (disch := first | omega | (simp only [Int32.reduceToInt]; omega)) only [tadd, tsub, mul6, neg1, Int32.reduceToInt]; omega))) only [neg1, mul6, g_s, g_l, tadd, tsub, inb_iff, Int32.lt_iff_toInt_lt, Int32.le_iff_toInt_le, i32_eq, b2i_0, Int32.reduceToInt, reduceIte, Nat.reduceEqDiff] at c556)
            by_cases c557 : (1 : Int32) = 0
            · rw [if_pos c557]
              (try simp (disch := (first | omega | (simp only [Int32.reduceToInt]; omega) | (simp (disch := first | omega | (simp only [Int32.reduceToInt]; omega)) only [tadd, tsub, mul6, neg1, Int32.reduceToInt]; omega))) only [neg1, mul6, g_s, g_l, tadd, tsub, inb_iff, Int32.lt_iff_toInt_lt, Int32.le_iff_toInt_le, i32_eq, b2i_0, Int32.reduceToInt, reduceIte, Nat.reduceEqDiff] at c557)
              refine ⟨_, _, rfl, ok2_, ko_⟩
            · rw [if_neg c557]
              (try simp (disch := (first | omega | (simp only [Int32.reduceToInt]; omega) | (simp (disch := first | omega | (simp only [Int32.reduceToInt]; omega)) only [tadd, tsub, mul6, neg1, Int32.reduceToInt]; omega))) only [neg1, mul6, g_s, g_l, tadd, tsub, inb_iff, Int32.lt_iff_toInt_lt, Int32.le_iff_toInt_le, i32_eq, b2i_0, Int32.reduceToInt, reduceIte, Nat.reduceEqDiff] at c557)
              refine ⟨_, _, rfl, ok2_, ko_⟩
          · rw [if_neg c556]
            (try simp (disch := (first | omega | (simp only [Int32.reduceToInt]; omega) | (simp (disch := first | omega | (simp only [Int32.reduceToInt]; omega)) only [tadd, tsub, mul6, neg1, Int32.reduceToInt]; omega))) only [neg1, mul6, g_s, g_l, tadd, tsub, inb_iff, Int32.lt_iff_toInt_lt, Int32.le_iff_toInt_le, i32_eq, b2i_0, Int32.reduceToInt, reduceIte, Nat.reduceEqDiff] at c556)
            by_cases c558 : (0 : Int32) = 0
            · rw [if_pos c558]
              (try simp (disch := (first | omega | (simp only [Int32.reduceToInt]; omega) | (simp (disch := first | omega | (simp only [Int32.reduceToInt]; omega)) only [tadd, tsub, mul6, neg1, Int32.reduceToInt]; omega))) only [neg1, mul6, g_s, g_l, tadd, tsub, inb_iff, Int32.lt_iff_toInt_lt, Int32.le_iff_toInt_le, i32_eq, b2i_0, Int32.reduceToInt, reduceIte, Nat.reduceEqDiff] at c558)
              refine ⟨_, _, rfl, ok2_, ko_⟩
            · rw [if_neg c558]
              (try simp (disch := (first | omega | (simp only [Int32.reduceToInt]; omega) | (simp (disch := first | omega | (simp only [Int32.reduceToInt]; omega)) only [tadd, tsub, mul6, neg1, Int32.reduceToInt]; omega))) only [neg1, mul6, g_s, g_l, tadd, tsub, inb_iff, Int32.lt_iff_toInt_lt, Int32.le_iff_toInt_le, i32_eq, b2i_0, Int32.reduceToInt, reduceIte, Nat.reduceEqDiff] at c558)
              refine ⟨_, _, rfl, ok2_, ko_⟩
set_option maxHeartbeats 1000000 in
theorem t_Reckoner_workOut_78 (o1 : Ob) (o2 : Ob) (x4 : Int32) (x5 : Int32) (x6 : Int32) (o0 : Ob) (o3 : Ob) (g0 : okReckoner o0) (g1 : okText o1) (g2 : okSteps o2) (g3 : 0 ≤ x4.toInt) (g4 : x4.toInt < 60) : ∃ (n0 : Ob) (n3 : Ob), F_Reckoner_workOut_78 o1 o2 x4 x5 x6 o0 o3 = some (n0, n3) ∧ (okReckoner n0) ∧ (KO o0 n0) := by
  obtain ⟨f559, f560⟩ := id g0
  obtain ⟨f561, f562, f563, f564, f565, f566, f567, f568, f569⟩ := id g1
  obtain ⟨f570, f571, f572, f573, f574, f575⟩ := id g2
  rw [F_Reckoner_workOut_78]
  obtain ⟨v13, o_14, e579, p576, p577, p578⟩ := t_Reckoner_reckon x5 o0 o2 o3 (ok2_) (ok6_)
  rw [e579, bind2_s]
  obtain ⟨f580, f581⟩ := id p576
  by_cases c582 : (b2i v13) = 0
  · rw [if_pos c582]
    have c582 := b2i_0.mp c582
    subst c582
    obtain ⟨o_17, e584, p583⟩ := t_Cells_takeReason x4 (g32 o_14 5 0) o3 (tu_) (tu_)
    rw [e584, bind1_s]
    refine ⟨_, _, rfl, ok2_, ko_⟩
  · rw [if_neg c582]
    have c582 := b2i_1 c582
    subst c582
    have p577 := p577 rfl
    rw [show (inb (0 : Int32) 19) = true from inb_iff.mpr ⟨tu_, tu_⟩, chk_tr]
    obtain ⟨o_21, e586, p585⟩ := t_Cells_takeValue x4 (g64 o_14 2 (Int32.toNatClampNeg (0 : Int32))) (g64 o_14 3 (Int32.toNatClampNeg (0 : Int32))) x6 o3 (tu_) (tu_)
    rw [e586, bind1_s]
    refine ⟨_, _, rfl, ok2_, ko_⟩
set_option maxHeartbeats 1000000 in
theorem t_Reckoner_workOut_19 (o1 : Ob) (o2 : Ob) : ∀ (n : Nat) (x2 : Int32) (x4 : Int32) (x5 : Int32) (x6 : Int32) (o0 : Ob) (o3 : Ob), (okReckoner o0) → (okText o1) → (okSteps o2) → (0 ≤ x2.toInt) → (x2.toInt < 24) → (0 ≤ x4.toInt) → (x4.toInt < 60) → (0 ≤ x6.toInt) → (x6.toInt ≤ 6) → (6 - x6.toInt < (n : Int)) → ∃ (n0 : Ob) (n3 : Ob), F_Reckoner_workOut_19 o1 o2 n x2 x4 x5 x6 o0 o3 = some (n0, n3) ∧ (okReckoner n0) ∧ (KO o0 n0) := by
  intro n
  induction n with
  | zero =>
    intro x2 x4 x5 x6 o0 o3 g0 g1 g2 g3 g4 g5 g6 g7 g8 g9
    obtain ⟨f587, f588⟩ := id g0
    obtain ⟨f589, f590, f591, f592, f593, f594, f595, f596, f597⟩ := id g1
    obtain ⟨f598, f599, f600, f601, f602, f603⟩ := id g2
    exfalso
    (try simp (disch := (first | omega | (simp only [Int32.reduceToInt]; omega) | (simp (disch := first | omega | (simp only [Int32.reduceToInt]; omega)) only [tadd, tsub, mul6, neg1, Int32.reduceToInt]; omega))) only [neg1, mul6, g_s, g_l, tadd, tsub, inb_iff, Int32.lt_iff_toInt_lt, Int32.le_iff_toInt_le, i32_eq, b2i_0, Int32.reduceToInt, reduceIte, Nat.reduceEqDiff] at g9)
    exact ari_
  | succ n ih =>
    intro x2 x4 x5 x6 o0 o3 g0 g1 g2 g3 g4 g5 g6 g7 g8 g9
    obtain ⟨f604, f605⟩ := id g0
    obtain ⟨f606, f607, f608, f609, f610, f611, f612, f613, f614⟩ := id g1
    obtain ⟨f615, f616, f617, f618, f619, f620⟩ := id g2
    rw [F_Reckoner_workOut_19]
    (try simp (disch := (first | omega | (simp only [Int32.reduceToInt]; omega) | (simp (disch := first | omega | (simp only [Int32.reduceToInt]; omega)) only [tadd, tsub, mul6, neg1, Int32.reduceToInt]; omega))) only [neg1, mul6, g_s, g_l, tadd, tsub, inb_iff, Int32.lt_iff_toInt_lt, Int32.le_iff_toInt_le, i32_eq, b2i_0, Int32.reduceToInt, reduceIte, Nat.reduceEqDiff] at g9)
    rw [show (inb x2 24) = true from inb_iff.mpr ⟨tu_, tu_⟩, chk_tr]
    have a622 := f614 (Int32.toNatClampNeg x2)
    by_cases c621 : (g32 o1 6 (Int32.toNatClampNeg x2)) ≤ x6
    · rw [if_pos c621]
      (try simp (disch := (first | omega | (simp only [Int32.reduceToInt]; omega) | (simp (disch := first | omega | (simp only [Int32.reduceToInt]; omega)) only [tadd, tsub, mul6, neg1, Int32.reduceToInt]; omega))) only [neg1, mul6, g_s, g_l, tadd, tsub, inb_iff, Int32.lt_iff_toInt_lt, Int32.le_iff_toInt_le, i32_eq, b2i_0, Int32.reduceToInt, reduceIte, Nat.reduceEqDiff] at c621)
      obtain ⟨y623, y624, e627, p625, p626⟩ := t_Reckoner_workOut_78 o1 o2 x4 x5 x6 o0 o3 (ok2_) (ok9_) (ok6_) (tu_) (tu_)
      obtain ⟨f628, f629⟩ := id p625
      refine ⟨y623, y624, e627, ok2_, ko_⟩
    · rw [if_neg c621]
      (try simp (disch := (first | omega | (simp only [Int32.reduceToInt]; omega) | (simp (disch := first | omega | (simp only [Int32.reduceToInt]; omega)) only [tadd, tsub, mul6, neg1, Int32.reduceToInt]; omega))) only [neg1, mul6, g_s, g_l, tadd, tsub, inb_iff, Int32.lt_iff_toInt_lt, Int32.le_iff_toInt_le, i32_eq, b2i_0, Int32.reduceToInt, reduceIte, Nat.reduceEqDiff] at c621)
      obtain ⟨v6, o_7, e632, p630, p631⟩ := t_Reckoner_judge x5 o0 o2 o3 (ok2_) (ok6_)
      rw [e632, bind2_s]
      obtain ⟨f633, f634⟩ := id p630
      by_cases c635 : v6 = 0
      · rw [if_pos c635]
        (try simp (disch := (first | omega | (simp only [Int32.reduceToInt]; omega) | (simp (disch := first | omega | (simp only [Int32.reduceToInt]; omega)) only [tadd, tsub, mul6, neg1, Int32.reduceToInt]; omega))) only [neg1, mul6, g_s, g_l, tadd, tsub, inb_iff, Int32.lt_iff_toInt_lt, Int32.le_iff_toInt_le, i32_eq, b2i_0, Int32.reduceToInt, reduceIte, Nat.reduceEqDiff] at c635)
        obtain ⟨y636, y637, e640, p638, p639⟩ := t_Reckoner_workOut_78 o1 o2 x4 (x5 + (2 : Int32)) x6 o_7 o3 (ok2_) (ok9_) (ok6_) (tu_) (tu_)
        obtain ⟨f641, f642⟩ := id p638
        refine ⟨y636, y637, e640, ok2_, ko_⟩
      · rw [if_neg c635]
        (try simp (disch := (first | omega | (simp only [Int32.reduceToInt]; omega) | (simp (disch := first | omega | (simp only [Int32.reduceToInt]; omega)) only [tadd, tsub, mul6, neg1, Int32.reduceToInt]; omega))) only [neg1, mul6, g_s, g_l, tadd, tsub, inb_iff, Int32.lt_iff_toInt_lt, Int32.le_iff_toInt_le, i32_eq, b2i_0, Int32.reduceToInt, reduceIte, Nat.reduceEqDiff] at c635)
        by_cases c643 : v6 = (1 : Int32)
        · rw [if_pos c643]
          (try simp (disch := (first | omega | (simp only [Int32.reduceToInt]; omega) | (simp (disch := first | omega | (simp only [Int32.reduceToInt]; omega)) only [tadd, tsub, mul6, neg1, Int32.reduceToInt]; omega))) only [neg1, mul6, g_s, g_l, tadd, tsub, inb_iff, Int32.lt_iff_toInt_lt, Int32.le_iff_toInt_le, i32_eq, b2i_0, Int32.reduceToInt, reduceIte, Nat.reduceEqDiff] at c643)
          obtain ⟨y644, y645, e648, p646, p647⟩ := ih x2 x4 (x5 + (3 : Int32)) (x6 + (1 : Int32)) o_7 o3 (ok2_) (ok9_) (ok6_) (tu_) (tu_) (tu_) (tu_) (tu_) (tu_) tu_
          obtain ⟨f649, f650⟩ := id p646
          refine ⟨y644, y645, e648, ok2_, ko_⟩
        · rw [if_neg c643]
          (try simp (disch := (first | omega | (simp only [Int32.reduceToInt]; omega) | (simp (disch := first | omega | (simp only [Int32.reduceToInt]; omega)) only [tadd, tsub, mul6, neg1, Int32.reduceToInt]; omega))) only [neg1, mul6, g_s, g_l, tadd, tsub, inb_iff, Int32.lt_iff_toInt_lt, Int32.le_iff_toInt_le, i32_eq, b2i_0, Int32.reduceToInt, reduceIte, Nat.reduceEqDiff] at c643)
          obtain ⟨o_11, e652, p651⟩ := t_Cells_takeReason x4 v6 o3 (tu_) (tu_)
          rw [e652, bind1_s]
          refine ⟨_, _, rfl, ok2_, ko_⟩
set_option maxHeartbeats 1000000 in
theorem t_Reckoner_workOut (x2 : Int32) (o0 : Ob) (o1 : Ob) (o2 : Ob) (o3 : Ob) (g0 : okReckoner o0) (g1 : okText o1) (g2 : okSteps o2) (g3 : 0 ≤ x2.toInt) (g4 : x2.toInt < 24) (g5 : 0 ≤ (g32 o1 4 (Int32.toNatClampNeg x2)).toInt) : ∃ (n0 : Ob) (n3 : Ob), F_Reckoner_workOut x2 o0 o1 o2 o3 = some (n0, n3) ∧ (okReckoner n0) ∧ (KO o0 n0) := by
  obtain ⟨f653, f654⟩ := id g0
  obtain ⟨f655, f656, f657, f658, f659, f660, f661, f662, f663⟩ := id g1
  obtain ⟨f664, f665, f666, f667, f668, f669⟩ := id g2
  rw [F_Reckoner_workOut]
  rw [show (inb x2 24) = true from inb_iff.mpr ⟨tu_, tu_⟩, chk_tr]
  have a670 := f659 (Int32.toNatClampNeg x2)
  obtain ⟨y671, y672, e675, p673, p674⟩ := t_Reckoner_workOut_19 o1 o2 fuel x2 (g32 o1 4 (Int32.toNatClampNeg x2)) (g32 o1 5 (Int32.toNatClampNeg x2)) (0 : Int32) o0 o3 (ok2_) (ok9_) (ok6_) (tu_) (tu_) (tu_) (tu_) (tu_) (tu_) tu_
  obtain ⟨f676, f677⟩ := id p673
  refine ⟨y671, y672, e675, ok2_, ko_⟩
set_option maxHeartbeats 1000000 in
theorem t_Reckoner_workOutHanging_6 (o1 : Ob) (o2 : Ob) : ∀ (n : Nat) (x2 : Int32) (x4 : Int32) (x5 : Int32) (o0 : Ob) (o3 : Ob), (okReckoner o0) → (okText o1) → (okSteps o2) → (OC o1) → (0 ≤ x5.toInt) → (x5.toInt ≤ 24) → (24 - x5.toInt < (n : Int)) → ∃ (r : Int32) (n0 : Ob) (n3 : Ob), F_Reckoner_workOutHanging_6 o1 o2 n x2 x4 x5 o0 o3 = some (r, n0, n3) ∧ (okReckoner n0) ∧ (KO o0 n0) := by
  intro n
  induction n with
  | zero =>
    intro x2 x4 x5 o0 o3 g0 g1 g2 g3 g4 g5 g6
    obtain ⟨f678, f679⟩ := id g0
    obtain ⟨f680, f681, f682, f683, f684, f685, f686, f687, f688⟩ := id g1
    obtain ⟨f689, f690, f691, f692, f693, f694⟩ := id g2
    exfalso
    (try simp (disch := (first | omega | (simp only [Int32.reduceToInt]; omega) | (simp (disch := first | omega | (simp only [Int32.reduceToInt]; omega)) only [tadd, tsub, mul6, neg1, Int32.reduceToInt]; omega))) only [neg1, mul6, g_s, g_l, tadd, tsub, inb_iff, Int32.lt_iff_toInt_lt, Int32.le_iff_toInt_le, i32_eq, b2i_0, Int32.reduceToInt, reduceIte, Nat.reduceEqDiff] at g6)
    exact ari_
  | succ n ih =>
    intro x2 x4 x5 o0 o3 g0 g1 g2 g3 g4 g5 g6
    obtain ⟨f695, f696⟩ := id g0
    obtain ⟨f697, f698, f699, f700, f701, f702, f703, f704, f705⟩ := id g1
    obtain ⟨f706, f707, f708, f709, f710, f711⟩ := id g2
    rw [F_Reckoner_workOutHanging_6]
    (try simp (disch := (first | omega | (simp only [Int32.reduceToInt]; omega) | (simp (disch := first | omega | (simp only [Int32.reduceToInt]; omega)) only [tadd, tsub, mul6, neg1, Int32.reduceToInt]; omega))) only [neg1, mul6, g_s, g_l, tadd, tsub, inb_iff, Int32.lt_iff_toInt_lt, Int32.le_iff_toInt_le, i32_eq, b2i_0, Int32.reduceToInt, reduceIte, Nat.reduceEqDiff] at g6)
    by_cases c712 : (g32 o1 11 0) ≤ x5
    · rw [if_pos c712]
      (try simp (disch := (first | omega | (simp only [Int32.reduceToInt]; omega) | (simp (disch := first | omega | (simp only [Int32.reduceToInt]; omega)) only [tadd, tsub, mul6, neg1, Int32.reduceToInt]; omega))) only [neg1, mul6, g_s, g_l, tadd, tsub, inb_iff, Int32.lt_iff_toInt_lt, Int32.le_iff_toInt_le, i32_eq, b2i_0, Int32.reduceToInt, reduceIte, Nat.reduceEqDiff] at c712)
      refine ⟨_, _, _, rfl, ok2_, ko_⟩
    · rw [if_neg c712]
      (try simp (disch := (first | omega | (simp only [Int32.reduceToInt]; omega) | (simp (disch := first | omega | (simp only [Int32.reduceToInt]; omega)) only [tadd, tsub, mul6, neg1, Int32.reduceToInt]; omega))) only [neg1, mul6, g_s, g_l, tadd, tsub, inb_iff, Int32.lt_iff_toInt_lt, Int32.le_iff_toInt_le, i32_eq, b2i_0, Int32.reduceToInt, reduceIte, Nat.reduceEqDiff] at c712)
      rw [show (inb x5 24) = true from inb_iff.mpr ⟨tu_, tu_⟩, chk_tr]
      have a713 := f702 (Int32.toNatClampNeg x5)
      rw [show (inb (g32 o1 10 (Int32.toNatClampNeg x5)) 24) = true from inb_iff.mpr ⟨tu_, tu_⟩, chk_tr]
      have a714 := f701 (Int32.toNatClampNeg (g32 o1 10 (Int32.toNatClampNeg x5)))
      obtain ⟨v5, e716, p715⟩ := t_Text_hangsOn (g32 o1 4 (Int32.toNatClampNeg (g32 o1 10 (Int32.toNatClampNeg x5)))) x2 o1 (tu_) (tu_)
      rw [e716, bind1_s]
      by_cases c717 : (b2i v5) = 0
      · rw [if_pos c717]
        have c717 := b2i_0.mp c717
        subst c717
        obtain ⟨y718, y719, y720, e723, p721, p722⟩ := ih x2 x4 (x5 + (1 : Int32)) o0 o3 (ok2_) (ok9_) (ok6_) (oc_) (tu_) (tu_) tu_
        obtain ⟨f724, f725⟩ := id p721
        refine ⟨y718, y719, y720, e723, ok2_, ko_⟩
      · rw [if_neg c717]
        have c717 := b2i_1 c717
        subst c717
        obtain ⟨o_8, o_9, e728, p726, p727⟩ := t_Reckoner_workOut (g32 o1 10 (Int32.toNatClampNeg x5)) o0 o1 o2 o3 (ok2_) (ok9_) (ok6_) (tu_) (tu_) (tu_)
        rw [e728, bind2_s]
        obtain ⟨f729, f730⟩ := id p726
        obtain ⟨y731, y732, y733, e736, p734, p735⟩ := ih x2 (x4 + (1 : Int32)) (x5 + (1 : Int32)) o_8 o_9 (ok2_) (ok9_) (ok6_) (oc_) (tu_) (tu_) tu_
        obtain ⟨f737, f738⟩ := id p734
        refine ⟨y731, y732, y733, e736, ok2_, ko_⟩
set_option maxHeartbeats 1000000 in
theorem t_Reckoner_workOutHanging (x2 : Int32) (o0 : Ob) (o1 : Ob) (o2 : Ob) (o3 : Ob) (g0 : okReckoner o0) (g1 : okText o1) (g2 : okSteps o2) (g3 : OC o1) : ∃ (r : Int32) (n0 : Ob) (n3 : Ob), F_Reckoner_workOutHanging x2 o0 o1 o2 o3 = some (r, n0, n3) ∧ (okReckoner n0) ∧ (KO o0 n0) := by
  obtain ⟨f739, f740⟩ := id g0
  obtain ⟨f741, f742, f743, f744, f745, f746, f747, f748, f749⟩ := id g1
  obtain ⟨f750, f751, f752, f753, f754, f755⟩ := id g2
  rw [F_Reckoner_workOutHanging]
  obtain ⟨y756, y757, y758, e761, p759, p760⟩ := t_Reckoner_workOutHanging_6 o1 o2 fuel x2 (0 : Int32) (0 : Int32) o0 o3 (ok2_) (ok9_) (ok6_) (oc_) (tu_) (tu_) tu_
  obtain ⟨f762, f763⟩ := id p759
  refine ⟨y756, y757, y758, e761, ok2_, ko_⟩
set_option maxHeartbeats 1000000 in
theorem t_Reckoner_workOutAll_34 (o1 : Ob) (o2 : Ob) : ∀ (n : Nat) (x3 : Int32) (o0 : Ob) (o3 : Ob), (okReckoner o0) → (okText o1) → (okSteps o2) → (OC o1) → (0 ≤ x3.toInt) → (x3.toInt ≤ 24) → (24 - x3.toInt < (n : Int)) → ∃ (n0 : Ob) (n3 : Ob), F_Reckoner_workOutAll_34 o1 o2 n x3 o0 o3 = some (n0, n3) ∧ (okReckoner n0) ∧ (KO o0 n0) := by
  intro n
  induction n with
  | zero =>
    intro x3 o0 o3 g0 g1 g2 g3 g4 g5 g6
    obtain ⟨f764, f765⟩ := id g0
    obtain ⟨f766, f767, f768, f769, f770, f771, f772, f773, f774⟩ := id g1
    obtain ⟨f775, f776, f777, f778, f779, f780⟩ := id g2
    exfalso
    (try simp (disch := (first | omega | (simp only [Int32.reduceToInt]; omega) | (simp (disch := first | omega | (simp only [Int32.reduceToInt]; omega)) only [tadd, tsub, mul6, neg1, Int32.reduceToInt]; omega))) only [neg1, mul6, g_s, g_l, tadd, tsub, inb_iff, Int32.lt_iff_toInt_lt, Int32.le_iff_toInt_le, i32_eq, b2i_0, Int32.reduceToInt, reduceIte, Nat.reduceEqDiff] at g6)
    exact ari_
  | succ n ih =>
    intro x3 o0 o3 g0 g1 g2 g3 g4 g5 g6
    obtain ⟨f781, f782⟩ := id g0
    obtain ⟨f783, f784, f785, f786, f787, f788, f789, f790, f791⟩ := id g1
    obtain ⟨f792, f793, f794, f795, f796, f797⟩ := id g2
    rw [F_Reckoner_workOutAll_34]
    (try simp (disch := (first | omega | (simp only [Int32.reduceToInt]; omega) | (simp (disch := first | omega | (simp only [Int32.reduceToInt]; omega)) only [tadd, tsub, mul6, neg1, Int32.reduceToInt]; omega))) only [neg1, mul6, g_s, g_l, tadd, tsub, inb_iff, Int32.lt_iff_toInt_lt, Int32.le_iff_toInt_le, i32_eq, b2i_0, Int32.reduceToInt, reduceIte, Nat.reduceEqDiff] at g6)
    by_cases c798 : (g32 o1 11 0) ≤ x3
    · rw [if_pos c798]
      (try simp (disch := (first | omega | (simp only [Int32.reduceToInt]; omega) | (simp (disch := first | omega | (simp only [Int32.reduceToInt]; omega)) only [tadd, tsub, mul6, neg1, Int32.reduceToInt]; omega))) only [neg1, mul6, g_s, g_l, tadd, tsub, inb_iff, Int32.lt_iff_toInt_lt, Int32.le_iff_toInt_le, i32_eq, b2i_0, Int32.reduceToInt, reduceIte, Nat.reduceEqDiff] at c798)
      refine ⟨_, _, rfl, ok2_, ko_⟩
    · rw [if_neg c798]
      (try simp (disch := (first | omega | (simp only [Int32.reduceToInt]; omega) | (simp (disch := first | omega | (simp only [Int32.reduceToInt]; omega)) only [tadd, tsub, mul6, neg1, Int32.reduceToInt]; omega))) only [neg1, mul6, g_s, g_l, tadd, tsub, inb_iff, Int32.lt_iff_toInt_lt, Int32.le_iff_toInt_le, i32_eq, b2i_0, Int32.reduceToInt, reduceIte, Nat.reduceEqDiff] at c798)
      rw [show (inb x3 24) = true from inb_iff.mpr ⟨tu_, tu_⟩, chk_tr]
      have a799 := f788 (Int32.toNatClampNeg x3)
      obtain ⟨o_12, o_13, e802, p800, p801⟩ := t_Reckoner_workOut (g32 o1 10 (Int32.toNatClampNeg x3)) o0 o1 o2 o3 (ok2_) (ok9_) (ok6_) (tu_) (tu_) (tu_)
      rw [e802, bind2_s]
      obtain ⟨f803, f804⟩ := id p800
      obtain ⟨y805, y806, e809, p807, p808⟩ := ih (x3 + (1 : Int32)) o_12 o_13 (ok2_) (ok9_) (ok6_) (oc_) (tu_) (tu_) tu_
      obtain ⟨f810, f811⟩ := id p807
      refine ⟨y805, y806, e809, ok2_, ko_⟩
set_option maxHeartbeats 1000000 in
theorem t_Reckoner_workOutAll_2 (o1 : Ob) (o2 : Ob) : ∀ (n : Nat) (x3 : Int32) (o0 : Ob) (o3 : Ob), (okReckoner o0) → (okText o1) → (okSteps o2) → (OC o1) → (0 ≤ x3.toInt) → (x3.toInt ≤ 60) → (60 - x3.toInt < (n : Int)) → ∃ (n0 : Ob) (n3 : Ob), F_Reckoner_workOutAll_2 o1 o2 n x3 o0 o3 = some (n0, n3) ∧ (okReckoner n0) ∧ (KO o0 n0) := by
  intro n
  induction n with
  | zero =>
    intro x3 o0 o3 g0 g1 g2 g3 g4 g5 g6
    obtain ⟨f812, f813⟩ := id g0
    obtain ⟨f814, f815, f816, f817, f818, f819, f820, f821, f822⟩ := id g1
    obtain ⟨f823, f824, f825, f826, f827, f828⟩ := id g2
    exfalso
    (try simp (disch := (first | omega | (simp only [Int32.reduceToInt]; omega) | (simp (disch := first | omega | (simp only [Int32.reduceToInt]; omega)) only [tadd, tsub, mul6, neg1, Int32.reduceToInt]; omega))) only [neg1, mul6, g_s, g_l, tadd, tsub, inb_iff, Int32.lt_iff_toInt_lt, Int32.le_iff_toInt_le, i32_eq, b2i_0, Int32.reduceToInt, reduceIte, Nat.reduceEqDiff] at g6)
    exact ari_
  | succ n ih =>
    intro x3 o0 o3 g0 g1 g2 g3 g4 g5 g6
    obtain ⟨f829, f830⟩ := id g0
    obtain ⟨f831, f832, f833, f834, f835, f836, f837, f838, f839⟩ := id g1
    obtain ⟨f840, f841, f842, f843, f844, f845⟩ := id g2
    rw [F_Reckoner_workOutAll_2]
    (try simp (disch := (first | omega | (simp only [Int32.reduceToInt]; omega) | (simp (disch := first | omega | (simp only [Int32.reduceToInt]; omega)) only [tadd, tsub, mul6, neg1, Int32.reduceToInt]; omega))) only [neg1, mul6, g_s, g_l, tadd, tsub, inb_iff, Int32.lt_iff_toInt_lt, Int32.le_iff_toInt_le, i32_eq, b2i_0, Int32.reduceToInt, reduceIte, Nat.reduceEqDiff] at g6)
    by_cases c846 : (60 : Int32) ≤ x3
    · rw [if_pos c846]
      (try simp (disch := (first | omega | (simp only [Int32.reduceToInt]; omega) | (simp (disch := first | omega | (simp only [Int32.reduceToInt]; omega)) only [tadd, tsub, mul6, neg1, Int32.reduceToInt]; omega))) only [neg1, mul6, g_s, g_l, tadd, tsub, inb_iff, Int32.lt_iff_toInt_lt, Int32.le_iff_toInt_le, i32_eq, b2i_0, Int32.reduceToInt, reduceIte, Nat.reduceEqDiff] at c846)
      obtain ⟨y847, y848, e851, p849, p850⟩ := t_Reckoner_workOutAll_34 o1 o2 fuel (0 : Int32) o0 o3 (ok2_) (ok9_) (ok6_) (oc_) (tu_) (tu_) tu_
      obtain ⟨f852, f853⟩ := id p849
      refine ⟨y847, y848, e851, ok2_, ko_⟩
    · rw [if_neg c846]
      (try simp (disch := (first | omega | (simp only [Int32.reduceToInt]; omega) | (simp (disch := first | omega | (simp only [Int32.reduceToInt]; omega)) only [tadd, tsub, mul6, neg1, Int32.reduceToInt]; omega))) only [neg1, mul6, g_s, g_l, tadd, tsub, inb_iff, Int32.lt_iff_toInt_lt, Int32.le_iff_toInt_le, i32_eq, b2i_0, Int32.reduceToInt, reduceIte, Nat.reduceEqDiff] at c846)
      obtain ⟨v3, e855, p854⟩ := t_Text_isRing x3 o1 (tu_) (tu_)
      rw [e855, bind1_s]
      by_cases c856 : (b2i v3) = 0
      · rw [if_pos c856]
        have c856 := b2i_0.mp c856
        subst c856
        obtain ⟨o_6, e858, p857⟩ := t_Cells_takeReason x3 (0 : Int32) o3 (tu_) (tu_)
        rw [e858, bind1_s]
        obtain ⟨y859, y860, e863, p861, p862⟩ := ih (x3 + (1 : Int32)) o0 o_6 (ok2_) (ok9_) (ok6_) (oc_) (tu_) (tu_) tu_
        obtain ⟨f864, f865⟩ := id p861
        refine ⟨y859, y860, e863, ok2_, ko_⟩
      · rw [if_neg c856]
        have c856 := b2i_1 c856
        subst c856
        obtain ⟨o_8, e867, p866⟩ := t_Cells_takeReason x3 (4 : Int32) o3 (tu_) (tu_)
        rw [e867, bind1_s]
        obtain ⟨y868, y869, e872, p870, p871⟩ := ih (x3 + (1 : Int32)) o0 o_8 (ok2_) (ok9_) (ok6_) (oc_) (tu_) (tu_) tu_
        obtain ⟨f873, f874⟩ := id p870
        refine ⟨y868, y869, e872, ok2_, ko_⟩
set_option maxHeartbeats 1000000 in
theorem t_Reckoner_workOutAll (o0 : Ob) (o1 : Ob) (o2 : Ob) (o3 : Ob) (g0 : okReckoner o0) (g1 : okText o1) (g2 : okSteps o2) (g3 : OC o1) : ∃ (n0 : Ob) (n3 : Ob), F_Reckoner_workOutAll o0 o1 o2 o3 = some (n0, n3) ∧ (okReckoner n0) ∧ (KO o0 n0) := by
  obtain ⟨f875, f876⟩ := id g0
  obtain ⟨f877, f878, f879, f880, f881, f882, f883, f884, f885⟩ := id g1
  obtain ⟨f886, f887, f888, f889, f890, f891⟩ := id g2
  rw [F_Reckoner_workOutAll]
  obtain ⟨y892, y893, e896, p894, p895⟩ := t_Reckoner_workOutAll_2 o1 o2 fuel (0 : Int32) o0 o3 (ok2_) (ok9_) (ok6_) (oc_) (tu_) (tu_) tu_
  obtain ⟨f897, f898⟩ := id p894
  refine ⟨y892, y893, e896, ok2_, ko_⟩
set_option maxHeartbeats 1000000 in
theorem t_Reckoner_whyBroken (x2 : Int32) (o0 : Ob) (o1 : Ob) (o2 : Ob) (o3 : Ob) (g0 : okReckoner o0) (g1 : okText o1) (g2 : okSteps o2) (g3 : 0 ≤ x2.toInt) (g4 : x2.toInt < 24) : ∃ (r : Int32) (n0 : Ob), F_Reckoner_whyBroken x2 o0 o1 o2 o3 = some (r, n0) ∧ (okReckoner n0) ∧ (KO o0 n0) := by
  obtain ⟨f899, f900⟩ := id g0
  obtain ⟨f901, f902, f903, f904, f905, f906, f907, f908, f909⟩ := id g1
  obtain ⟨f910, f911, f912, f913, f914, f915⟩ := id g2
  rw [F_Reckoner_whyBroken]
  obtain ⟨v2, e917, p916⟩ := t_Text_isLimit x2 o1 (ok9_) (tu_) (tu_)
  rw [e917, bind1_s]
  by_cases c918 : (b2i v2) = 0
  · rw [if_pos c918]
    have c918 := b2i_0.mp c918
    subst c918
    refine ⟨_, _, rfl, ok2_, ko_⟩
  · rw [if_neg c918]
    have c918 := b2i_1 c918
    subst c918
    rw [show (inb x2 24) = true from inb_iff.mpr ⟨tu_, tu_⟩, chk_tr]
    obtain ⟨v6, o_7, e921, p919, p920⟩ := t_Reckoner_judge (g32 o1 5 (Int32.toNatClampNeg x2)) o0 o2 o3 (ok2_) (ok6_)
    rw [e921, bind2_s]
    obtain ⟨f922, f923⟩ := id p919
    refine ⟨_, _, rfl, ok2_, ko_⟩
set_option maxHeartbeats 1000000 in
theorem t_Reckoner_isAnyBroken_2 (o1 : Ob) (o2 : Ob) (o3 : Ob) : ∀ (n : Nat) (x3 : Int32) (o0 : Ob), (okReckoner o0) → (okText o1) → (okSteps o2) → (0 ≤ x3.toInt) → (x3.toInt ≤ 24) → (24 - x3.toInt < (n : Int)) → ∃ (r : Bool) (n0 : Ob), F_Reckoner_isAnyBroken_2 o1 o2 o3 n x3 o0 = some (r, n0) ∧ (okReckoner n0) ∧ (KO o0 n0) := by
  intro n
  induction n with
  | zero =>
    intro x3 o0 g0 g1 g2 g3 g4 g5
    obtain ⟨f924, f925⟩ := id g0
    obtain ⟨f926, f927, f928, f929, f930, f931, f932, f933, f934⟩ := id g1
    obtain ⟨f935, f936, f937, f938, f939, f940⟩ := id g2
    exfalso
    (try simp (disch := (first | omega | (simp only [Int32.reduceToInt]; omega) | (simp (disch := first | omega | (simp only [Int32.reduceToInt]; omega)) only [tadd, tsub, mul6, neg1, Int32.reduceToInt]; omega))) only [neg1, mul6, g_s, g_l, tadd, tsub, inb_iff, Int32.lt_iff_toInt_lt, Int32.le_iff_toInt_le, i32_eq, b2i_0, Int32.reduceToInt, reduceIte, Nat.reduceEqDiff] at g5)
    exact ari_
  | succ n ih =>
    intro x3 o0 g0 g1 g2 g3 g4 g5
    obtain ⟨f941, f942⟩ := id g0
    obtain ⟨f943, f944, f945, f946, f947, f948, f949, f950, f951⟩ := id g1
    obtain ⟨f952, f953, f954, f955, f956, f957⟩ := id g2
    rw [F_Reckoner_isAnyBroken_2]
    (try simp (disch := (first | omega | (simp only [Int32.reduceToInt]; omega) | (simp (disch := first | omega | (simp only [Int32.reduceToInt]; omega)) only [tadd, tsub, mul6, neg1, Int32.reduceToInt]; omega))) only [neg1, mul6, g_s, g_l, tadd, tsub, inb_iff, Int32.lt_iff_toInt_lt, Int32.le_iff_toInt_le, i32_eq, b2i_0, Int32.reduceToInt, reduceIte, Nat.reduceEqDiff] at g5)
    by_cases c958 : (g32 o1 3 0) ≤ x3
    · rw [if_pos c958]
      (try simp (disch := (first | omega | (simp only [Int32.reduceToInt]; omega) | (simp (disch := first | omega | (simp only [Int32.reduceToInt]; omega)) only [tadd, tsub, mul6, neg1, Int32.reduceToInt]; omega))) only [neg1, mul6, g_s, g_l, tadd, tsub, inb_iff, Int32.lt_iff_toInt_lt, Int32.le_iff_toInt_le, i32_eq, b2i_0, Int32.reduceToInt, reduceIte, Nat.reduceEqDiff] at c958)
      refine ⟨_, _, rfl, ok2_, ko_⟩
    · rw [if_neg c958]
      (try simp (disch := (first | omega | (simp only [Int32.reduceToInt]; omega) | (simp (disch := first | omega | (simp only [Int32.reduceToInt]; omega)) only [tadd, tsub, mul6, neg1, Int32.reduceToInt]; omega))) only [neg1, mul6, g_s, g_l, tadd, tsub, inb_iff, Int32.lt_iff_toInt_lt, Int32.le_iff_toInt_le, i32_eq, b2i_0, Int32.reduceToInt, reduceIte, Nat.reduceEqDiff] at c958)
      obtain ⟨v3, o_4, e961, p959, p960⟩ := t_Reckoner_whyBroken x3 o0 o1 o2 o3 (ok2_) (ok9_) (ok6_) (tu_) (tu_)
      rw [e961, bind2_s]
      obtain ⟨f962, f963⟩ := id p959
      by_cases c964 : v3 = 0
      · rw [if_pos c964]
        (try simp (disch := (first | omega | (simp only [Int32.reduceToInt]; omega) | (simp (disch := first | omega | (simp only [Int32.reduceToInt]; omega)) only [tadd, tsub, mul6, neg1, Int32.reduceToInt]; omega))) only [neg1, mul6, g_s, g_l, tadd, tsub, inb_iff, Int32.lt_iff_toInt_lt, Int32.le_iff_toInt_le, i32_eq, b2i_0, Int32.reduceToInt, reduceIte, Nat.reduceEqDiff] at c964)
        obtain ⟨y965, y966, e969, p967, p968⟩ := ih (x3 + (1 : Int32)) o_4 (ok2_) (ok9_) (ok6_) (tu_) (tu_) tu_
        obtain ⟨f970, f971⟩ := id p967
        refine ⟨y965, y966, e969, ok2_, ko_⟩
      · rw [if_neg c964]
        (try simp (disch := (first | omega | (simp only [Int32.reduceToInt]; omega) | (simp (disch := first | omega | (simp only [Int32.reduceToInt]; omega)) only [tadd, tsub, mul6, neg1, Int32.reduceToInt]; omega))) only [neg1, mul6, g_s, g_l, tadd, tsub, inb_iff, Int32.lt_iff_toInt_lt, Int32.le_iff_toInt_le, i32_eq, b2i_0, Int32.reduceToInt, reduceIte, Nat.reduceEqDiff] at c964)
        refine ⟨_, _, rfl, ok2_, ko_⟩
set_option maxHeartbeats 1000000 in
theorem t_Reckoner_isAnyBroken (o0 : Ob) (o1 : Ob) (o2 : Ob) (o3 : Ob) (g0 : okReckoner o0) (g1 : okText o1) (g2 : okSteps o2) : ∃ (r : Bool) (n0 : Ob), F_Reckoner_isAnyBroken o0 o1 o2 o3 = some (r, n0) ∧ (okReckoner n0) ∧ (KO o0 n0) := by
  obtain ⟨f972, f973⟩ := id g0
  obtain ⟨f974, f975, f976, f977, f978, f979, f980, f981, f982⟩ := id g1
  obtain ⟨f983, f984, f985, f986, f987, f988⟩ := id g2
  rw [F_Reckoner_isAnyBroken]
  obtain ⟨y989, y990, e993, p991, p992⟩ := t_Reckoner_isAnyBroken_2 o1 o2 o3 fuel (0 : Int32) o0 (ok2_) (ok9_) (ok6_) (tu_) (tu_) tu_
  obtain ⟨f994, f995⟩ := id p991
  refine ⟨y989, y990, e993, ok2_, ko_⟩
set_option maxHeartbeats 1000000 in
theorem t_Reckoner_changeOption_54 (x1 : Int32) (x8 : Int64) (x10 : Int64) (o0 : Ob) (g0 : okReckoner o0) (g1 : 0 ≤ x1.toInt) (g2 : x1.toInt < 8) : ∃ (r : Bool) (n0 : Ob), F_Reckoner_changeOption_54 x1 x8 x10 o0 = some (r, n0) ∧ (okReckoner n0) := by
  obtain ⟨f996, f997⟩ := id g0
  rw [F_Reckoner_changeOption_54]
  rw [show (inb x1 8) = true from inb_iff.mpr ⟨tu_, tu_⟩, chk_tr]
  refine ⟨_, _, rfl, ok2_⟩
set_option maxHeartbeats 1000000 in
theorem t_Reckoner_changeOption (x1 : Int32) (x2 : Int64) (x4 : Int64) (o0 : Ob) (g0 : okReckoner o0) (g1 : 0 ≤ x1.toInt) (g2 : x1.toInt < 8) : ∃ (r : Bool) (n0 : Ob), F_Reckoner_changeOption x1 x2 x4 o0 = some (r, n0) ∧ (okReckoner n0) := by
  obtain ⟨f998, f999⟩ := id g0
  rw [F_Reckoner_changeOption]
  obtain ⟨v2, e1001, p1000⟩ := t_PF_commonDivisor x2 x4
  rw [e1001, bind1_s]
  by_cases c1002 : 0 ≤ (lg_cmp v2 (1 : Int64))
  · rw [if_pos c1002]
    (try simp (disch := (first | omega | (simp only [Int32.reduceToInt]; omega) | (simp (disch := first | omega | (simp only [Int32.reduceToInt]; omega)) only [tadd, tsub, mul6, neg1, Int32.reduceToInt]; omega))) only [neg1, mul6, g_s, g_l, tadd, tsub, inb_iff, Int32.lt_iff_toInt_lt, Int32.le_iff_toInt_le, i32_eq, b2i_0, Int32.reduceToInt, reduceIte, Nat.reduceEqDiff] at c1002)
    rw [show (decide (¬ v2 = 0)) = true from decide_eq_true tu_, chk_tr]
    rw [show (inb x1 8) = true from inb_iff.mpr ⟨tu_, tu_⟩, chk_tr]
    by_cases c1003 : (lg_cmp (g64 o0 0 (Int32.toNatClampNeg x1)) (x2 / v2)) = 0
    · rw [if_pos c1003]
      (try simp (disch := (first | omega | (simp only [Int32.reduceToInt]; omega) | (simp (disch := first | omega | (simp only [Int32.reduceToInt]; omega)) only [tadd, tsub, mul6, neg1, Int32.reduceToInt]; omega))) only [neg1, mul6, g_s, g_l, tadd, tsub, inb_iff, Int32.lt_iff_toInt_lt, Int32.le_iff_toInt_le, i32_eq, b2i_0, Int32.reduceToInt, reduceIte, Nat.reduceEqDiff] at c1003)
      by_cases c1004 : (lg_cmp (g64 o0 1 (Int32.toNatClampNeg x1)) (x4 / v2)) = 0
      · rw [if_pos c1004]
        (try simp (disch := (first | omega | (simp only [Int32.reduceToInt]; omega) | (simp (disch := first | omega | (simp only [Int32.reduceToInt]; omega)) only [tadd, tsub, mul6, neg1, Int32.reduceToInt]; omega))) only [neg1, mul6, g_s, g_l, tadd, tsub, inb_iff, Int32.lt_iff_toInt_lt, Int32.le_iff_toInt_le, i32_eq, b2i_0, Int32.reduceToInt, reduceIte, Nat.reduceEqDiff] at c1004)
        refine ⟨_, _, rfl, ok2_⟩
      · rw [if_neg c1004]
        (try simp (disch := (first | omega | (simp only [Int32.reduceToInt]; omega) | (simp (disch := first | omega | (simp only [Int32.reduceToInt]; omega)) only [tadd, tsub, mul6, neg1, Int32.reduceToInt]; omega))) only [neg1, mul6, g_s, g_l, tadd, tsub, inb_iff, Int32.lt_iff_toInt_lt, Int32.le_iff_toInt_le, i32_eq, b2i_0, Int32.reduceToInt, reduceIte, Nat.reduceEqDiff] at c1004)
        obtain ⟨y1005, y1006, e1008, p1007⟩ := t_Reckoner_changeOption_54 x1 (x2 / v2) (x4 / v2) o0 (ok2_) (tu_) (tu_)
        obtain ⟨f1009, f1010⟩ := id p1007
        refine ⟨y1005, y1006, e1008, ok2_⟩
    · rw [if_neg c1003]
      (try simp (disch := (first | omega | (simp only [Int32.reduceToInt]; omega) | (simp (disch := first | omega | (simp only [Int32.reduceToInt]; omega)) only [tadd, tsub, mul6, neg1, Int32.reduceToInt]; omega))) only [neg1, mul6, g_s, g_l, tadd, tsub, inb_iff, Int32.lt_iff_toInt_lt, Int32.le_iff_toInt_le, i32_eq, b2i_0, Int32.reduceToInt, reduceIte, Nat.reduceEqDiff] at c1003)
      obtain ⟨y1011, y1012, e1014, p1013⟩ := t_Reckoner_changeOption_54 x1 (x2 / v2) (x4 / v2) o0 (ok2_) (tu_) (tu_)
      obtain ⟨f1015, f1016⟩ := id p1013
      refine ⟨y1011, y1012, e1014, ok2_⟩
  · rw [if_neg c1002]
    (try simp (disch := (first | omega | (simp only [Int32.reduceToInt]; omega) | (simp (disch := first | omega | (simp only [Int32.reduceToInt]; omega)) only [tadd, tsub, mul6, neg1, Int32.reduceToInt]; omega))) only [neg1, mul6, g_s, g_l, tadd, tsub, inb_iff, Int32.lt_iff_toInt_lt, Int32.le_iff_toInt_le, i32_eq, b2i_0, Int32.reduceToInt, reduceIte, Nat.reduceEqDiff] at c1002)
    refine ⟨_, _, rfl, ok2_⟩
