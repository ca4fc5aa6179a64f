set_option maxHeartbeats 1000000 in
theorem t_Reader_next (o0 : Ob) (g0 : okReader o0) (g1 : 0 ≤ (g32 o0 3 0).toInt) : ∃ (r : Int32), F_Reader_next o0 = some r ∧ (0 ≤ r.toInt) ∧ (r.toInt ≤ 65535) ∧ (r.toInt = 0 ∨ (g32 o0 3 0).toInt < (g32 o0 2 0).toInt) := by
  obtain ⟨f977, f978, f979, f980⟩ := id g0
  rw [F_Reader_next]
  by_cases c981 : (g32 o0 2 0) ≤ (g32 o0 3 0)
  · rw [if_pos c981]
    (try simp (disch := (first | omega | (simp only [Int32.reduceToInt]; omega) | (simp (disch := first | omega | (simp only [Int32.reduceToInt]; omega)) only [tadd, tsub, mul6, neg1, Int32.reduceToInt]; omega))) only [neg1, mul6, g_s, g_l, tadd, tsub, inb_iff, Int32.lt_iff_toInt_lt, Int32.le_iff_toInt_le, i32_eq, b2i_0, Int32.reduceToInt, reduceIte, Nat.reduceEqDiff] at c981)
    rw [show (isC (0 : Int32)) = true from isC_of tu_ tu_, chk_tr]
    refine ⟨_, rfl, tu_, tu_, tu_⟩
  · rw [if_neg c981]
    (try simp (disch := (first | omega | (simp only [Int32.reduceToInt]; omega) | (simp (disch := first | omega | (simp only [Int32.reduceToInt]; omega)) only [tadd, tsub, mul6, neg1, Int32.reduceToInt]; omega))) only [neg1, mul6, g_s, g_l, tadd, tsub, inb_iff, Int32.lt_iff_toInt_lt, Int32.le_iff_toInt_le, i32_eq, b2i_0, Int32.reduceToInt, reduceIte, Nat.reduceEqDiff] at c981)
    rw [show (inb (g32 o0 3 0) 400) = true from inb_iff.mpr ⟨tu_, tu_⟩, chk_tr]
    have a982 := f979 (Int32.toNatClampNeg (g32 o0 3 0))
    rw [show (isC (g32 o0 0 (Int32.toNatClampNeg (g32 o0 3 0)))) = true from isC_of tu_ tu_, chk_tr]
    refine ⟨_, rfl, tu_, tu_, tu_⟩
set_option maxHeartbeats 1000000 in
theorem t_Reader_pass (x1 : Int32) (o0 : Ob) (g0 : okReader o0) (g1 : 0 ≤ (g32 o0 3 0).toInt) (g2 : (g32 o0 3 0).toInt ≤ (g32 o0 2 0).toInt) (g3 : 0 < x1.toInt) : ∃ (r : Bool) (n0 : Ob), F_Reader_pass x1 o0 = some (r, n0) ∧ (okReader n0) ∧ (0 ≤ (g32 n0 3 0).toInt) ∧ ((g32 n0 3 0).toInt ≤ (g32 n0 2 0).toInt) ∧ (KE 3 o0 n0) ∧ ((g32 o0 3 0).toInt ≤ (g32 n0 3 0).toInt) := by
  obtain ⟨f983, f984, f985, f986⟩ := id g0
  rw [F_Reader_pass]
  obtain ⟨v2, e990, p987, p988, p989⟩ := t_Reader_next o0 (ok4_) (tu_)
  rw [e990, bind1_s]
  by_cases c991 : v2 = x1
  · rw [if_pos c991]
    (try simp (disch := (first | omega | (simp only [Int32.reduceToInt]; omega) | (simp (disch := first | omega | (simp only [Int32.reduceToInt]; omega)) only [tadd, tsub, mul6, neg1, Int32.reduceToInt]; omega))) only [neg1, mul6, g_s, g_l, tadd, tsub, inb_iff, Int32.lt_iff_toInt_lt, Int32.le_iff_toInt_le, i32_eq, b2i_0, Int32.reduceToInt, reduceIte, Nat.reduceEqDiff] at c991)
    refine ⟨_, _, rfl, ok4_, tu_, tu_, ke_, tu_⟩
  · rw [if_neg c991]
    (try simp (disch := (first | omega | (simp only [Int32.reduceToInt]; omega) | (simp (disch := first | omega | (simp only [Int32.reduceToInt]; omega)) only [tadd, tsub, mul6, neg1, Int32.reduceToInt]; omega))) only [neg1, mul6, g_s, g_l, tadd, tsub, inb_iff, Int32.lt_iff_toInt_lt, Int32.le_iff_toInt_le, i32_eq, b2i_0, Int32.reduceToInt, reduceIte, Nat.reduceEqDiff] at c991)
    refine ⟨_, _, rfl, ok4_, tu_, tu_, ke_, tu_⟩
theorem t_Reader_hold (x1 : Int32) (o0 : Ob) (g0 : okReader o0) (g1 : 0 ≤ (g32 o0 6 0).toInt) (g2 : (g32 o0 6 0).toInt < 400) : ∃ (n0 : Ob), F_Reader_hold x1 o0 = some n0 ∧ (n0 = (s32 (s32 o0 5 (Int32.toNatClampNeg (g32 o0 6 0)) x1) 6 0 ((g32 o0 6 0) + (1 : Int32)))) := by
  rw [F_Reader_hold]
  have c : ¬ (400 : Int32) ≤ g32 o0 6 0 := fun z => by
    have z2 := Int32.le_iff_toInt_le.mp z
    have z3 : (400 : Int32).toInt = 400 := rfl
    omega
  rw [if_neg c, show (inb (g32 o0 6 0) 400) = true from inb_iff.mpr ⟨g1, by omega⟩, chk_tr]
  exact ⟨_, rfl, rfl⟩
set_option maxHeartbeats 1000000 in
theorem t_Reader_readDigits_5  : ∀ (n : Nat) (x2 : Int32) (x3 : Int32) (x4 : Int32) (o0 : Ob), (okReader o0) → (0 ≤ (g32 o0 3 0).toInt) → ((g32 o0 3 0).toInt ≤ (g32 o0 2 0).toInt) → (0 ≤ x4.toInt) → (x4.toInt ≤ x2.toInt) → (x2.toInt ≤ 5) → (x2.toInt - x4.toInt < (n : Int)) → ∃ (r : Int32) (n0 : Ob), F_Reader_readDigits_5 n x2 x3 x4 o0 = some (r, n0) ∧ (okReader n0) ∧ (0 ≤ (g32 n0 3 0).toInt) ∧ ((g32 n0 3 0).toInt ≤ (g32 n0 2 0).toInt) ∧ (KE 3 o0 n0) ∧ ((g32 o0 3 0).toInt ≤ (g32 n0 3 0).toInt) := by
  intro n
  induction n with
  | zero =>
    intro x2 x3 x4 o0 g0 g1 g2 g3 g4 g5 g6
    obtain ⟨f992, f993, f994, f995⟩ := id g0
    exfalso
    (try simp (disch := (first | omega | (simp only [Int32.reduceToInt]; omega) | (simp (disch := first | omega | (simp only [Int32.reduceToInt]; omega)) only [tadd, tsub, mul6, neg1, Int32.reduceToInt]; omega))) only [neg1, mul6, g_s, g_l, tadd, tsub, inb_iff, Int32.lt_iff_toInt_lt, Int32.le_iff_toInt_le, i32_eq, b2i_0, Int32.reduceToInt, reduceIte, Nat.reduceEqDiff] at g6)
    exact ari_
  | succ n ih =>
    intro x2 x3 x4 o0 g0 g1 g2 g3 g4 g5 g6
    obtain ⟨f996, f997, f998, f999⟩ := id g0
    rw [F_Reader_readDigits_5]
    (try simp (disch := (first | omega | (simp only [Int32.reduceToInt]; omega) | (simp (disch := first | omega | (simp only [Int32.reduceToInt]; omega)) only [tadd, tsub, mul6, neg1, Int32.reduceToInt]; omega))) only [neg1, mul6, g_s, g_l, tadd, tsub, inb_iff, Int32.lt_iff_toInt_lt, Int32.le_iff_toInt_le, i32_eq, b2i_0, Int32.reduceToInt, reduceIte, Nat.reduceEqDiff] at g6)
    by_cases c1000 : x2 ≤ x4
    · rw [if_pos c1000]
      (try simp (disch := (first | omega | (simp only [Int32.reduceToInt]; omega) | (simp (disch := first | omega | (simp only [Int32.reduceToInt]; omega)) only [tadd, tsub, mul6, neg1, Int32.reduceToInt]; omega))) only [neg1, mul6, g_s, g_l, tadd, tsub, inb_iff, Int32.lt_iff_toInt_lt, Int32.le_iff_toInt_le, i32_eq, b2i_0, Int32.reduceToInt, reduceIte, Nat.reduceEqDiff] at c1000)
      refine ⟨_, _, rfl, ok4_, tu_, tu_, ke_, tu_⟩
    · rw [if_neg c1000]
      (try simp (disch := (first | omega | (simp only [Int32.reduceToInt]; omega) | (simp (disch := first | omega | (simp only [Int32.reduceToInt]; omega)) only [tadd, tsub, mul6, neg1, Int32.reduceToInt]; omega))) only [neg1, mul6, g_s, g_l, tadd, tsub, inb_iff, Int32.lt_iff_toInt_lt, Int32.le_iff_toInt_le, i32_eq, b2i_0, Int32.reduceToInt, reduceIte, Nat.reduceEqDiff] at c1000)
      by_cases c1001 : (g32 o0 2 0) ≤ (g32 o0 3 0)
      · rw [if_pos c1001]
        (try simp (disch := (first | omega | (simp only [Int32.reduceToInt]; omega) | (simp (disch := first | omega | (simp only [Int32.reduceToInt]; omega)) only [tadd, tsub, mul6, neg1, Int32.reduceToInt]; omega))) only [neg1, mul6, g_s, g_l, tadd, tsub, inb_iff, Int32.lt_iff_toInt_lt, Int32.le_iff_toInt_le, i32_eq, b2i_0, Int32.reduceToInt, reduceIte, Nat.reduceEqDiff] at c1001)
        refine ⟨_, _, rfl, ok4_, tu_, tu_, ke_, tu_⟩
      · rw [if_neg c1001]
        (try simp (disch := (first | omega | (simp only [Int32.reduceToInt]; omega) | (simp (disch := first | omega | (simp only [Int32.reduceToInt]; omega)) only [tadd, tsub, mul6, neg1, Int32.reduceToInt]; omega))) only [neg1, mul6, g_s, g_l, tadd, tsub, inb_iff, Int32.lt_iff_toInt_lt, Int32.le_iff_toInt_le, i32_eq, b2i_0, Int32.reduceToInt, reduceIte, Nat.reduceEqDiff] at c1001)
        rw [show (inb (g32 o0 3 0) 400) = true from inb_iff.mpr ⟨tu_, tu_⟩, chk_tr]
        have a1003 := f998 (Int32.toNatClampNeg (g32 o0 3 0))
        by_cases c1002 : (g32 o0 0 (Int32.toNatClampNeg (g32 o0 3 0))) < (48 : Int32)
        · rw [if_pos c1002]
          (try simp (disch := (first | omega | (simp only [Int32.reduceToInt]; omega) | (simp (disch := first | omega | (simp only [Int32.reduceToInt]; omega)) only [tadd, tsub, mul6, neg1, Int32.reduceToInt]; omega))) only [neg1, mul6, g_s, g_l, tadd, tsub, inb_iff, Int32.lt_iff_toInt_lt, Int32.le_iff_toInt_le, i32_eq, b2i_0, Int32.reduceToInt, reduceIte, Nat.reduceEqDiff] at c1002)
          refine ⟨_, _, rfl, ok4_, tu_, tu_, ke_, tu_⟩
        · rw [if_neg c1002]
          (try simp (disch := (first | omega | (simp only [Int32.reduceToInt]; omega) | (simp (disch := first | omega | (simp only [Int32.reduceToInt]; omega)) only [tadd, tsub, mul6, neg1, Int32.reduceToInt]; omega))) only [neg1, mul6, g_s, g_l, tadd, tsub, inb_iff, Int32.lt_iff_toInt_lt, Int32.le_iff_toInt_le, i32_eq, b2i_0, Int32.reduceToInt, reduceIte, Nat.reduceEqDiff] at c1002)
          by_cases c1004 : (57 : Int32) < (g32 o0 0 (Int32.toNatClampNeg (g32 o0 3 0)))
          · rw [if_pos c1004]
            (try simp (disch := (first | omega | (simp only [Int32.reduceToInt]; omega) | (simp (disch := first | omega | (simp only [Int32.reduceToInt]; omega)) only [tadd, tsub, mul6, neg1, Int32.reduceToInt]; omega))) only [neg1, mul6, g_s, g_l, tadd, tsub, inb_iff, Int32.lt_iff_toInt_lt, Int32.le_iff_toInt_le, i32_eq, b2i_0, Int32.reduceToInt, reduceIte, Nat.reduceEqDiff] at c1004)
            refine ⟨_, _, rfl, ok4_, tu_, tu_, ke_, tu_⟩
          · rw [if_neg c1004]
            (try simp (disch := (first | omega | (simp only [Int32.reduceToInt]; omega) | (simp (disch := first | omega | (simp only [Int32.reduceToInt]; omega)) only [tadd, tsub, mul6, neg1, Int32.reduceToInt]; omega))) only [neg1, mul6, g_s, g_l, tadd, tsub, inb_iff, Int32.lt_iff_toInt_lt, Int32.le_iff_toInt_le, i32_eq, b2i_0, Int32.reduceToInt, reduceIte, Nat.reduceEqDiff] at c1004)
            obtain ⟨y1005, y1006, e1012, p1007, p1008, p1009, p1010, p1011⟩ := ih x2 (((10 : Int32) * x3) + ((g32 o0 0 (Int32.toNatClampNeg (g32 o0 3 0))) - (48 : Int32))) (x4 + (1 : Int32)) (s32 o0 3 0 ((g32 o0 3 0) + (1 : Int32))) (ok4_) (tu_) (tu_) (tu_) (tu_) (tu_) tu_
            obtain ⟨f1013, f1014, f1015, f1016⟩ := id p1007
            have f1017 := congrArg Int32.toInt (p1010 2 0 (by decide))
            (try simp (disch := (first | omega | (simp only [Int32.reduceToInt]; omega) | (simp (disch := first | omega | (simp only [Int32.reduceToInt]; omega)) only [tadd, tsub, mul6, neg1, Int32.reduceToInt]; omega))) only [neg1, mul6, g_s, g_l, tadd, tsub, inb_iff, Int32.lt_iff_toInt_lt, Int32.le_iff_toInt_le, i32_eq, b2i_0, Int32.reduceToInt, reduceIte, Nat.reduceEqDiff] at f1017)
            have f1018 := congrArg Int32.toInt (p1010 6 0 (by decide))
            (try simp (disch := (first | omega | (simp only [Int32.reduceToInt]; omega) | (simp (disch := first | omega | (simp only [Int32.reduceToInt]; omega)) only [tadd, tsub, mul6, neg1, Int32.reduceToInt]; omega))) only [neg1, mul6, g_s, g_l, tadd, tsub, inb_iff, Int32.lt_iff_toInt_lt, Int32.le_iff_toInt_le, i32_eq, b2i_0, Int32.reduceToInt, reduceIte, Nat.reduceEqDiff] at f1018)
            have f1019 := congrArg Int32.toInt (p1010 10 0 (by decide))
            (try simp (disch := (first | omega | (simp only [Int32.reduceToInt]; omega) | (simp (disch := first | omega | (simp only [Int32.reduceToInt]; omega)) only [tadd, tsub, mul6, neg1, Int32.reduceToInt]; omega))) only [neg1, mul6, g_s, g_l, tadd, tsub, inb_iff, Int32.lt_iff_toInt_lt, Int32.le_iff_toInt_le, i32_eq, b2i_0, Int32.reduceToInt, reduceIte, Nat.reduceEqDiff] at f1019)
            have f1020 := congrArg Int32.toInt (p1010 11 0 (by decide))
            (try simp (disch := (first | omega | (simp only [Int32.reduceToInt]; omega) | (simp (disch := first | omega | (simp only [Int32.reduceToInt]; omega)) only [tadd, tsub, mul6, neg1, Int32.reduceToInt]; omega))) only [neg1, mul6, g_s, g_l, tadd, tsub, inb_iff, Int32.lt_iff_toInt_lt, Int32.le_iff_toInt_le, i32_eq, b2i_0, Int32.reduceToInt, reduceIte, Nat.reduceEqDiff] at f1020)
            (try simp (disch := (first | omega | (simp only [Int32.reduceToInt]; omega) | (simp (disch := first | omega | (simp only [Int32.reduceToInt]; omega)) only [tadd, tsub, mul6, neg1, Int32.reduceToInt]; omega))) only [neg1, mul6, g_s, g_l, tadd, tsub, inb_iff, Int32.lt_iff_toInt_lt, Int32.le_iff_toInt_le, i32_eq, b2i_0, Int32.reduceToInt, reduceIte, Nat.reduceEqDiff] at p1011)
            refine ⟨y1005, y1006, e1012, ok4_, tu_, tu_, ke_, tu_⟩
set_option maxHeartbeats 1000000 in
theorem t_Reader_readDigits (x1 : Int32) (x2 : Int32) (o0 : Ob) (g0 : okReader o0) (g1 : 0 ≤ (g32 o0 3 0).toInt) (g2 : (g32 o0 3 0).toInt ≤ (g32 o0 2 0).toInt) (g3 : 0 ≤ x2.toInt) (g4 : x2.toInt ≤ 5) : ∃ (r : Int32) (n0 : Ob), F_Reader_readDigits x1 x2 o0 = some (r, n0) ∧ (okReader n0) ∧ (0 ≤ (g32 n0 3 0).toInt) ∧ ((g32 n0 3 0).toInt ≤ (g32 n0 2 0).toInt) ∧ (KE 3 o0 n0) ∧ ((g32 o0 3 0).toInt ≤ (g32 n0 3 0).toInt) := by
  obtain ⟨f1021, f1022, f1023, f1024⟩ := id g0
  rw [F_Reader_readDigits]
  obtain ⟨y1025, y1026, e1032, p1027, p1028, p1029, p1030, p1031⟩ := t_Reader_readDigits_5 fuel x2 x1 (0 : Int32) o0 (ok4_) (tu_) (tu_) (tu_) (tu_) (tu_) tu_
  obtain ⟨f1033, f1034, f1035, f1036⟩ := id p1027
  have f1037 := congrArg Int32.toInt (p1030 2 0 (by decide))
  have f1038 := congrArg Int32.toInt (p1030 6 0 (by decide))
  have f1039 := congrArg Int32.toInt (p1030 10 0 (by decide))
  have f1040 := congrArg Int32.toInt (p1030 11 0 (by decide))
  refine ⟨y1025, y1026, e1032, ok4_, tu_, tu_, ke_, tu_⟩
set_option maxHeartbeats 1000000 in
theorem t_Reader_dropZerosBehind_7  : ∀ (n : Nat) (x1 : Int32) (x2 : Int32) (o0 : Ob), (okReader o0) → (0 ≤ x1.toInt) → (x1.toInt ≤ x2.toInt) → (x2.toInt < 400) → (x2.toInt - x1.toInt < (n : Int)) → ∃ (n0 : Ob), F_Reader_dropZerosBehind_7 n x1 x2 o0 = some n0 ∧ (okReader n0) ∧ (KE 1 o0 n0) := by
  intro n
  induction n with
  | zero =>
    intro x1 x2 o0 g0 g1 g2 g3 g4
    obtain ⟨f1041, f1042, f1043, f1044⟩ := id g0
    exfalso
    (try simp (disch := (first | omega | (simp only [Int32.reduceToInt]; omega) | (simp (disch := first | omega | (simp only [Int32.reduceToInt]; omega)) only [tadd, tsub, mul6, neg1, Int32.reduceToInt]; omega))) only [neg1, mul6, g_s, g_l, tadd, tsub, inb_iff, Int32.lt_iff_toInt_lt, Int32.le_iff_toInt_le, i32_eq, b2i_0, Int32.reduceToInt, reduceIte, Nat.reduceEqDiff] at g4)
    exact ari_
  | succ n ih =>
    intro x1 x2 o0 g0 g1 g2 g3 g4
    obtain ⟨f1045, f1046, f1047, f1048⟩ := id g0
    rw [F_Reader_dropZerosBehind_7]
    (try simp (disch := (first | omega | (simp only [Int32.reduceToInt]; omega) | (simp (disch := first | omega | (simp only [Int32.reduceToInt]; omega)) only [tadd, tsub, mul6, neg1, Int32.reduceToInt]; omega))) only [neg1, mul6, g_s, g_l, tadd, tsub, inb_iff, Int32.lt_iff_toInt_lt, Int32.le_iff_toInt_le, i32_eq, b2i_0, Int32.reduceToInt, reduceIte, Nat.reduceEqDiff] at g4)
    by_cases c1049 : x2 ≤ x1
    · rw [if_pos c1049]
      (try simp (disch := (first | omega | (simp only [Int32.reduceToInt]; omega) | (simp (disch := first | omega | (simp only [Int32.reduceToInt]; omega)) only [tadd, tsub, mul6, neg1, Int32.reduceToInt]; omega))) only [neg1, mul6, g_s, g_l, tadd, tsub, inb_iff, Int32.lt_iff_toInt_lt, Int32.le_iff_toInt_le, i32_eq, b2i_0, Int32.reduceToInt, reduceIte, Nat.reduceEqDiff] at c1049)
      by_cases c1050 : x2 = x1
      · rw [if_pos c1050]
        (try simp (disch := (first | omega | (simp only [Int32.reduceToInt]; omega) | (simp (disch := first | omega | (simp only [Int32.reduceToInt]; omega)) only [tadd, tsub, mul6, neg1, Int32.reduceToInt]; omega))) only [neg1, mul6, g_s, g_l, tadd, tsub, inb_iff, Int32.lt_iff_toInt_lt, Int32.le_iff_toInt_le, i32_eq, b2i_0, Int32.reduceToInt, reduceIte, Nat.reduceEqDiff] at c1050)
        rw [show (inb x1 400) = true from inb_iff.mpr ⟨tu_, tu_⟩, chk_tr]
        refine ⟨_, rfl, ok4_, ke_⟩
      · rw [if_neg c1050]
        (try simp (disch := (first | omega | (simp only [Int32.reduceToInt]; omega) | (simp (disch := first | omega | (simp only [Int32.reduceToInt]; omega)) only [tadd, tsub, mul6, neg1, Int32.reduceToInt]; omega))) only [neg1, mul6, g_s, g_l, tadd, tsub, inb_iff, Int32.lt_iff_toInt_lt, Int32.le_iff_toInt_le, i32_eq, b2i_0, Int32.reduceToInt, reduceIte, Nat.reduceEqDiff] at c1050)
        refine ⟨_, rfl, ok4_, ke_⟩
    · rw [if_neg c1049]
      (try simp (disch := (first | omega | (simp only [Int32.reduceToInt]; omega) | (simp (disch := first | omega | (simp only [Int32.reduceToInt]; omega)) only [tadd, tsub, mul6, neg1, Int32.reduceToInt]; omega))) only [neg1, mul6, g_s, g_l, tadd, tsub, inb_iff, Int32.lt_iff_toInt_lt, Int32.le_iff_toInt_le, i32_eq, b2i_0, Int32.reduceToInt, reduceIte, Nat.reduceEqDiff] at c1049)
      rw [show (inb x2 400) = true from inb_iff.mpr ⟨tu_, tu_⟩, chk_tr]
      have a1052 := f1047 (Int32.toNatClampNeg x2)
      by_cases c1051 : (g32 o0 0 (Int32.toNatClampNeg x2)) = (48 : Int32)
      · rw [if_pos c1051]
        (try simp (disch := (first | omega | (simp only [Int32.reduceToInt]; omega) | (simp (disch := first | omega | (simp only [Int32.reduceToInt]; omega)) only [tadd, tsub, mul6, neg1, Int32.reduceToInt]; omega))) only [neg1, mul6, g_s, g_l, tadd, tsub, inb_iff, Int32.lt_iff_toInt_lt, Int32.le_iff_toInt_le, i32_eq, b2i_0, Int32.reduceToInt, reduceIte, Nat.reduceEqDiff] at c1051)
        obtain ⟨y1053, e1056, p1054, p1055⟩ := ih x1 (x2 + (-1 : Int32)) (s32 o0 1 (Int32.toNatClampNeg x2) (vp_nar .boolean (1 : Int32))) (ok4_) (tu_) (tu_) (tu_) tu_
        obtain ⟨f1057, f1058, f1059, f1060⟩ := id p1054
        have f1061 := congrArg Int32.toInt (p1055 2 0 (by decide))
        (try simp (disch := (first | omega | (simp only [Int32.reduceToInt]; omega) | (simp (disch := first | omega | (simp only [Int32.reduceToInt]; omega)) only [tadd, tsub, mul6, neg1, Int32.reduceToInt]; omega))) only [neg1, mul6, g_s, g_l, tadd, tsub, inb_iff, Int32.lt_iff_toInt_lt, Int32.le_iff_toInt_le, i32_eq, b2i_0, Int32.reduceToInt, reduceIte, Nat.reduceEqDiff] at f1061)
        have f1062 := congrArg Int32.toInt (p1055 3 0 (by decide))
        (try simp (disch := (first | omega | (simp only [Int32.reduceToInt]; omega) | (simp (disch := first | omega | (simp only [Int32.reduceToInt]; omega)) only [tadd, tsub, mul6, neg1, Int32.reduceToInt]; omega))) only [neg1, mul6, g_s, g_l, tadd, tsub, inb_iff, Int32.lt_iff_toInt_lt, Int32.le_iff_toInt_le, i32_eq, b2i_0, Int32.reduceToInt, reduceIte, Nat.reduceEqDiff] at f1062)
        have f1063 := congrArg Int32.toInt (p1055 6 0 (by decide))
        (try simp (disch := (first | omega | (simp only [Int32.reduceToInt]; omega) | (simp (disch := first | omega | (simp only [Int32.reduceToInt]; omega)) only [tadd, tsub, mul6, neg1, Int32.reduceToInt]; omega))) only [neg1, mul6, g_s, g_l, tadd, tsub, inb_iff, Int32.lt_iff_toInt_lt, Int32.le_iff_toInt_le, i32_eq, b2i_0, Int32.reduceToInt, reduceIte, Nat.reduceEqDiff] at f1063)
        have f1064 := congrArg Int32.toInt (p1055 10 0 (by decide))
        (try simp (disch := (first | omega | (simp only [Int32.reduceToInt]; omega) | (simp (disch := first | omega | (simp only [Int32.reduceToInt]; omega)) only [tadd, tsub, mul6, neg1, Int32.reduceToInt]; omega))) only [neg1, mul6, g_s, g_l, tadd, tsub, inb_iff, Int32.lt_iff_toInt_lt, Int32.le_iff_toInt_le, i32_eq, b2i_0, Int32.reduceToInt, reduceIte, Nat.reduceEqDiff] at f1064)
        have f1065 := congrArg Int32.toInt (p1055 11 0 (by decide))
        (try simp (disch := (first | omega | (simp only [Int32.reduceToInt]; omega) | (simp (disch := first | omega | (simp only [Int32.reduceToInt]; omega)) only [tadd, tsub, mul6, neg1, Int32.reduceToInt]; omega))) only [neg1, mul6, g_s, g_l, tadd, tsub, inb_iff, Int32.lt_iff_toInt_lt, Int32.le_iff_toInt_le, i32_eq, b2i_0, Int32.reduceToInt, reduceIte, Nat.reduceEqDiff] at f1065)
        refine ⟨y1053, e1056, ok4_, ke_⟩
      · rw [if_neg c1051]
        (try simp (disch := (first | omega | (simp only [Int32.reduceToInt]; omega) | (simp (disch := first | omega | (simp only [Int32.reduceToInt]; omega)) only [tadd, tsub, mul6, neg1, Int32.reduceToInt]; omega))) only [neg1, mul6, g_s, g_l, tadd, tsub, inb_iff, Int32.lt_iff_toInt_lt, Int32.le_iff_toInt_le, i32_eq, b2i_0, Int32.reduceToInt, reduceIte, Nat.reduceEqDiff] at c1051)
        by_cases c1066 : x2 = x1
        · rw [if_pos c1066]
          (try simp (disch := (first | omega | (simp only [Int32.reduceToInt]; omega) | (simp (disch := first | omega | (simp only [Int32.reduceToInt]; omega)) only [tadd, tsub, mul6, neg1, Int32.reduceToInt]; omega))) only [neg1, mul6, g_s, g_l, tadd, tsub, inb_iff, Int32.lt_iff_toInt_lt, Int32.le_iff_toInt_le, i32_eq, b2i_0, Int32.reduceToInt, reduceIte, Nat.reduceEqDiff] at c1066)
          rw [show (inb x1 400) = true from inb_iff.mpr ⟨tu_, tu_⟩, chk_tr]
          refine ⟨_, rfl, ok4_, ke_⟩
        · rw [if_neg c1066]
          (try simp (disch := (first | omega | (simp only [Int32.reduceToInt]; omega) | (simp (disch := first | omega | (simp only [Int32.reduceToInt]; omega)) only [tadd, tsub, mul6, neg1, Int32.reduceToInt]; omega))) only [neg1, mul6, g_s, g_l, tadd, tsub, inb_iff, Int32.lt_iff_toInt_lt, Int32.le_iff_toInt_le, i32_eq, b2i_0, Int32.reduceToInt, reduceIte, Nat.reduceEqDiff] at c1066)
          refine ⟨_, rfl, ok4_, ke_⟩
set_option maxHeartbeats 1000000 in
theorem t_Reader_dropZerosBehind (x1 : Int32) (o0 : Ob) (g0 : okReader o0) (g1 : 0 ≤ x1.toInt) (g2 : x1.toInt < (g32 o0 3 0).toInt) (g3 : (g32 o0 3 0).toInt ≤ 400) : ∃ (n0 : Ob), F_Reader_dropZerosBehind x1 o0 = some n0 ∧ (okReader n0) ∧ (KE 1 o0 n0) := by
  obtain ⟨f1067, f1068, f1069, f1070⟩ := id g0
  rw [F_Reader_dropZerosBehind]
  obtain ⟨y1071, e1074, p1072, p1073⟩ := t_Reader_dropZerosBehind_7 fuel x1 ((g32 o0 3 0) - (1 : Int32)) o0 (ok4_) (tu_) (tu_) (tu_) tu_
  obtain ⟨f1075, f1076, f1077, f1078⟩ := id p1072
  have f1079 := congrArg Int32.toInt (p1073 2 0 (by decide))
  have f1080 := congrArg Int32.toInt (p1073 3 0 (by decide))
  have f1081 := congrArg Int32.toInt (p1073 6 0 (by decide))
  have f1082 := congrArg Int32.toInt (p1073 10 0 (by decide))
  have f1083 := congrArg Int32.toInt (p1073 11 0 (by decide))
  refine ⟨y1071, e1074, ok4_, ke_⟩
set_option maxHeartbeats 1000000 in
theorem t_Reader_readNumber_101 (o1 : Ob) : ∀ (n : Nat) (x2 : Int32) (x3 : Int32) (x4 : Int32) (x5 : Int32) (o0 : Ob) (o2 : Ob), (okReader o0) → (okText o1) → (okSteps o2) → (WI 0 o0) → (0 ≤ x4.toInt) → (x4.toInt < (g32 o0 3 0).toInt) → (0 ≤ x5.toInt) → (x5.toInt ≤ (g32 o0 3 0).toInt) → ((g32 o0 3 0).toInt - x5.toInt < (n : Int)) → ∃ (r : Bool) (n0 : Ob) (n2 : Ob), F_Reader_readNumber_101 o1 n x2 x3 x4 x5 o0 o2 = some (r, n0, n2) ∧ (okReader n0) ∧ (okSteps n2) ∧ (WI 0 n0) := by
  intro n
  induction n with
  | zero =>
    intro x2 x3 x4 x5 o0 o2 g0 g1 g2 g3 g4 g5 g6 g7 g8
    obtain ⟨f1084, f1085, f1086, f1087⟩ := id g0
    obtain ⟨f1088, f1089, f1090, f1091, f1092, f1093, f1094, f1095, f1096⟩ := id g1
    obtain ⟨f1097, f1098, f1099, f1100, f1101, f1102⟩ := id g2
    obtain ⟨f1103, f1104, f1105, f1106, f1107, f1108, f1109, f1110⟩ := WI.rg g3
    exfalso
    (try simp (disch := (first | omega | (simp only [Int32.reduceToInt]; omega) | (simp (disch := first | omega | (simp only [Int32.reduceToInt]; omega)) only [tadd, tsub, mul6, neg1, Int32.reduceToInt]; omega))) only [neg1, mul6, g_s, g_l, tadd, tsub, inb_iff, Int32.lt_iff_toInt_lt, Int32.le_iff_toInt_le, i32_eq, b2i_0, Int32.reduceToInt, reduceIte, Nat.reduceEqDiff] at g8)
    exact ari_
  | succ n ih =>
    intro x2 x3 x4 x5 o0 o2 g0 g1 g2 g3 g4 g5 g6 g7 g8
    obtain ⟨f1111, f1112, f1113, f1114⟩ := id g0
    obtain ⟨f1115, f1116, f1117, f1118, f1119, f1120, f1121, f1122, f1123⟩ := id g1
    obtain ⟨f1124, f1125, f1126, f1127, f1128, f1129⟩ := id g2
    obtain ⟨f1130, f1131, f1132, f1133, f1134, f1135, f1136, f1137⟩ := WI.rg g3
    rw [F_Reader_readNumber_101]
    (try simp (disch := (first | omega | (simp only [Int32.reduceToInt]; omega) | (simp (disch := first | omega | (simp only [Int32.reduceToInt]; omega)) only [tadd, tsub, mul6, neg1, Int32.reduceToInt]; omega))) only [neg1, mul6, g_s, g_l, tadd, tsub, inb_iff, Int32.lt_iff_toInt_lt, Int32.le_iff_toInt_le, i32_eq, b2i_0, Int32.reduceToInt, reduceIte, Nat.reduceEqDiff] at g8)
    by_cases c1138 : (g32 o0 3 0) ≤ x5
    · rw [if_pos c1138]
      (try simp (disch := (first | omega | (simp only [Int32.reduceToInt]; omega) | (simp (disch := first | omega | (simp only [Int32.reduceToInt]; omega)) only [tadd, tsub, mul6, neg1, Int32.reduceToInt]; omega))) only [neg1, mul6, g_s, g_l, tadd, tsub, inb_iff, Int32.lt_iff_toInt_lt, Int32.le_iff_toInt_le, i32_eq, b2i_0, Int32.reduceToInt, reduceIte, Nat.reduceEqDiff] at c1138)
      obtain ⟨o_19, e1141, p1139, p1140⟩ := t_Reader_dropZerosBehind x4 o0 (ok4_) (tu_) (tu_) (tu_)
      rw [e1141, bind1_s]
      obtain ⟨f1142, f1143, f1144, f1145⟩ := id p1139
      have f1146 := congrArg Int32.toInt (p1140 2 0 (by decide))
      have f1147 := congrArg Int32.toInt (p1140 3 0 (by decide))
      have f1148 := congrArg Int32.toInt (p1140 6 0 (by decide))
      have f1149 := congrArg Int32.toInt (p1140 10 0 (by decide))
      have f1150 := congrArg Int32.toInt (p1140 11 0 (by decide))
      obtain ⟨o_21, e1153, p1151, p1152⟩ := t_Steps_add (1 : Int32) x2 x3 o2 (ok6_) (tu_) (tu_)
      rw [e1153, bind1_s]
      obtain ⟨f1154, f1155, f1156, f1157, f1158, f1159⟩ := id p1151
      refine ⟨_, _, _, rfl, ok4_, ok6_, wi_⟩
    · rw [if_neg c1138]
      (try simp (disch := (first | omega | (simp only [Int32.reduceToInt]; omega) | (simp (disch := first | omega | (simp only [Int32.reduceToInt]; omega)) only [tadd, tsub, mul6, neg1, Int32.reduceToInt]; omega))) only [neg1, mul6, g_s, g_l, tadd, tsub, inb_iff, Int32.lt_iff_toInt_lt, Int32.le_iff_toInt_le, i32_eq, b2i_0, Int32.reduceToInt, reduceIte, Nat.reduceEqDiff] at c1138)
      obtain ⟨y1160, y1161, y1162, e1166, p1163, p1164, p1165⟩ := ih x2 (x3 * (10 : Int32)) x4 (x5 + (1 : Int32)) o0 o2 (ok4_) (ok9_) (ok6_) (wi_) (tu_) (tu_) (tu_) (tu_) tu_
      obtain ⟨f1167, f1168, f1169, f1170⟩ := id p1163
      obtain ⟨f1171, f1172, f1173, f1174, f1175, f1176⟩ := id p1164
      obtain ⟨f1177, f1178, f1179, f1180, f1181, f1182, f1183, f1184⟩ := WI.rg p1165
      refine ⟨y1160, y1161, y1162, e1166, ok4_, ok6_, wi_⟩
set_option maxHeartbeats 1000000 in
theorem t_Reader_readNumber_48 (o1 : Ob) (x2 : Int32) (o0 : Ob) (o2 : Ob) (g0 : okReader o0) (g1 : okText o1) (g2 : okSteps o2) (g3 : WI 0 o0) : ∃ (r : Bool) (n0 : Ob) (n2 : Ob), F_Reader_readNumber_48 o1 x2 o0 o2 = some (r, n0, n2) ∧ (okReader n0) ∧ (okSteps n2) ∧ (WI 0 n0) := by
  obtain ⟨f1185, f1186, f1187, f1188⟩ := id g0
  obtain ⟨f1189, f1190, f1191, f1192, f1193, f1194, f1195, f1196, f1197⟩ := id g1
  obtain ⟨f1198, f1199, f1200, f1201, f1202, f1203⟩ := id g2
  obtain ⟨f1204, f1205, f1206, f1207, f1208, f1209, f1210, f1211⟩ := WI.rg g3
  rw [F_Reader_readNumber_48]
  obtain ⟨v9, e1215, p1212, p1213, p1214⟩ := t_Reader_next o0 (ok4_) (tu_)
  rw [e1215, bind1_s]
  by_cases c1216 : v9 = (46 : Int32)
  · rw [if_pos c1216]
    (try simp (disch := (first | omega | (simp only [Int32.reduceToInt]; omega) | (simp (disch := first | omega | (simp only [Int32.reduceToInt]; omega)) only [tadd, tsub, mul6, neg1, Int32.reduceToInt]; omega))) only [neg1, mul6, g_s, g_l, tadd, tsub, inb_iff, Int32.lt_iff_toInt_lt, Int32.le_iff_toInt_le, i32_eq, b2i_0, Int32.reduceToInt, reduceIte, Nat.reduceEqDiff] at c1216)
    obtain ⟨v14, o_15, e1222, p1217, p1218, p1219, p1220, p1221⟩ := t_Reader_readDigits x2 (3 : Int32) (s32 o0 3 0 ((g32 o0 3 0) + (1 : Int32))) (ok4_) (tu_) (tu_) (tu_) (tu_)
    rw [e1222, bind2_s]
    obtain ⟨f1223, f1224, f1225, f1226⟩ := id p1217
    have f1227 := congrArg Int32.toInt (p1220 2 0 (by decide))
    (try simp (disch := (first | omega | (simp only [Int32.reduceToInt]; omega) | (simp (disch := first | omega | (simp only [Int32.reduceToInt]; omega)) only [tadd, tsub, mul6, neg1, Int32.reduceToInt]; omega))) only [neg1, mul6, g_s, g_l, tadd, tsub, inb_iff, Int32.lt_iff_toInt_lt, Int32.le_iff_toInt_le, i32_eq, b2i_0, Int32.reduceToInt, reduceIte, Nat.reduceEqDiff] at f1227)
    have f1228 := congrArg Int32.toInt (p1220 6 0 (by decide))
    (try simp (disch := (first | omega | (simp only [Int32.reduceToInt]; omega) | (simp (disch := first | omega | (simp only [Int32.reduceToInt]; omega)) only [tadd, tsub, mul6, neg1, Int32.reduceToInt]; omega))) only [neg1, mul6, g_s, g_l, tadd, tsub, inb_iff, Int32.lt_iff_toInt_lt, Int32.le_iff_toInt_le, i32_eq, b2i_0, Int32.reduceToInt, reduceIte, Nat.reduceEqDiff] at f1228)
    have f1229 := congrArg Int32.toInt (p1220 10 0 (by decide))
    (try simp (disch := (first | omega | (simp only [Int32.reduceToInt]; omega) | (simp (disch := first | omega | (simp only [Int32.reduceToInt]; omega)) only [tadd, tsub, mul6, neg1, Int32.reduceToInt]; omega))) only [neg1, mul6, g_s, g_l, tadd, tsub, inb_iff, Int32.lt_iff_toInt_lt, Int32.le_iff_toInt_le, i32_eq, b2i_0, Int32.reduceToInt, reduceIte, Nat.reduceEqDiff] at f1229)
    have f1230 := congrArg Int32.toInt (p1220 11 0 (by decide))
    (try simp (disch := (first | omega | (simp only [Int32.reduceToInt]; omega) | (simp (disch := first | omega | (simp only [Int32.reduceToInt]; omega)) only [tadd, tsub, mul6, neg1, Int32.reduceToInt]; omega))) only [neg1, mul6, g_s, g_l, tadd, tsub, inb_iff, Int32.lt_iff_toInt_lt, Int32.le_iff_toInt_le, i32_eq, b2i_0, Int32.reduceToInt, reduceIte, Nat.reduceEqDiff] at f1230)
    (try simp (disch := (first | omega | (simp only [Int32.reduceToInt]; omega) | (simp (disch := first | omega | (simp only [Int32.reduceToInt]; omega)) only [tadd, tsub, mul6, neg1, Int32.reduceToInt]; omega))) only [neg1, mul6, g_s, g_l, tadd, tsub, inb_iff, Int32.lt_iff_toInt_lt, Int32.le_iff_toInt_le, i32_eq, b2i_0, Int32.reduceToInt, reduceIte, Nat.reduceEqDiff] at p1221)
    by_cases c1231 : (g32 o_15 3 0) = ((g32 o0 3 0) + (1 : Int32))
    · rw [if_pos c1231]
      (try simp (disch := (first | omega | (simp only [Int32.reduceToInt]; omega) | (simp (disch := first | omega | (simp only [Int32.reduceToInt]; omega)) only [tadd, tsub, mul6, neg1, Int32.reduceToInt]; omega))) only [neg1, mul6, g_s, g_l, tadd, tsub, inb_iff, Int32.lt_iff_toInt_lt, Int32.le_iff_toInt_le, i32_eq, b2i_0, Int32.reduceToInt, reduceIte, Nat.reduceEqDiff] at c1231)
      refine ⟨_, _, _, rfl, ok4_, ok6_, wi_⟩
    · rw [if_neg c1231]
      (try simp (disch := (first | omega | (simp only [Int32.reduceToInt]; omega) | (simp (disch := first | omega | (simp only [Int32.reduceToInt]; omega)) only [tadd, tsub, mul6, neg1, Int32.reduceToInt]; omega))) only [neg1, mul6, g_s, g_l, tadd, tsub, inb_iff, Int32.lt_iff_toInt_lt, Int32.le_iff_toInt_le, i32_eq, b2i_0, Int32.reduceToInt, reduceIte, Nat.reduceEqDiff] at c1231)
      obtain ⟨y1232, y1233, y1234, e1238, p1235, p1236, p1237⟩ := t_Reader_readNumber_101 o1 fuel v14 (1 : Int32) (g32 o0 3 0) ((g32 o0 3 0) + (1 : Int32)) o_15 o2 (ok4_) (ok9_) (ok6_) (wi_) (tu_) (tu_) (tu_) (tu_) tu_
      obtain ⟨f1239, f1240, f1241, f1242⟩ := id p1235
      obtain ⟨f1243, f1244, f1245, f1246, f1247, f1248⟩ := id p1236
      obtain ⟨f1249, f1250, f1251, f1252, f1253, f1254, f1255, f1256⟩ := WI.rg p1237
      refine ⟨y1232, y1233, y1234, e1238, ok4_, ok6_, wi_⟩
  · rw [if_neg c1216]
    (try simp (disch := (first | omega | (simp only [Int32.reduceToInt]; omega) | (simp (disch := first | omega | (simp only [Int32.reduceToInt]; omega)) only [tadd, tsub, mul6, neg1, Int32.reduceToInt]; omega))) only [neg1, mul6, g_s, g_l, tadd, tsub, inb_iff, Int32.lt_iff_toInt_lt, Int32.le_iff_toInt_le, i32_eq, b2i_0, Int32.reduceToInt, reduceIte, Nat.reduceEqDiff] at c1216)
    obtain ⟨o_12, e1259, p1257, p1258⟩ := t_Steps_add (1 : Int32) x2 (1 : Int32) o2 (ok6_) (tu_) (tu_)
    rw [e1259, bind1_s]
    obtain ⟨f1260, f1261, f1262, f1263, f1264, f1265⟩ := id p1257
    refine ⟨_, _, _, rfl, ok4_, ok6_, wi_⟩
set_option maxHeartbeats 1000000 in
theorem t_Reader_readNumber_14 (o1 : Ob) : ∀ (n : Nat) (x2 : Int32) (x3 : Int32) (o0 : Ob) (o2 : Ob), (okReader o0) → (okText o1) → (okSteps o2) → (WI 0 o0) → (0 ≤ x3.toInt) → (x3.toInt ≤ (g32 o0 3 0).toInt) → ((g32 o0 3 0).toInt - x3.toInt < (n : Int)) → ∃ (r : Bool) (n0 : Ob) (n2 : Ob), F_Reader_readNumber_14 o1 n x2 x3 o0 o2 = some (r, n0, n2) ∧ (okReader n0) ∧ (okSteps n2) ∧ (WI 0 n0) := by
  intro n
  induction n with
  | zero =>
    intro x2 x3 o0 o2 g0 g1 g2 g3 g4 g5 g6
    obtain ⟨f1266, f1267, f1268, f1269⟩ := id g0
    obtain ⟨f1270, f1271, f1272, f1273, f1274, f1275, f1276, f1277, f1278⟩ := id g1
    obtain ⟨f1279, f1280, f1281, f1282, f1283, f1284⟩ := id g2
    obtain ⟨f1285, f1286, f1287, f1288, f1289, f1290, f1291, f1292⟩ := WI.rg g3
    exfalso
    (try simp (disch := (first | omega | (simp only [Int32.reduceToInt]; omega) | (simp (disch := first | omega | (simp only [Int32.reduceToInt]; omega)) only [tadd, tsub, mul6, neg1, Int32.reduceToInt]; omega))) only [neg1, mul6, g_s, g_l, tadd, tsub, inb_iff, Int32.lt_iff_toInt_lt, Int32.le_iff_toInt_le, i32_eq, b2i_0, Int32.reduceToInt, reduceIte, Nat.reduceEqDiff] at g6)
    exact ari_
  | succ n ih =>
    intro x2 x3 o0 o2 g0 g1 g2 g3 g4 g5 g6
    obtain ⟨f1293, f1294, f1295, f1296⟩ := id g0
    obtain ⟨f1297, f1298, f1299, f1300, f1301, f1302, f1303, f1304, f1305⟩ := id g1
    obtain ⟨f1306, f1307, f1308, f1309, f1310, f1311⟩ := id g2
    obtain ⟨f1312, f1313, f1314, f1315, f1316, f1317, f1318, f1319⟩ := WI.rg g3
    rw [F_Reader_readNumber_14]
    (try simp (disch := (first | omega | (simp only [Int32.reduceToInt]; omega) | (simp (disch := first | omega | (simp only [Int32.reduceToInt]; omega)) only [tadd, tsub, mul6, neg1, Int32.reduceToInt]; omega))) only [neg1, mul6, g_s, g_l, tadd, tsub, inb_iff, Int32.lt_iff_toInt_lt, Int32.le_iff_toInt_le, i32_eq, b2i_0, Int32.reduceToInt, reduceIte, Nat.reduceEqDiff] at g6)
    by_cases c1320 : ((g32 o0 3 0) - (1 : Int32)) ≤ x3
    · rw [if_pos c1320]
      (try simp (disch := (first | omega | (simp only [Int32.reduceToInt]; omega) | (simp (disch := first | omega | (simp only [Int32.reduceToInt]; omega)) only [tadd, tsub, mul6, neg1, Int32.reduceToInt]; omega))) only [neg1, mul6, g_s, g_l, tadd, tsub, inb_iff, Int32.lt_iff_toInt_lt, Int32.le_iff_toInt_le, i32_eq, b2i_0, Int32.reduceToInt, reduceIte, Nat.reduceEqDiff] at c1320)
      obtain ⟨y1321, y1322, y1323, e1327, p1324, p1325, p1326⟩ := t_Reader_readNumber_48 o1 x2 o0 o2 (ok4_) (ok9_) (ok6_) (wi_)
      obtain ⟨f1328, f1329, f1330, f1331⟩ := id p1324
      obtain ⟨f1332, f1333, f1334, f1335, f1336, f1337⟩ := id p1325
      obtain ⟨f1338, f1339, f1340, f1341, f1342, f1343, f1344, f1345⟩ := WI.rg p1326
      refine ⟨y1321, y1322, y1323, e1327, ok4_, ok6_, wi_⟩
    · rw [if_neg c1320]
      (try simp (disch := (first | omega | (simp only [Int32.reduceToInt]; omega) | (simp (disch := first | omega | (simp only [Int32.reduceToInt]; omega)) only [tadd, tsub, mul6, neg1, Int32.reduceToInt]; omega))) only [neg1, mul6, g_s, g_l, tadd, tsub, inb_iff, Int32.lt_iff_toInt_lt, Int32.le_iff_toInt_le, i32_eq, b2i_0, Int32.reduceToInt, reduceIte, Nat.reduceEqDiff] at c1320)
      rw [show (inb x3 400) = true from inb_iff.mpr ⟨tu_, tu_⟩, chk_tr]
      have a1347 := f1295 (Int32.toNatClampNeg x3)
      by_cases c1346 : (g32 o0 0 (Int32.toNatClampNeg x3)) = (48 : Int32)
      · rw [if_pos c1346]
        (try simp (disch := (first | omega | (simp only [Int32.reduceToInt]; omega) | (simp (disch := first | omega | (simp only [Int32.reduceToInt]; omega)) only [tadd, tsub, mul6, neg1, Int32.reduceToInt]; omega))) only [neg1, mul6, g_s, g_l, tadd, tsub, inb_iff, Int32.lt_iff_toInt_lt, Int32.le_iff_toInt_le, i32_eq, b2i_0, Int32.reduceToInt, reduceIte, Nat.reduceEqDiff] at c1346)
        obtain ⟨y1348, y1349, y1350, e1354, p1351, p1352, p1353⟩ := ih x2 (x3 + (1 : Int32)) (s32 o0 1 (Int32.toNatClampNeg x3) (vp_nar .boolean (1 : Int32))) o2 (ok4_) (ok9_) (ok6_) (wi_) (tu_) (tu_) tu_
        obtain ⟨f1355, f1356, f1357, f1358⟩ := id p1351
        obtain ⟨f1359, f1360, f1361, f1362, f1363, f1364⟩ := id p1352
        obtain ⟨f1365, f1366, f1367, f1368, f1369, f1370, f1371, f1372⟩ := WI.rg p1353
        refine ⟨y1348, y1349, y1350, e1354, ok4_, ok6_, wi_⟩
      · rw [if_neg c1346]
        (try simp (disch := (first | omega | (simp only [Int32.reduceToInt]; omega) | (simp (disch := first | omega | (simp only [Int32.reduceToInt]; omega)) only [tadd, tsub, mul6, neg1, Int32.reduceToInt]; omega))) only [neg1, mul6, g_s, g_l, tadd, tsub, inb_iff, Int32.lt_iff_toInt_lt, Int32.le_iff_toInt_le, i32_eq, b2i_0, Int32.reduceToInt, reduceIte, Nat.reduceEqDiff] at c1346)
        obtain ⟨y1373, y1374, y1375, e1379, p1376, p1377, p1378⟩ := t_Reader_readNumber_48 o1 x2 o0 o2 (ok4_) (ok9_) (ok6_) (wi_)
        obtain ⟨f1380, f1381, f1382, f1383⟩ := id p1376
        obtain ⟨f1384, f1385, f1386, f1387, f1388, f1389⟩ := id p1377
        obtain ⟨f1390, f1391, f1392, f1393, f1394, f1395, f1396, f1397⟩ := WI.rg p1378
        refine ⟨y1373, y1374, y1375, e1379, ok4_, ok6_, wi_⟩
set_option maxHeartbeats 1000000 in
theorem t_Reader_readNumber (o0 : Ob) (o1 : Ob) (o2 : Ob) (g0 : okReader o0) (g1 : okText o1) (g2 : okSteps o2) (g3 : WI 0 o0) : ∃ (r : Bool) (n0 : Ob) (n2 : Ob), F_Reader_readNumber o0 o1 o2 = some (r, n0, n2) ∧ (okReader n0) ∧ (okSteps n2) ∧ (WI 0 n0) := by
  obtain ⟨f1398, f1399, f1400, f1401⟩ := id g0
  obtain ⟨f1402, f1403, f1404, f1405, f1406, f1407, f1408, f1409, f1410⟩ := id g1
  obtain ⟨f1411, f1412, f1413, f1414, f1415, f1416⟩ := id g2
  obtain ⟨f1417, f1418, f1419, f1420, f1421, f1422, f1423, f1424⟩ := WI.rg g3
  rw [F_Reader_readNumber]
  obtain ⟨v2, o_3, e1430, p1425, p1426, p1427, p1428, p1429⟩ := t_Reader_readDigits (0 : Int32) (5 : Int32) o0 (ok4_) (tu_) (tu_) (tu_) (tu_)
  rw [e1430, bind2_s]
  obtain ⟨f1431, f1432, f1433, f1434⟩ := id p1425
  have f1435 := congrArg Int32.toInt (p1428 2 0 (by decide))
  have f1436 := congrArg Int32.toInt (p1428 6 0 (by decide))
  have f1437 := congrArg Int32.toInt (p1428 10 0 (by decide))
  have f1438 := congrArg Int32.toInt (p1428 11 0 (by decide))
  obtain ⟨y1439, y1440, y1441, e1445, p1442, p1443, p1444⟩ := t_Reader_readNumber_14 o1 fuel v2 (g32 o0 3 0) o_3 o2 (ok4_) (ok9_) (ok6_) (wi_) (tu_) (tu_) tu_
  obtain ⟨f1446, f1447, f1448, f1449⟩ := id p1442
  obtain ⟨f1450, f1451, f1452, f1453, f1454, f1455⟩ := id p1443
  obtain ⟨f1456, f1457, f1458, f1459, f1460, f1461, f1462, f1463⟩ := WI.rg p1444
  refine ⟨y1439, y1440, y1441, e1445, ok4_, ok6_, wi_⟩
set_option maxHeartbeats 1000000 in
theorem t_Reader_lastWaiting (o0 : Ob) (g0 : okReader o0) (g1 : 0 ≤ (g32 o0 6 0).toInt) (g2 : (g32 o0 6 0).toInt ≤ 400) : ∃ (r : Int32), F_Reader_lastWaiting o0 = some r ∧ (0 < (g32 o0 6 0).toInt → r.toInt = (g32 o0 5 (Int32.toNatClampNeg ((g32 o0 6 0) - (1 : Int32)))).toInt) := by
  obtain ⟨f1464, f1465, f1466, f1467⟩ := id g0
  rw [F_Reader_lastWaiting]
  by_cases c1468 : (g32 o0 6 0) ≤ 0
  · rw [if_pos c1468]
    (try simp (disch := (first | omega | (simp only [Int32.reduceToInt]; omega) | (simp (disch := first | omega | (simp only [Int32.reduceToInt]; omega)) only [tadd, tsub, mul6, neg1, Int32.reduceToInt]; omega))) only [neg1, mul6, g_s, g_l, tadd, tsub, inb_iff, Int32.lt_iff_toInt_lt, Int32.le_iff_toInt_le, i32_eq, b2i_0, Int32.reduceToInt, reduceIte, Nat.reduceEqDiff] at c1468)
    refine ⟨_, rfl, tu_⟩
  · rw [if_neg c1468]
    (try simp (disch := (first | omega | (simp only [Int32.reduceToInt]; omega) | (simp (disch := first | omega | (simp only [Int32.reduceToInt]; omega)) only [tadd, tsub, mul6, neg1, Int32.reduceToInt]; omega))) only [neg1, mul6, g_s, g_l, tadd, tsub, inb_iff, Int32.lt_iff_toInt_lt, Int32.le_iff_toInt_le, i32_eq, b2i_0, Int32.reduceToInt, reduceIte, Nat.reduceEqDiff] at c1468)
    rw [show (inb ((g32 o0 6 0) - (1 : Int32)) 400) = true from inb_iff.mpr ⟨tu_, tu_⟩, chk_tr]
    refine ⟨_, rfl, tu_⟩
set_option maxHeartbeats 1000000 in
theorem t_Reader_shapeBy (x0 : Int32)  : ∃ (r : Int32), F_Reader_shapeBy x0 = some r ∧ (1 ≤ r.toInt) ∧ (r.toInt ≤ 2) := by
  rw [F_Reader_shapeBy]
  by_cases c1469 : x0 = (5 : Int32)
  · rw [if_pos c1469]
    (try simp (disch := (first | omega | (simp only [Int32.reduceToInt]; omega) | (simp (disch := first | omega | (simp only [Int32.reduceToInt]; omega)) only [tadd, tsub, mul6, neg1, Int32.reduceToInt]; omega))) only [neg1, mul6, g_s, g_l, tadd, tsub, inb_iff, Int32.lt_iff_toInt_lt, Int32.le_iff_toInt_le, i32_eq, b2i_0, Int32.reduceToInt, reduceIte, Nat.reduceEqDiff] at c1469)
    refine ⟨_, rfl, tu_, tu_⟩
  · rw [if_neg c1469]
    (try simp (disch := (first | omega | (simp only [Int32.reduceToInt]; omega) | (simp (disch := first | omega | (simp only [Int32.reduceToInt]; omega)) only [tadd, tsub, mul6, neg1, Int32.reduceToInt]; omega))) only [neg1, mul6, g_s, g_l, tadd, tsub, inb_iff, Int32.lt_iff_toInt_lt, Int32.le_iff_toInt_le, i32_eq, b2i_0, Int32.reduceToInt, reduceIte, Nat.reduceEqDiff] at c1469)
    by_cases c1470 : x0 = (6 : Int32)
    · rw [if_pos c1470]
      (try simp (disch := (first | omega | (simp only [Int32.reduceToInt]; omega) | (simp (disch := first | omega | (simp only [Int32.reduceToInt]; omega)) only [tadd, tsub, mul6, neg1, Int32.reduceToInt]; omega))) only [neg1, mul6, g_s, g_l, tadd, tsub, inb_iff, Int32.lt_iff_toInt_lt, Int32.le_iff_toInt_le, i32_eq, b2i_0, Int32.reduceToInt, reduceIte, Nat.reduceEqDiff] at c1470)
      refine ⟨_, rfl, tu_, tu_⟩
    · rw [if_neg c1470]
      (try simp (disch := (first | omega | (simp only [Int32.reduceToInt]; omega) | (simp (disch := first | omega | (simp only [Int32.reduceToInt]; omega)) only [tadd, tsub, mul6, neg1, Int32.reduceToInt]; omega))) only [neg1, mul6, g_s, g_l, tadd, tsub, inb_iff, Int32.lt_iff_toInt_lt, Int32.le_iff_toInt_le, i32_eq, b2i_0, Int32.reduceToInt, reduceIte, Nat.reduceEqDiff] at c1470)
      refine ⟨_, rfl, tu_, tu_⟩
set_option maxHeartbeats 1000000 in
theorem t_Reader_operatorOf (x0 : Int32)  : ∃ (r : Int32), F_Reader_operatorOf x0 = some r ∧ (r.toInt = 0 ∧ True ∨ 5 ≤ r.toInt ∧ r.toInt ≤ 8 ∧ ¬ x0.toInt = 0) := by
  rw [F_Reader_operatorOf]
  by_cases c1471 : x0 = (43 : Int32)
  · rw [if_pos c1471]
    (try simp (disch := (first | omega | (simp only [Int32.reduceToInt]; omega) | (simp (disch := first | omega | (simp only [Int32.reduceToInt]; omega)) only [tadd, tsub, mul6, neg1, Int32.reduceToInt]; omega))) only [neg1, mul6, g_s, g_l, tadd, tsub, inb_iff, Int32.lt_iff_toInt_lt, Int32.le_iff_toInt_le, i32_eq, b2i_0, Int32.reduceToInt, reduceIte, Nat.reduceEqDiff] at c1471)
    refine ⟨_, rfl, tu_⟩
  · rw [if_neg c1471]
    (try simp (disch := (first | omega | (simp only [Int32.reduceToInt]; omega) | (simp (disch := first | omega | (simp only [Int32.reduceToInt]; omega)) only [tadd, tsub, mul6, neg1, Int32.reduceToInt]; omega))) only [neg1, mul6, g_s, g_l, tadd, tsub, inb_iff, Int32.lt_iff_toInt_lt, Int32.le_iff_toInt_le, i32_eq, b2i_0, Int32.reduceToInt, reduceIte, Nat.reduceEqDiff] at c1471)
    by_cases c1472 : x0 = (45 : Int32)
    · rw [if_pos c1472]
      (try simp (disch := (first | omega | (simp only [Int32.reduceToInt]; omega) | (simp (disch := first | omega | (simp only [Int32.reduceToInt]; omega)) only [tadd, tsub, mul6, neg1, Int32.reduceToInt]; omega))) only [neg1, mul6, g_s, g_l, tadd, tsub, inb_iff, Int32.lt_iff_toInt_lt, Int32.le_iff_toInt_le, i32_eq, b2i_0, Int32.reduceToInt, reduceIte, Nat.reduceEqDiff] at c1472)
      refine ⟨_, rfl, tu_⟩
    · rw [if_neg c1472]
      (try simp (disch := (first | omega | (simp only [Int32.reduceToInt]; omega) | (simp (disch := first | omega | (simp only [Int32.reduceToInt]; omega)) only [tadd, tsub, mul6, neg1, Int32.reduceToInt]; omega))) only [neg1, mul6, g_s, g_l, tadd, tsub, inb_iff, Int32.lt_iff_toInt_lt, Int32.le_iff_toInt_le, i32_eq, b2i_0, Int32.reduceToInt, reduceIte, Nat.reduceEqDiff] at c1472)
      by_cases c1473 : x0 = (42 : Int32)
      · rw [if_pos c1473]
        (try simp (disch := (first | omega | (simp only [Int32.reduceToInt]; omega) | (simp (disch := first | omega | (simp only [Int32.reduceToInt]; omega)) only [tadd, tsub, mul6, neg1, Int32.reduceToInt]; omega))) only [neg1, mul6, g_s, g_l, tadd, tsub, inb_iff, Int32.lt_iff_toInt_lt, Int32.le_iff_toInt_le, i32_eq, b2i_0, Int32.reduceToInt, reduceIte, Nat.reduceEqDiff] at c1473)
        refine ⟨_, rfl, tu_⟩
      · rw [if_neg c1473]
        (try simp (disch := (first | omega | (simp only [Int32.reduceToInt]; omega) | (simp (disch := first | omega | (simp only [Int32.reduceToInt]; omega)) only [tadd, tsub, mul6, neg1, Int32.reduceToInt]; omega))) only [neg1, mul6, g_s, g_l, tadd, tsub, inb_iff, Int32.lt_iff_toInt_lt, Int32.le_iff_toInt_le, i32_eq, b2i_0, Int32.reduceToInt, reduceIte, Nat.reduceEqDiff] at c1473)
        by_cases c1474 : x0 = (47 : Int32)
        · rw [if_pos c1474]
          (try simp (disch := (first | omega | (simp only [Int32.reduceToInt]; omega) | (simp (disch := first | omega | (simp only [Int32.reduceToInt]; omega)) only [tadd, tsub, mul6, neg1, Int32.reduceToInt]; omega))) only [neg1, mul6, g_s, g_l, tadd, tsub, inb_iff, Int32.lt_iff_toInt_lt, Int32.le_iff_toInt_le, i32_eq, b2i_0, Int32.reduceToInt, reduceIte, Nat.reduceEqDiff] at c1474)
          refine ⟨_, rfl, tu_⟩
        · rw [if_neg c1474]
          (try simp (disch := (first | omega | (simp only [Int32.reduceToInt]; omega) | (simp (disch := first | omega | (simp only [Int32.reduceToInt]; omega)) only [tadd, tsub, mul6, neg1, Int32.reduceToInt]; omega))) only [neg1, mul6, g_s, g_l, tadd, tsub, inb_iff, Int32.lt_iff_toInt_lt, Int32.le_iff_toInt_le, i32_eq, b2i_0, Int32.reduceToInt, reduceIte, Nat.reduceEqDiff] at c1474)
          refine ⟨_, rfl, tu_⟩
set_option maxHeartbeats 1000000 in
theorem t_Reader_areNeededAround_22 (x0 : Int32) (x1 : Int32) (x2 : Int32) (y0 : Int32)  : ∃ (r : Bool), F_Reader_areNeededAround_22 x0 x1 x2 y0 = some r ∧ (True) := by
  rw [F_Reader_areNeededAround_22]
  by_cases c1475 : x0 = (2 : Int32)
  · rw [if_pos c1475]
    (try simp (disch := (first | omega | (simp only [Int32.reduceToInt]; omega) | (simp (disch := first | omega | (simp only [Int32.reduceToInt]; omega)) only [tadd, tsub, mul6, neg1, Int32.reduceToInt]; omega))) only [neg1, mul6, g_s, g_l, tadd, tsub, inb_iff, Int32.lt_iff_toInt_lt, Int32.le_iff_toInt_le, i32_eq, b2i_0, Int32.reduceToInt, reduceIte, Nat.reduceEqDiff] at c1475)
    by_cases c1476 : y0 = 0
    · rw [if_pos c1476]
      (try simp (disch := (first | omega | (simp only [Int32.reduceToInt]; omega) | (simp (disch := first | omega | (simp only [Int32.reduceToInt]; omega)) only [tadd, tsub, mul6, neg1, Int32.reduceToInt]; omega))) only [neg1, mul6, g_s, g_l, tadd, tsub, inb_iff, Int32.lt_iff_toInt_lt, Int32.le_iff_toInt_le, i32_eq, b2i_0, Int32.reduceToInt, reduceIte, Nat.reduceEqDiff] at c1476)
      by_cases c1477 : x1 = (5 : Int32)
      · rw [if_pos c1477]
        (try simp (disch := (first | omega | (simp only [Int32.reduceToInt]; omega) | (simp (disch := first | omega | (simp only [Int32.reduceToInt]; omega)) only [tadd, tsub, mul6, neg1, Int32.reduceToInt]; omega))) only [neg1, mul6, g_s, g_l, tadd, tsub, inb_iff, Int32.lt_iff_toInt_lt, Int32.le_iff_toInt_le, i32_eq, b2i_0, Int32.reduceToInt, reduceIte, Nat.reduceEqDiff] at c1477)
        refine ⟨_, rfl, tu_⟩
      · rw [if_neg c1477]
        (try simp (disch := (first | omega | (simp only [Int32.reduceToInt]; omega) | (simp (disch := first | omega | (simp only [Int32.reduceToInt]; omega)) only [tadd, tsub, mul6, neg1, Int32.reduceToInt]; omega))) only [neg1, mul6, g_s, g_l, tadd, tsub, inb_iff, Int32.lt_iff_toInt_lt, Int32.le_iff_toInt_le, i32_eq, b2i_0, Int32.reduceToInt, reduceIte, Nat.reduceEqDiff] at c1477)
        by_cases c1478 : x1 = (6 : Int32)
        · rw [if_pos c1478]
          (try simp (disch := (first | omega | (simp only [Int32.reduceToInt]; omega) | (simp (disch := first | omega | (simp only [Int32.reduceToInt]; omega)) only [tadd, tsub, mul6, neg1, Int32.reduceToInt]; omega))) only [neg1, mul6, g_s, g_l, tadd, tsub, inb_iff, Int32.lt_iff_toInt_lt, Int32.le_iff_toInt_le, i32_eq, b2i_0, Int32.reduceToInt, reduceIte, Nat.reduceEqDiff] at c1478)
          refine ⟨_, rfl, tu_⟩
        · rw [if_neg c1478]
          (try simp (disch := (first | omega | (simp only [Int32.reduceToInt]; omega) | (simp (disch := first | omega | (simp only [Int32.reduceToInt]; omega)) only [tadd, tsub, mul6, neg1, Int32.reduceToInt]; omega))) only [neg1, mul6, g_s, g_l, tadd, tsub, inb_iff, Int32.lt_iff_toInt_lt, Int32.le_iff_toInt_le, i32_eq, b2i_0, Int32.reduceToInt, reduceIte, Nat.reduceEqDiff] at c1478)
          by_cases c1479 : x2 = (42 : Int32)
          · rw [if_pos c1479]
            (try simp (disch := (first | omega | (simp only [Int32.reduceToInt]; omega) | (simp (disch := first | omega | (simp only [Int32.reduceToInt]; omega)) only [tadd, tsub, mul6, neg1, Int32.reduceToInt]; omega))) only [neg1, mul6, g_s, g_l, tadd, tsub, inb_iff, Int32.lt_iff_toInt_lt, Int32.le_iff_toInt_le, i32_eq, b2i_0, Int32.reduceToInt, reduceIte, Nat.reduceEqDiff] at c1479)
            refine ⟨_, rfl, tu_⟩
          · rw [if_neg c1479]
            (try simp (disch := (first | omega | (simp only [Int32.reduceToInt]; omega) | (simp (disch := first | omega | (simp only [Int32.reduceToInt]; omega)) only [tadd, tsub, mul6, neg1, Int32.reduceToInt]; omega))) only [neg1, mul6, g_s, g_l, tadd, tsub, inb_iff, Int32.lt_iff_toInt_lt, Int32.le_iff_toInt_le, i32_eq, b2i_0, Int32.reduceToInt, reduceIte, Nat.reduceEqDiff] at c1479)
            by_cases c1480 : x2 = (47 : Int32)
            · rw [if_pos c1480]
              (try simp (disch := (first | omega | (simp only [Int32.reduceToInt]; omega) | (simp (disch := first | omega | (simp only [Int32.reduceToInt]; omega)) only [tadd, tsub, mul6, neg1, Int32.reduceToInt]; omega))) only [neg1, mul6, g_s, g_l, tadd, tsub, inb_iff, Int32.lt_iff_toInt_lt, Int32.le_iff_toInt_le, i32_eq, b2i_0, Int32.reduceToInt, reduceIte, Nat.reduceEqDiff] at c1480)
              refine ⟨_, rfl, tu_⟩
            · rw [if_neg c1480]
              (try simp (disch := (first | omega | (simp only [Int32.reduceToInt]; omega) | (simp (disch := first | omega | (simp only [Int32.reduceToInt]; omega)) only [tadd, tsub, mul6, neg1, Int32.reduceToInt]; omega))) only [neg1, mul6, g_s, g_l, tadd, tsub, inb_iff, Int32.lt_iff_toInt_lt, Int32.le_iff_toInt_le, i32_eq, b2i_0, Int32.reduceToInt, reduceIte, Nat.reduceEqDiff] at c1480)
              refine ⟨_, rfl, tu_⟩
    · rw [if_neg c1476]
      (try simp (disch := (first | omega | (simp only [Int32.reduceToInt]; omega) | (simp (disch := first | omega | (simp only [Int32.reduceToInt]; omega)) only [tadd, tsub, mul6, neg1, Int32.reduceToInt]; omega))) only [neg1, mul6, g_s, g_l, tadd, tsub, inb_iff, Int32.lt_iff_toInt_lt, Int32.le_iff_toInt_le, i32_eq, b2i_0, Int32.reduceToInt, reduceIte, Nat.reduceEqDiff] at c1476)
      refine ⟨_, rfl, tu_⟩
  · rw [if_neg c1475]
    (try simp (disch := (first | omega | (simp only [Int32.reduceToInt]; omega) | (simp (disch := first | omega | (simp only [Int32.reduceToInt]; omega)) only [tadd, tsub, mul6, neg1, Int32.reduceToInt]; omega))) only [neg1, mul6, g_s, g_l, tadd, tsub, inb_iff, Int32.lt_iff_toInt_lt, Int32.le_iff_toInt_le, i32_eq, b2i_0, Int32.reduceToInt, reduceIte, Nat.reduceEqDiff] at c1475)
    by_cases c1481 : x0 = (1 : Int32)
    · rw [if_pos c1481]
      (try simp (disch := (first | omega | (simp only [Int32.reduceToInt]; omega) | (simp (disch := first | omega | (simp only [Int32.reduceToInt]; omega)) only [tadd, tsub, mul6, neg1, Int32.reduceToInt]; omega))) only [neg1, mul6, g_s, g_l, tadd, tsub, inb_iff, Int32.lt_iff_toInt_lt, Int32.le_iff_toInt_le, i32_eq, b2i_0, Int32.reduceToInt, reduceIte, Nat.reduceEqDiff] at c1481)
      by_cases c1482 : y0 = 0
      · rw [if_pos c1482]
        (try simp (disch := (first | omega | (simp only [Int32.reduceToInt]; omega) | (simp (disch := first | omega | (simp only [Int32.reduceToInt]; omega)) only [tadd, tsub, mul6, neg1, Int32.reduceToInt]; omega))) only [neg1, mul6, g_s, g_l, tadd, tsub, inb_iff, Int32.lt_iff_toInt_lt, Int32.le_iff_toInt_le, i32_eq, b2i_0, Int32.reduceToInt, reduceIte, Nat.reduceEqDiff] at c1482)
        refine ⟨_, rfl, tu_⟩
      · rw [if_neg c1482]
        (try simp (disch := (first | omega | (simp only [Int32.reduceToInt]; omega) | (simp (disch := first | omega | (simp only [Int32.reduceToInt]; omega)) only [tadd, tsub, mul6, neg1, Int32.reduceToInt]; omega))) only [neg1, mul6, g_s, g_l, tadd, tsub, inb_iff, Int32.lt_iff_toInt_lt, Int32.le_iff_toInt_le, i32_eq, b2i_0, Int32.reduceToInt, reduceIte, Nat.reduceEqDiff] at c1482)
        refine ⟨_, rfl, tu_⟩
    · rw [if_neg c1481]
      (try simp (disch := (first | omega | (simp only [Int32.reduceToInt]; omega) | (simp (disch := first | omega | (simp only [Int32.reduceToInt]; omega)) only [tadd, tsub, mul6, neg1, Int32.reduceToInt]; omega))) only [neg1, mul6, g_s, g_l, tadd, tsub, inb_iff, Int32.lt_iff_toInt_lt, Int32.le_iff_toInt_le, i32_eq, b2i_0, Int32.reduceToInt, reduceIte, Nat.reduceEqDiff] at c1481)
      refine ⟨_, rfl, tu_⟩
set_option maxHeartbeats 1000000 in
theorem t_Reader_areNeededAround (x0 : Int32) (x1 : Int32) (x2 : Int32)  : ∃ (r : Bool), F_Reader_areNeededAround x0 x1 x2 = some r ∧ (True) := by
  rw [F_Reader_areNeededAround]
  by_cases c1483 : x1 = (4 : Int32)
  · rw [if_pos c1483]
    (try simp (disch := (first | omega | (simp only [Int32.reduceToInt]; omega) | (simp (disch := first | omega | (simp only [Int32.reduceToInt]; omega)) only [tadd, tsub, mul6, neg1, Int32.reduceToInt]; omega))) only [neg1, mul6, g_s, g_l, tadd, tsub, inb_iff, Int32.lt_iff_toInt_lt, Int32.le_iff_toInt_le, i32_eq, b2i_0, Int32.reduceToInt, reduceIte, Nat.reduceEqDiff] at c1483)
    obtain ⟨y1484, e1486, p1485⟩ := t_Reader_areNeededAround_22 x0 x1 x2 (1 : Int32)
    refine ⟨y1484, e1486, tu_⟩
  · rw [if_neg c1483]
    (try simp (disch := (first | omega | (simp only [Int32.reduceToInt]; omega) | (simp (disch := first | omega | (simp only [Int32.reduceToInt]; omega)) only [tadd, tsub, mul6, neg1, Int32.reduceToInt]; omega))) only [neg1, mul6, g_s, g_l, tadd, tsub, inb_iff, Int32.lt_iff_toInt_lt, Int32.le_iff_toInt_le, i32_eq, b2i_0, Int32.reduceToInt, reduceIte, Nat.reduceEqDiff] at c1483)
    by_cases c1487 : x1 = (7 : Int32)
    · rw [if_pos c1487]
      (try simp (disch := (first | omega | (simp only [Int32.reduceToInt]; omega) | (simp (disch := first | omega | (simp only [Int32.reduceToInt]; omega)) only [tadd, tsub, mul6, neg1, Int32.reduceToInt]; omega))) only [neg1, mul6, g_s, g_l, tadd, tsub, inb_iff, Int32.lt_iff_toInt_lt, Int32.le_iff_toInt_le, i32_eq, b2i_0, Int32.reduceToInt, reduceIte, Nat.reduceEqDiff] at c1487)
      obtain ⟨y1488, e1490, p1489⟩ := t_Reader_areNeededAround_22 x0 x1 x2 (1 : Int32)
      refine ⟨y1488, e1490, tu_⟩
    · rw [if_neg c1487]
      (try simp (disch := (first | omega | (simp only [Int32.reduceToInt]; omega) | (simp (disch := first | omega | (simp only [Int32.reduceToInt]; omega)) only [tadd, tsub, mul6, neg1, Int32.reduceToInt]; omega))) only [neg1, mul6, g_s, g_l, tadd, tsub, inb_iff, Int32.lt_iff_toInt_lt, Int32.le_iff_toInt_le, i32_eq, b2i_0, Int32.reduceToInt, reduceIte, Nat.reduceEqDiff] at c1487)
      by_cases c1491 : x1 = (8 : Int32)
      · rw [if_pos c1491]
        (try simp (disch := (first | omega | (simp only [Int32.reduceToInt]; omega) | (simp (disch := first | omega | (simp only [Int32.reduceToInt]; omega)) only [tadd, tsub, mul6, neg1, Int32.reduceToInt]; omega))) only [neg1, mul6, g_s, g_l, tadd, tsub, inb_iff, Int32.lt_iff_toInt_lt, Int32.le_iff_toInt_le, i32_eq, b2i_0, Int32.reduceToInt, reduceIte, Nat.reduceEqDiff] at c1491)
        obtain ⟨y1492, e1494, p1493⟩ := t_Reader_areNeededAround_22 x0 x1 x2 (1 : Int32)
        refine ⟨y1492, e1494, tu_⟩
      · rw [if_neg c1491]
        (try simp (disch := (first | omega | (simp only [Int32.reduceToInt]; omega) | (simp (disch := first | omega | (simp only [Int32.reduceToInt]; omega)) only [tadd, tsub, mul6, neg1, Int32.reduceToInt]; omega))) only [neg1, mul6, g_s, g_l, tadd, tsub, inb_iff, Int32.lt_iff_toInt_lt, Int32.le_iff_toInt_le, i32_eq, b2i_0, Int32.reduceToInt, reduceIte, Nat.reduceEqDiff] at c1491)
        obtain ⟨y1495, e1497, p1496⟩ := t_Reader_areNeededAround_22 x0 x1 x2 (0 : Int32)
        refine ⟨y1495, e1497, tu_⟩
theorem t_Reader_releaseNegations_0 (o1 : Ob) : ∀ (n : Nat) (o0 o2 : Ob), okReader o0 → okText o1 → okSteps o2 → WI 0 o0 → (g32 o0 6 0).toInt < (n : Int) → ∃ (n0 n2 : Ob), F_Reader_releaseNegations_0 o1 n o0 o2 = some (n0, n2) ∧ okReader n0 ∧ okSteps n2 ∧ WI 0 n0 ∧ (g32 n0 10 0).toInt = (g32 o0 10 0).toInt := by
  intro n
  induction n with
  | zero =>
    intro o0 o2 h0 h1 h2 hW hn
    have rg := hW.rg
    exfalso; omega
  | succ n ih =>
    intro o0 o2 h0 h1 h2 hW hn
    have rg := hW.rg
    rw [F_Reader_releaseNegations_0]
    by_cases c : g32 o0 6 0 ≤ 0
    · rw [if_pos c]; exact ⟨o0, o2, rfl, h0, h2, hW, rfl⟩
    · rw [if_neg c]
      have c := nle0 c
      obtain ⟨v3, e3, p3⟩ := t_Reader_lastWaiting o0 h0 (by omega) (by omega)
      have p3 := p3 c
      rw [e3, bind1_s]
      by_cases c4 : v3 = (4 : Int32)
      · rw [if_pos c4]
        obtain ⟨m2, e2, q2, _⟩ := t_Steps_add 4 0 0 o2 h2 (fun z => absurd z (by decide)) (fun z => absurd z (by decide))
        rw [e2, bind1_s]
        have ht : (g32 o0 5 (Int32.toNatClampNeg ((g32 o0 6 0) - (1 : Int32)))).toInt = 4 := by rw [← p3, c4]; rfl
        have e1 := sub1 (x := g32 o0 6 0) (by omega)
        exact ih _ _ (okReader.ne (okReader.ne h0 (by decide) (by decide) (by decide)) (by decide) (by decide) (by decide)) h1 q2 (WI.pop4 hW c ht) (by show ((g32 o0 6 0) - (1 : Int32)).toInt < (n : Int); omega)
      · rw [if_neg c4]; exact ⟨o0, o2, rfl, h0, h2, hW, rfl⟩
theorem t_Reader_releaseNegations (o0 o1 o2 : Ob) (g0 : okReader o0) (g1 : okText o1) (g2 : okSteps o2) (g3 : WI 0 o0) : ∃ (n0 n2 : Ob), F_Reader_releaseNegations o0 o1 o2 = some (n0, n2) ∧ (okReader n0) ∧ (okSteps n2) ∧ (WI 0 n0) ∧ ((g32 n0 10 0).toInt = (g32 o0 10 0).toInt) :=
  t_Reader_releaseNegations_0 o1 fuel o0 o2 g0 g1 g2 g3 (by have := g3.rg; rw [fuel_eq]; omega)
theorem t_Reader_releaseWaiting_0 (o1 : Ob) : ∀ (n : Nat) (x1 : Int32) (o0 o2 : Ob), okReader o0 → okText o1 → okSteps o2 → WI 0 o0 → (g32 o0 6 0).toInt < (n : Int) → ∃ (n0 n2 : Ob), F_Reader_releaseWaiting_0 o1 n x1 o0 o2 = some (n0, n2) ∧ okReader n0 ∧ okSteps n2 ∧ WI 0 n0 ∧ KE 6 o0 n0 ∧ (x1.toInt = 0 → 0 < (g32 o0 10 0).toInt → 0 < (g32 n0 6 0).toInt ∧ (g32 n0 5 (Int32.toNatClampNeg ((g32 n0 6 0) - (1 : Int32)))).toInt = 9) := by
  intro n
  induction n with
  | zero =>
    intro x1 o0 o2 h0 h1 h2 hW hn
    have rg := hW.rg
    exfalso; omega
  | succ n ih =>
    intro x1 o0 o2 h0 h1 h2 hW hn
    have rg := hW.rg
    rw [F_Reader_releaseWaiting_0]
    by_cases c : g32 o0 6 0 ≤ 0
    · rw [if_pos c]
      have c := le0 c
      exact ⟨o0, o2, rfl, h0, h2, hW, KE.refl, fun _ hg => by have := WI.some9 hW hg; omega⟩
    · rw [if_neg c]
      have c := nle0 c
      obtain ⟨v3, e3, p3⟩ := t_Reader_lastWaiting o0 h0 (by omega) (by omega)
      have p3 := p3 c
      rw [e3, bind1_s]
      by_cases c9 : v3 = (9 : Int32)
      · rw [if_pos c9]
        have ht : (g32 o0 5 (Int32.toNatClampNeg ((g32 o0 6 0) - (1 : Int32)))).toInt = 9 := by rw [← p3, c9]; rfl
        exact ⟨o0, o2, rfl, h0, h2, hW, KE.refl, fun _ _ => ⟨c, ht⟩⟩
      · rw [if_neg c9]
        have ht : ¬ (g32 o0 5 (Int32.toNatClampNeg ((g32 o0 6 0) - (1 : Int32)))).toInt = 9 := fun z => c9 (Int32.toInt_inj.mp (p3.trans z))
        have e1 := sub1 (x := g32 o0 6 0) (by omega)
        have st : ∃ (n0 n2 : Ob), F_Reader_releaseWaiting_32 o1 (F_Reader_releaseWaiting_0 o1 n) x1 o0 o2 = some (n0, n2) ∧ okReader n0 ∧ okSteps n2 ∧ WI 0 n0 ∧ KE 6 o0 n0 ∧ (x1.toInt = 0 → 0 < (g32 o0 10 0).toInt → 0 < (g32 n0 6 0).toInt ∧ (g32 n0 5 (Int32.toNatClampNeg ((g32 n0 6 0) - (1 : Int32)))).toInt = 9) := by
          rw [F_Reader_releaseWaiting_32, e3, bind1_s]
          have v23 : v3.toInt = (g32 o0 5 (Int32.toNatClampNeg ((g32 o0 6 0) - (1 : Int32)))).toInt := p3
          obtain ⟨m2, e2, q2, _⟩ := t_Steps_add v3 0 0 o2 h2 (fun _ => ⟨by decide, by decide⟩) (fun _ => ⟨by decide, by decide⟩)
          rw [e2, bind1_s]
          obtain ⟨n0, n2, e, r0, r2, rW, rK, rT⟩ := ih x1 (s32 o0 6 0 ((g32 o0 6 0) - (1 : Int32))) m2 (okReader.ne h0 (by decide) (by decide) (by decide)) h1 q2 (WI.popb hW c ht) (by show ((g32 o0 6 0) - (1 : Int32)).toInt < (n : Int); omega)
          exact ⟨n0, n2, e, r0, r2, rW, KE.tr (KE.s KE.refl) rK, rT⟩
        by_cases cx : x1 = (1 : Int32)
        · rw [if_pos cx, bind1_s]
          obtain ⟨v9, e9, _, _⟩ := t_Reader_shapeBy v3
          rw [e9, bind1_s]
          by_cases cs : v9 = (1 : Int32)
          · rw [if_pos cs]; exact st
          · rw [if_neg cs]
            exact ⟨o0, o2, rfl, h0, h2, hW, KE.refl, fun z _ => by rw [cx] at z; exact absurd z (by decide)⟩
        · rw [if_neg cx]; exact st
theorem t_Reader_releaseWaiting (x1 : Int32) (o0 o1 o2 : Ob) (g0 : okReader o0) (g1 : okText o1) (g2 : okSteps o2) (g3 : WI 0 o0) : ∃ (n0 n2 : Ob), F_Reader_releaseWaiting x1 o0 o1 o2 = some (n0, n2) ∧ (okReader n0) ∧ (okSteps n2) ∧ (WI 0 n0) ∧ (KE 6 o0 n0) ∧ (x1.toInt = 0 → 0 < (g32 o0 10 0).toInt → 0 < (g32 n0 6 0).toInt ∧ (g32 n0 5 (Int32.toNatClampNeg ((g32 n0 6 0) - (1 : Int32)))).toInt = 9) :=
  t_Reader_releaseWaiting_0 o1 fuel x1 o0 o2 g0 g1 g2 g3 (by have := g3.rg; rw [fuel_eq]; omega)
theorem cg_123 (o1 : Ob) (M : Int) (k0 : Ob → Ob → Option (Ob × Ob)) (hk : ∀ a b, okReader a → okSteps b → WI 0 a → (g32 a 10 0).toInt < M → ∃ (n0 n2 : Ob), k0 a b = some (n0, n2) ∧ okReader n0 ∧ okSteps n2 ∧ WI 0 n0) (x1 x2 : Int32) (o0 o2 : Ob) (h0 : okReader o0) (h1 : okText o1) (h2 : okSteps o2) (hW : WI 1 o0) (hM : (g32 o0 10 0).toInt - 1 < M) : ∃ (n0 n2 : Ob), F_Reader_closeGroups_123 o1 k0 x1 x2 o0 o2 = some (n0, n2) ∧ okReader n0 ∧ okSteps n2 ∧ WI 0 n0 := by
  have rg := hW.rg
  have e1 := sub1 (x := g32 o0 10 0) (by omega)
  have ic : (inb ((g32 o0 10 0) - (1 : Int32)) 9) = true := inb_iff.mpr ⟨by omega, by omega⟩
  have st : ∀ v : Int32, ∃ (n0 n2 : Ob), bind2 (F_Reader_releaseNegations (s32 (s32 (s32 o0 10 0 ((g32 o0 10 0) - (1 : Int32))) 11 0 ((g32 o0 11 0) - (1 : Int32))) 9 (Int32.toNatClampNeg ((g32 o0 10 0) - (1 : Int32))) v) o1 o2) (fun a b => k0 a b) = some (n0, n2) ∧ okReader n0 ∧ okSteps n2 ∧ WI 0 n0 := by
    intro v
    obtain ⟨a, b, e, ra, rb, rW, r10⟩ := t_Reader_releaseNegations (s32 (s32 (s32 o0 10 0 ((g32 o0 10 0) - (1 : Int32))) 11 0 ((g32 o0 11 0) - (1 : Int32))) 9 (Int32.toNatClampNeg ((g32 o0 10 0) - (1 : Int32))) v) o1 o2 (okReader.ne (okReader.ne (okReader.ne h0 (by decide) (by decide) (by decide)) (by decide) (by decide) (by decide)) (by decide) (by decide) (by decide)) h1 h2 (WI.cls hW)
    rw [e, bind2_s]
    have r10 : (g32 a 10 0).toInt = ((g32 o0 10 0) - (1 : Int32)).toInt := r10
    exact hk a b ra rb rW (by omega)
  rw [F_Reader_closeGroups_123]
  by_cases c : x2 = (4 : Int32)
  · rw [if_pos c, ic, chk_tr]; exact st _
  · rw [if_neg c, ic, chk_tr]; exact st _
theorem cg_64 (o1 : Ob) (M : Int) (k0 : Ob → Ob → Option (Ob × Ob)) (hk : ∀ a b, okReader a → okSteps b → WI 0 a → (g32 a 10 0).toInt < M → ∃ (n0 n2 : Ob), k0 a b = some (n0, n2) ∧ okReader n0 ∧ okSteps n2 ∧ WI 0 n0) (y0 : Int32) (o0 o2 : Ob) (h0 : okReader o0) (h1 : okText o1) (h2 : okSteps o2) (hW : WI 1 o0) (hl : (g32 o0 3 0).toInt < (g32 o0 2 0).toInt) (hM : (g32 o0 10 0).toInt - 1 < M) : ∃ (n0 n2 : Ob), F_Reader_closeGroups_64 o1 k0 y0 o0 o2 = some (n0, n2) ∧ okReader n0 ∧ okSteps n2 ∧ WI 0 n0 := by
  have rg := hW.rg
  obtain ⟨f1, f2, f3, f4⟩ := id h0
  have e1 := add1 (x := g32 o0 3 0) (by omega)
  rw [F_Reader_closeGroups_64]
  obtain ⟨v13, e13, _⟩ := t_Reader_lastWaiting o0 h0 (by omega) (by omega)
  rw [e13, bind1_s, show (inb (g32 o0 10 0) 9) = true from inb_iff.mpr ⟨by omega, by omega⟩, chk_tr]
  have h0a : okReader (s32 o0 3 0 ((g32 o0 3 0) + (1 : Int32))) := okReader.ne h0 (by decide) (by decide) (by decide)
  have hWa : WI 1 (s32 o0 3 0 ((g32 o0 3 0) + (1 : Int32))) := WI.ad hW (by omega) (by omega)
  obtain ⟨v16, e16, _⟩ := t_Reader_next (s32 o0 3 0 ((g32 o0 3 0) + (1 : Int32))) h0a (by show 0 ≤ ((g32 o0 3 0) + (1 : Int32)).toInt; omega)
  rw [e16, bind1_s]
  obtain ⟨v18, e18, _⟩ := t_Reader_areNeededAround y0 v13 v16
  rw [e18, bind1_s]
  by_cases c : (b2i v18) = 0
  · have f4a := f4 (Int32.toNatClampNeg (g32 o0 10 0))
    rw [if_pos c, show (inb (g32 o0 7 (Int32.toNatClampNeg (g32 o0 10 0))) 400) = true from inb_iff.mpr ⟨by omega, by omega⟩, chk_tr, show (inb (g32 o0 3 0) 400) = true from inb_iff.mpr ⟨by omega, by omega⟩, chk_tr]
    exact cg_123 o1 M k0 hk y0 v13 _ o2 (okReader.ne (okReader.ne h0a (by decide) (by decide) (by decide)) (by decide) (by decide) (by decide)) h1 h2 (WI.ne (WI.ne hWa (by decide) (by decide) (by decide) (by decide) (by decide) (by decide)) (by decide) (by decide) (by decide) (by decide) (by decide) (by decide)) hM
  · rw [if_neg c]
    exact cg_123 o1 M k0 hk y0 v13 _ o2 h0a h1 h2 hWa hM
theorem t_Reader_closeGroups_0 (o1 : Ob) : ∀ (n : Nat) (o0 o2 : Ob), okReader o0 → okText o1 → okSteps o2 → WI 0 o0 → (g32 o0 10 0).toInt < (n : Int) → ∃ (n0 n2 : Ob), F_Reader_closeGroups_0 o1 n o0 o2 = some (n0, n2) ∧ okReader n0 ∧ okSteps n2 ∧ WI 0 n0 := by
  intro n
  induction n with
  | zero =>
    intro o0 o2 h0 h1 h2 hW hn
    have rg := hW.rg
    exfalso; omega
  | succ n ih =>
    intro o0 o2 h0 h1 h2 hW hn
    have rg := hW.rg
    rw [F_Reader_closeGroups_0]
    by_cases c : g32 o0 10 0 ≤ 0
    · rw [if_pos c]; exact ⟨o0, o2, rfl, h0, h2, hW⟩
    · rw [if_neg c]
      have c := nle0 c
      obtain ⟨v3, e3, p1, p2, p3⟩ := t_Reader_next o0 h0 (by omega)
      rw [e3, bind1_s]
      by_cases c41 : v3 = (41 : Int32)
      · rw [if_pos c41]
        have v41 : v3.toInt = 41 := by rw [c41]; rfl
        obtain ⟨a, b, e, ra, rb, rW, rK, rT⟩ := t_Reader_releaseWaiting 0 o0 o1 o2 h0 h1 h2 hW
        have rT := rT rfl c
        have k10 := congrArg Int32.toInt (rK 10 0 (by decide)); have k3 := congrArg Int32.toInt (rK 3 0 (by decide)); have k2 := congrArg Int32.toInt (rK 2 0 (by decide))
        rw [e, bind2_s, show (inb (g32 a 10 0) 9) = true from inb_iff.mpr ⟨by omega, by omega⟩, chk_tr]
        have hk : ∀ x y, okReader x → okSteps y → WI 0 x → (g32 x 10 0).toInt < (n : Int) → ∃ (n0 n2 : Ob), F_Reader_closeGroups_0 o1 n x y = some (n0, n2) ∧ okReader n0 ∧ okSteps n2 ∧ WI 0 n0 := fun x y hx hy hWx hm => ih x y hx h1 hy hWx hm
        have st : ∀ w, ∃ (n0 n2 : Ob), F_Reader_closeGroups_64 o1 (F_Reader_closeGroups_0 o1 n) w (s32 a 6 0 ((g32 a 6 0) - (1 : Int32))) b = some (n0, n2) ∧ okReader n0 ∧ okSteps n2 ∧ WI 0 n0 := fun w =>
          cg_64 o1 n _ hk w _ b (okReader.ne ra (by decide) (by decide) (by decide)) h1 rb (WI.popg rW rT.1 rT.2) (by show (g32 a 3 0).toInt < (g32 a 2 0).toInt; omega) (by show (g32 a 10 0).toInt - 1 < (n : Int); omega)
        by_cases c8 : (g32 a 8 (Int32.toNatClampNeg (g32 a 10 0))) = 0
        · rw [if_pos c8]; exact st _
        · rw [if_neg c8]; exact st _
      · rw [if_neg c41]; exact ⟨o0, o2, rfl, h0, h2, hW⟩
theorem t_Reader_closeGroups (o0 o1 o2 : Ob) (g0 : okReader o0) (g1 : okText o1) (g2 : okSteps o2) (g3 : WI 0 o0) : ∃ (n0 n2 : Ob), F_Reader_closeGroups o0 o1 o2 = some (n0, n2) ∧ (okReader n0) ∧ (okSteps n2) ∧ (WI 0 n0) :=
  t_Reader_closeGroups_0 o1 fuel o0 o2 g0 g1 g2 g3 (by have := g3.rg; rw [fuel_eq]; omega)
theorem t_Reader_readOperator (o0 o1 o2 : Ob) (g0 : okReader o0) (g1 : okText o1) (g2 : okSteps o2) (g3 : WI 0 o0) : ∃ (r : Bool) (n0 n2 : Ob), F_Reader_readOperator o0 o1 o2 = some (r, n0, n2) ∧ (okReader n0) ∧ (okSteps n2) ∧ (WI 0 n0) := by
  have rg := g3.rg
  rw [F_Reader_readOperator]
  obtain ⟨v2, e2, p1, p2, p3⟩ := t_Reader_next o0 g0 (by omega)
  rw [e2, bind1_s]
  obtain ⟨v4, e4, p4⟩ := t_Reader_operatorOf v2
  rw [e4, bind1_s]
  by_cases c : v4 = 0
  · rw [if_pos c]; exact ⟨false, o0, o2, rfl, g0, g2, g3⟩
  · rw [if_neg c]
    have c2 : ¬ v4.toInt = 0 := fun z => c (Int32.toInt_inj.mp z)
    obtain ⟨v7, e7, _, _⟩ := t_Reader_shapeBy v4
    rw [e7, bind1_s]
    obtain ⟨a, b, e, ra, rb, rW, rK, _⟩ := t_Reader_releaseWaiting v7 o0 o1 o2 g0 g1 g2 g3
    have ka := rW.rg
    have k3 := congrArg Int32.toInt (rK 3 0 (by decide)); have k2 := congrArg Int32.toInt (rK 2 0 (by decide))
    rw [e, bind2_s]
    obtain ⟨m, em, rfl⟩ := t_Reader_hold v4 a ra (by omega) (by omega)
    rw [em, bind1_s, show (inb (g32 (s32 (s32 a 5 (Int32.toNatClampNeg (g32 a 6 0)) v4) 6 0 ((g32 a 6 0) + (1 : Int32))) 10 0) 9) = true from inb_iff.mpr ⟨by show 0 ≤ (g32 a 10 0).toInt; omega, by show (g32 a 10 0).toInt < _; omega⟩, chk_tr]
    have n9 : ¬ v4 = 9 := fun z => by
      have : v4.toInt = 9 := by rw [z]; rfl
      omega
    have n4 : ¬ v4 = 4 := fun z => by
      have : v4.toInt = 4 := by rw [z]; rfl
      omega
    exact ⟨true, _, b, rfl, okReader.ne (okReader.ne (okReader.ne (okReader.ne ra (by decide) (by decide) (by decide)) (by decide) (by decide) (by decide)) (by decide) (by decide) (by decide)) (by decide) (by decide) (by decide), rb, WI.push rW (by omega) n9 n4⟩
set_option maxHeartbeats 1000000 in
theorem t_Reader_passSign (o0 : Ob) (o1 : Ob) (g0 : okReader o0) (g1 : okText o1) (g2 : 0 ≤ (g32 o0 3 0).toInt) (g3 : (g32 o0 3 0).toInt ≤ (g32 o0 2 0).toInt) (g4 : cdn o1 ≤ 4) : ∃ (r : Bool) (n0 : Ob) (n1 : Ob), F_Reader_passSign o0 o1 = some (r, n0, n1) ∧ (okReader n0) ∧ (okText n1) ∧ (0 ≤ (g32 n0 3 0).toInt) ∧ ((g32 n0 3 0).toInt ≤ (g32 n0 2 0).toInt) ∧ ((g32 n1 1 0).toInt = (g32 o1 1 0).toInt) ∧ ((g32 n1 3 0).toInt = (g32 o1 3 0).toInt) ∧ ((g32 n1 11 0).toInt = (g32 o1 11 0).toInt) ∧ (cdn n1 ≤ cdn o1 + 1) := by
  obtain ⟨f1498, f1499, f1500, f1501⟩ := id g0
  obtain ⟨f1502, f1503, f1504, f1505, f1506, f1507, f1508, f1509, f1510⟩ := id g1
  rw [F_Reader_passSign]
  obtain ⟨v2, o_3, e1516, p1511, p1512, p1513, p1514, p1515⟩ := t_Reader_pass (60 : Int32) o0 (ok4_) (tu_) (tu_) (tu_)
  rw [e1516, bind2_s]
  obtain ⟨f1517, f1518, f1519, f1520⟩ := id p1511
  have f1521 := congrArg Int32.toInt (p1514 2 0 (by decide))
  have f1522 := congrArg Int32.toInt (p1514 6 0 (by decide))
  have f1523 := congrArg Int32.toInt (p1514 10 0 (by decide))
  have f1524 := congrArg Int32.toInt (p1514 11 0 (by decide))
  by_cases c1525 : (b2i v2) = 0
  · rw [if_pos c1525]
    have c1525 := b2i_0.mp c1525
    subst c1525
    obtain ⟨v8, o_9, e1531, p1526, p1527, p1528, p1529, p1530⟩ := t_Reader_pass (62 : Int32) o_3 (ok4_) (tu_) (tu_) (tu_)
    rw [e1531, bind2_s]
    obtain ⟨f1532, f1533, f1534, f1535⟩ := id p1526
    have f1536 := congrArg Int32.toInt (p1529 2 0 (by decide))
    have f1537 := congrArg Int32.toInt (p1529 6 0 (by decide))
    have f1538 := congrArg Int32.toInt (p1529 10 0 (by decide))
    have f1539 := congrArg Int32.toInt (p1529 11 0 (by decide))
    by_cases c1540 : (b2i v8) = 0
    · rw [if_pos c1540]
      have c1540 := b2i_0.mp c1540
      subst c1540
      obtain ⟨v14, o_15, e1546, p1541, p1542, p1543, p1544, p1545⟩ := t_Reader_pass (61 : Int32) o_9 (ok4_) (tu_) (tu_) (tu_)
      rw [e1546, bind2_s]
      obtain ⟨f1547, f1548, f1549, f1550⟩ := id p1541
      have f1551 := congrArg Int32.toInt (p1544 2 0 (by decide))
      have f1552 := congrArg Int32.toInt (p1544 6 0 (by decide))
      have f1553 := congrArg Int32.toInt (p1544 10 0 (by decide))
      have f1554 := congrArg Int32.toInt (p1544 11 0 (by decide))
      by_cases c1555 : (b2i v14) = 0
      · rw [if_pos c1555]
        have c1555 := b2i_0.mp c1555
        subst c1555
        refine ⟨_, _, _, rfl, ok4_, ok9_, tu_, tu_, tu_, tu_, tu_, tu_⟩
      · rw [if_neg c1555]
        have c1555 := b2i_1 c1555
        subst c1555
        obtain ⟨o_18, e1561, p1556, p1557, p1558, p1559, p1560⟩ := t_Text_countCondition o1 (ok9_) (tu_)
        rw [e1561, bind1_s]
        obtain ⟨f1562, f1563, f1564, f1565, f1566, f1567, f1568, f1569, f1570⟩ := id p1556
        refine ⟨_, _, _, rfl, ok4_, ok9_, tu_, tu_, tu_, tu_, tu_, tu_⟩
    · rw [if_neg c1540]
      have c1540 := b2i_1 c1540
      subst c1540
      obtain ⟨o_12, e1576, p1571, p1572, p1573, p1574, p1575⟩ := t_Text_countCondition o1 (ok9_) (tu_)
      rw [e1576, bind1_s]
      obtain ⟨f1577, f1578, f1579, f1580, f1581, f1582, f1583, f1584, f1585⟩ := id p1571
      refine ⟨_, _, _, rfl, ok4_, ok9_, tu_, tu_, tu_, tu_, tu_, tu_⟩
  · rw [if_neg c1525]
    have c1525 := b2i_1 c1525
    subst c1525
    obtain ⟨o_6, e1591, p1586, p1587, p1588, p1589, p1590⟩ := t_Text_countCondition o1 (ok9_) (tu_)
    rw [e1591, bind1_s]
    obtain ⟨f1592, f1593, f1594, f1595, f1596, f1597, f1598, f1599, f1600⟩ := id p1586
    refine ⟨_, _, _, rfl, ok4_, ok9_, tu_, tu_, tu_, tu_, tu_, tu_⟩
set_option maxHeartbeats 1000000 in
theorem t_Reader_print_2 (o0 : Ob) : ∀ (n : Nat) (x1 : Int32) (o1 : Ob), (okReader o0) → (okText o1) → (0 ≤ x1.toInt) → (x1.toInt ≤ 400) → ((g32 o1 1 0).toInt ≤ x1.toInt) → (OC o1) → (400 - x1.toInt < (n : Int)) → ∃ (n1 : Ob), F_Reader_print_2 o0 n x1 o1 = some n1 ∧ (okText n1) ∧ (OC n1) := by
  intro n
  induction n with
  | zero =>
    intro x1 o1 g0 g1 g2 g3 g4 g5 g6
    obtain ⟨f1601, f1602, f1603, f1604⟩ := id g0
    obtain ⟨f1605, f1606, f1607, f1608, f1609, f1610, f1611, f1612, f1613⟩ := id g1
    exfalso
    (try simp (disch := (first | omega | (simp only [Int32.reduceToInt]; omega) | (simp (disch := first | omega | (simp only [Int32.reduceToInt]; omega)) only [tadd, tsub, mul6, neg1, Int32.reduceToInt]; omega))) only [neg1, mul6, g_s, g_l, tadd, tsub, inb_iff, Int32.lt_iff_toInt_lt, Int32.le_iff_toInt_le, i32_eq, b2i_0, Int32.reduceToInt, reduceIte, Nat.reduceEqDiff] at g6)
    exact ari_
  | succ n ih =>
    intro x1 o1 g0 g1 g2 g3 g4 g5 g6
    obtain ⟨f1614, f1615, f1616, f1617⟩ := id g0
    obtain ⟨f1618, f1619, f1620, f1621, f1622, f1623, f1624, f1625, f1626⟩ := id g1
    rw [F_Reader_print_2]
    (try simp (disch := (first | omega | (simp only [Int32.reduceToInt]; omega) | (simp (disch := first | omega | (simp only [Int32.reduceToInt]; omega)) only [tadd, tsub, mul6, neg1, Int32.reduceToInt]; omega))) only [neg1, mul6, g_s, g_l, tadd, tsub, inb_iff, Int32.lt_iff_toInt_lt, Int32.le_iff_toInt_le, i32_eq, b2i_0, Int32.reduceToInt, reduceIte, Nat.reduceEqDiff] at g6)
    by_cases c1627 : (g32 o0 2 0) ≤ x1
    · rw [if_pos c1627]
      (try simp (disch := (first | omega | (simp only [Int32.reduceToInt]; omega) | (simp (disch := first | omega | (simp only [Int32.reduceToInt]; omega)) only [tadd, tsub, mul6, neg1, Int32.reduceToInt]; omega))) only [neg1, mul6, g_s, g_l, tadd, tsub, inb_iff, Int32.lt_iff_toInt_lt, Int32.le_iff_toInt_le, i32_eq, b2i_0, Int32.reduceToInt, reduceIte, Nat.reduceEqDiff] at c1627)
      refine ⟨_, rfl, ok9_, oc_⟩
    · rw [if_neg c1627]
      (try simp (disch := (first | omega | (simp only [Int32.reduceToInt]; omega) | (simp (disch := first | omega | (simp only [Int32.reduceToInt]; omega)) only [tadd, tsub, mul6, neg1, Int32.reduceToInt]; omega))) only [neg1, mul6, g_s, g_l, tadd, tsub, inb_iff, Int32.lt_iff_toInt_lt, Int32.le_iff_toInt_le, i32_eq, b2i_0, Int32.reduceToInt, reduceIte, Nat.reduceEqDiff] at c1627)
      rw [show (inb x1 400) = true from inb_iff.mpr ⟨tu_, tu_⟩, chk_tr]
      by_cases c1628 : (g32 o0 1 (Int32.toNatClampNeg x1)) = 0
      · rw [if_pos c1628]
        (try simp (disch := (first | omega | (simp only [Int32.reduceToInt]; omega) | (simp (disch := first | omega | (simp only [Int32.reduceToInt]; omega)) only [tadd, tsub, mul6, neg1, Int32.reduceToInt]; omega))) only [neg1, mul6, g_s, g_l, tadd, tsub, inb_iff, Int32.lt_iff_toInt_lt, Int32.le_iff_toInt_le, i32_eq, b2i_0, Int32.reduceToInt, reduceIte, Nat.reduceEqDiff] at c1628)
        rw [show (inb (g32 o1 1 0) 400) = true from inb_iff.mpr ⟨tu_, tu_⟩, chk_tr]
        have a1629 := f1616 (Int32.toNatClampNeg x1)
        obtain ⟨y1630, e1633, p1631, p1632⟩ := ih (x1 + (1 : Int32)) (s32 (s32 o1 0 (Int32.toNatClampNeg (g32 o1 1 0)) (vp_nar .char (g32 o0 0 (Int32.toNatClampNeg x1)))) 1 0 ((g32 o1 1 0) + (1 : Int32))) (ok4_) (ok9_) (tu_) (tu_) (tu_) (oc_) tu_
        obtain ⟨f1634, f1635, f1636, f1637, f1638, f1639, f1640, f1641, f1642⟩ := id p1631
        refine ⟨y1630, e1633, ok9_, oc_⟩
      · rw [if_neg c1628]
        (try simp (disch := (first | omega | (simp only [Int32.reduceToInt]; omega) | (simp (disch := first | omega | (simp only [Int32.reduceToInt]; omega)) only [tadd, tsub, mul6, neg1, Int32.reduceToInt]; omega))) only [neg1, mul6, g_s, g_l, tadd, tsub, inb_iff, Int32.lt_iff_toInt_lt, Int32.le_iff_toInt_le, i32_eq, b2i_0, Int32.reduceToInt, reduceIte, Nat.reduceEqDiff] at c1628)
        obtain ⟨y1643, e1646, p1644, p1645⟩ := ih (x1 + (1 : Int32)) o1 (ok4_) (ok9_) (tu_) (tu_) (tu_) (oc_) tu_
        obtain ⟨f1647, f1648, f1649, f1650, f1651, f1652, f1653, f1654, f1655⟩ := id p1644
        refine ⟨y1643, e1646, ok9_, oc_⟩
set_option maxHeartbeats 1000000 in
theorem t_Reader_print (o0 : Ob) (o1 : Ob) (g0 : okReader o0) (g1 : okText o1) (g2 : (g32 o1 1 0).toInt = 0) (g3 : OC o1) : ∃ (n1 : Ob), F_Reader_print o0 o1 = some n1 ∧ (okText n1) ∧ (OC n1) := by
  obtain ⟨f1656, f1657, f1658, f1659⟩ := id g0
  obtain ⟨f1660, f1661, f1662, f1663, f1664, f1665, f1666, f1667, f1668⟩ := id g1
  rw [F_Reader_print]
  obtain ⟨y1669, e1672, p1670, p1671⟩ := t_Reader_print_2 o0 fuel (0 : Int32) o1 (ok4_) (ok9_) (tu_) (tu_) (tu_) (oc_) tu_
  obtain ⟨f1673, f1674, f1675, f1676, f1677, f1678, f1679, f1680, f1681⟩ := id p1670
  refine ⟨y1669, e1672, ok9_, oc_⟩
theorem cellno {p m : Int32} (h0 : 0 ≤ p.toInt) (h1 : p.toInt < 10) (h2 : 0 ≤ m.toInt) (h3 : m.toInt < 6) : (((6 : Int32) * p) + m).toInt = 6 * p.toInt + m.toInt := by
  have e6 : (6 : Int32).toInt = 6 := rfl
  have e : ((6 : Int32) * p).toInt = 6 * p.toInt := by
    have q := tmul (a := (6 : Int32)) (b := p) (by rw [e6]; omega) (by rw [e6]; omega)
    rw [q, e6]
  rw [tadd (by omega) (by omega), e]
theorem idxB_rg (c : Int32) : -1 ≤ (idxB c).toInt ∧ (idxB c).toInt < 6 := by
  unfold idxB
  split
  · decide
  split
  · decide
  split
  · decide
  split
  · decide
  split
  · decide
  split
  · decide
  decide
theorem idxOf_rg (x : Int32) : -1 ≤ (idxOf x).toInt ∧ (idxOf x).toInt < 6 ∧ (0 ≤ (idxOf x).toInt → 1 ≤ x.toInt) := by
  unfold idxOf
  by_cases c1 : x < 0
  · rw [if_pos c1]; exact ⟨by decide, by decide, fun h => absurd h (by decide)⟩
  rw [if_neg c1]
  by_cases c2 : 255 < x
  · rw [if_pos c2]; exact ⟨by decide, by decide, fun h => absurd h (by decide)⟩
  rw [if_neg c2]
  have b := idxB_rg (i2b x)
  refine ⟨b.1, b.2, fun h => ?_⟩
  by_cases c3 : x = 0
  · rw [c3] at h; exact absurd h (by decide)
  · have c4 : ¬ x.toInt = 0 := fun z => c3 (Int32.toInt_inj.mp z)
    have c5 : ¬ x.toInt < 0 := fun z => c1 (Int32.lt_iff_toInt_lt.mpr z)
    omega
theorem t_Reader_readCellName (o0 : Ob) (g0 : okReader o0) (g1 : 0 ≤ (g32 o0 3 0).toInt) (g2 : (g32 o0 3 0).toInt ≤ (g32 o0 2 0).toInt) : ∃ (r : Int32) (n0 : Ob), F_Reader_readCellName o0 = some (r, n0) ∧ (okReader n0) ∧ (0 ≤ (g32 n0 3 0).toInt) ∧ ((g32 n0 3 0).toInt ≤ (g32 n0 2 0).toInt) ∧ (KE 3 o0 n0) ∧ ((g32 o0 3 0).toInt ≤ (g32 n0 3 0).toInt) ∧ (-1 ≤ r.toInt) ∧ (r.toInt < 60) := by
  obtain ⟨f1, f2, f3, f4⟩ := id g0
  rw [F_Reader_readCellName]
  obtain ⟨v2, e2, p1, p2, p3⟩ := t_Reader_next o0 g0 g1
  rw [e2, bind1_s]
  have e65 : (65 : Int32).toInt = 65 := rfl
  have ev : (v2 - (65 : Int32)).toInt = v2.toInt - 65 := by
    rw [tsub (by omega) (by omega), e65]
  have z0 : (0 : Int32).toInt = 0 := rfl
  have z10 : (10 : Int32).toInt = 10 := rfl
  have m1 : (-1 : Int32).toInt = -1 := rfl
  by_cases c : (v2 - (65 : Int32)) < 0
  · rw [if_pos c]; exact ⟨_, o0, rfl, g0, g1, g2, KE.refl, Int.le_refl _, by omega, by omega⟩
  · rw [if_neg c]
    have c : ¬ (v2 - (65 : Int32)).toInt < 0 := fun z => c (Int32.lt_iff_toInt_lt.mpr (by omega))
    by_cases d : (v2 - (65 : Int32)) < (10 : Int32)
    · rw [if_pos d]
      have d := Int32.lt_iff_toInt_lt.mp d
      have hl : (g32 o0 3 0).toInt < (g32 o0 2 0).toInt := by omega
      have ea := add1 (x := g32 o0 3 0) (by omega)
      have h0a : okReader (s32 o0 3 0 ((g32 o0 3 0) + (1 : Int32))) := okReader.ne g0 (by decide) (by decide) (by decide)
      obtain ⟨v6, e6, q1, q2, q3⟩ := t_Reader_next (s32 o0 3 0 ((g32 o0 3 0) + (1 : Int32))) h0a (by show 0 ≤ ((g32 o0 3 0) + (1 : Int32)).toInt; omega)
      have q3 : v6.toInt = 0 ∨ ((g32 o0 3 0) + (1 : Int32)).toInt < (g32 o0 2 0).toInt := q3
      rw [e6, bind1_s]
      have ix := idxOf_rg v6
      by_cases w : 0 ≤ idxOf v6
      · rw [if_pos w]
        have w := Int32.le_iff_toInt_le.mp w
        have eb := add1 (x := (g32 o0 3 0) + (1 : Int32)) (by omega)
        have ec := cellno (p := v2 - (65 : Int32)) (m := idxOf v6) (by omega) (by omega) (by omega) (by omega)
        exact ⟨_, _, rfl, okReader.ne h0a (by decide) (by decide) (by decide), by show 0 ≤ (((g32 o0 3 0) + (1 : Int32)) + (1 : Int32)).toInt; omega, by show (((g32 o0 3 0) + (1 : Int32)) + (1 : Int32)).toInt ≤ (g32 o0 2 0).toInt; omega, KE.s (KE.s KE.refl), by show (g32 o0 3 0).toInt ≤ (((g32 o0 3 0) + (1 : Int32)) + (1 : Int32)).toInt; omega, by omega, by omega⟩
      · rw [if_neg w]
        exact ⟨_, _, rfl, h0a, by show 0 ≤ ((g32 o0 3 0) + (1 : Int32)).toInt; omega, by show ((g32 o0 3 0) + (1 : Int32)).toInt ≤ (g32 o0 2 0).toInt; omega, KE.s KE.refl, by show (g32 o0 3 0).toInt ≤ ((g32 o0 3 0) + (1 : Int32)).toInt; omega, by omega, by omega⟩
    · rw [if_neg d]; exact ⟨_, o0, rfl, g0, g1, g2, KE.refl, Int.le_refl _, by omega, by omega⟩
set_option maxHeartbeats 1000000 in
theorem t_Reader_readFactor_146 (o0 : Ob) (o1 : Ob) (o2 : Ob) (g0 : okReader o0) (g1 : okText o1) (g2 : okSteps o2) (g3 : WI 0 o0) : ∃ (r : Bool) (n0 : Ob) (n1 : Ob) (n2 : Ob), F_Reader_readFactor_146 o0 o1 o2 = some (r, n0, n1, n2) ∧ (okReader n0) ∧ (okText n1) ∧ (okSteps n2) ∧ (WI 0 n0) ∧ (TK o1 n1) := by
  obtain ⟨f1682, f1683, f1684, f1685⟩ := id g0
  obtain ⟨f1686, f1687, f1688, f1689, f1690, f1691, f1692, f1693, f1694⟩ := id g1
  obtain ⟨f1695, f1696, f1697, f1698, f1699, f1700⟩ := id g2
  obtain ⟨f1701, f1702, f1703, f1704, f1705, f1706, f1707, f1708⟩ := WI.rg g3
  rw [F_Reader_readFactor_146]
  obtain ⟨v37, o_38, e1716, p1709, p1710, p1711, p1712, p1713, p1714, p1715⟩ := t_Reader_readCellName o0 (ok4_) (tu_) (tu_)
  rw [e1716, bind2_s]
  obtain ⟨f1717, f1718, f1719, f1720⟩ := id p1709
  have f1721 := congrArg Int32.toInt (p1712 2 0 (by decide))
  have f1722 := congrArg Int32.toInt (p1712 6 0 (by decide))
  have f1723 := congrArg Int32.toInt (p1712 10 0 (by decide))
  have f1724 := congrArg Int32.toInt (p1712 11 0 (by decide))
  by_cases c1725 : v37 = (-1 : Int32)
  · rw [if_pos c1725]
    (try simp (disch := (first | omega | (simp only [Int32.reduceToInt]; omega) | (simp (disch := first | omega | (simp only [Int32.reduceToInt]; omega)) only [tadd, tsub, mul6, neg1, Int32.reduceToInt]; omega))) only [neg1, mul6, g_s, g_l, tadd, tsub, inb_iff, Int32.lt_iff_toInt_lt, Int32.le_iff_toInt_le, i32_eq, b2i_0, Int32.reduceToInt, reduceIte, Nat.reduceEqDiff] at c1725)
    refine ⟨_, _, _, _, rfl, ok4_, ok9_, ok6_, wi_, tk_⟩
  · rw [if_neg c1725]
    (try simp (disch := (first | omega | (simp only [Int32.reduceToInt]; omega) | (simp (disch := first | omega | (simp only [Int32.reduceToInt]; omega)) only [tadd, tsub, mul6, neg1, Int32.reduceToInt]; omega))) only [neg1, mul6, g_s, g_l, tadd, tsub, inb_iff, Int32.lt_iff_toInt_lt, Int32.le_iff_toInt_le, i32_eq, b2i_0, Int32.reduceToInt, reduceIte, Nat.reduceEqDiff] at c1725)
    obtain ⟨o_41, o_42, e1729, p1726, p1727, p1728⟩ := t_Text_mentionCell v37 o1 o2 (ok9_) (ok6_) (tu_) (tu_)
    rw [e1729, bind2_s]
    obtain ⟨f1730, f1731, f1732, f1733, f1734, f1735, f1736, f1737, f1738⟩ := id p1726
    obtain ⟨f1739, f1740, f1741, f1742, f1743, f1744⟩ := id p1727
    have f1745 := congrArg Int32.toInt p1728.1
    have f1746 := congrArg Int32.toInt p1728.2.1
    have f1747 := congrArg Int32.toInt p1728.2.2.1
    have f1748 := TK.cd p1728
    obtain ⟨o_44, o_45, e1753, p1749, p1750, p1751, p1752⟩ := t_Reader_releaseNegations o_38 o_41 o_42 (ok4_) (ok9_) (ok6_) (wi_)
    rw [e1753, bind2_s]
    obtain ⟨f1754, f1755, f1756, f1757⟩ := id p1749
    obtain ⟨f1758, f1759, f1760, f1761, f1762, f1763⟩ := id p1750
    obtain ⟨f1764, f1765, f1766, f1767, f1768, f1769, f1770, f1771⟩ := WI.rg p1751
    refine ⟨_, _, _, _, rfl, ok4_, ok9_, ok6_, wi_, tk_⟩
set_option maxHeartbeats 1000000 in
theorem t_Reader_readFactor_107 (x1 : Int32) (o0 : Ob) (o1 : Ob) (o2 : Ob) (g0 : okReader o0) (g1 : okText o1) (g2 : okSteps o2) (g3 : WI 0 o0) (g4 : 0 ≤ x1.toInt) (g5 : x1.toInt ≤ 65535) (g6 : x1.toInt = 0 ∨ (g32 o0 3 0).toInt < (g32 o0 2 0).toInt) : ∃ (r : Bool) (n0 : Ob) (n1 : Ob) (n2 : Ob), F_Reader_readFactor_107 x1 o0 o1 o2 = some (r, n0, n1, n2) ∧ (okReader n0) ∧ (okText n1) ∧ (okSteps n2) ∧ (WI 0 n0) ∧ (TK o1 n1) := by
  obtain ⟨f1772, f1773, f1774, f1775⟩ := id g0
  obtain ⟨f1776, f1777, f1778, f1779, f1780, f1781, f1782, f1783, f1784⟩ := id g1
  obtain ⟨f1785, f1786, f1787, f1788, f1789, f1790⟩ := id g2
  obtain ⟨f1791, f1792, f1793, f1794, f1795, f1796, f1797, f1798⟩ := WI.rg g3
  rw [F_Reader_readFactor_107]
  by_cases c1799 : x1 < (97 : Int32)
  · rw [if_pos c1799]
    (try simp (disch := (first | omega | (simp only [Int32.reduceToInt]; omega) | (simp (disch := first | omega | (simp only [Int32.reduceToInt]; omega)) only [tadd, tsub, mul6, neg1, Int32.reduceToInt]; omega))) only [neg1, mul6, g_s, g_l, tadd, tsub, inb_iff, Int32.lt_iff_toInt_lt, Int32.le_iff_toInt_le, i32_eq, b2i_0, Int32.reduceToInt, reduceIte, Nat.reduceEqDiff] at c1799)
    obtain ⟨y1800, y1801, y1802, y1803, e1809, p1804, p1805, p1806, p1807, p1808⟩ := t_Reader_readFactor_146 o0 o1 o2 (ok4_) (ok9_) (ok6_) (wi_)
    obtain ⟨f1810, f1811, f1812, f1813⟩ := id p1804
    obtain ⟨f1814, f1815, f1816, f1817, f1818, f1819, f1820, f1821, f1822⟩ := id p1805
    obtain ⟨f1823, f1824, f1825, f1826, f1827, f1828⟩ := id p1806
    obtain ⟨f1829, f1830, f1831, f1832, f1833, f1834, f1835, f1836⟩ := WI.rg p1807
    have f1837 := congrArg Int32.toInt p1808.1
    have f1838 := congrArg Int32.toInt p1808.2.1
    have f1839 := congrArg Int32.toInt p1808.2.2.1
    have f1840 := TK.cd p1808
    refine ⟨y1800, y1801, y1802, y1803, e1809, ok4_, ok9_, ok6_, wi_, tk_⟩
  · rw [if_neg c1799]
    (try simp (disch := (first | omega | (simp only [Int32.reduceToInt]; omega) | (simp (disch := first | omega | (simp only [Int32.reduceToInt]; omega)) only [tadd, tsub, mul6, neg1, Int32.reduceToInt]; omega))) only [neg1, mul6, g_s, g_l, tadd, tsub, inb_iff, Int32.lt_iff_toInt_lt, Int32.le_iff_toInt_le, i32_eq, b2i_0, Int32.reduceToInt, reduceIte, Nat.reduceEqDiff] at c1799)
    by_cases c1841 : (8 : Int32) ≤ (x1 - (97 : Int32))
    · rw [if_pos c1841]
      (try simp (disch := (first | omega | (simp only [Int32.reduceToInt]; omega) | (simp (disch := first | omega | (simp only [Int32.reduceToInt]; omega)) only [tadd, tsub, mul6, neg1, Int32.reduceToInt]; omega))) only [neg1, mul6, g_s, g_l, tadd, tsub, inb_iff, Int32.lt_iff_toInt_lt, Int32.le_iff_toInt_le, i32_eq, b2i_0, Int32.reduceToInt, reduceIte, Nat.reduceEqDiff] at c1841)
      obtain ⟨y1842, y1843, y1844, y1845, e1851, p1846, p1847, p1848, p1849, p1850⟩ := t_Reader_readFactor_146 o0 o1 o2 (ok4_) (ok9_) (ok6_) (wi_)
      obtain ⟨f1852, f1853, f1854, f1855⟩ := id p1846
      obtain ⟨f1856, f1857, f1858, f1859, f1860, f1861, f1862, f1863, f1864⟩ := id p1847
      obtain ⟨f1865, f1866, f1867, f1868, f1869, f1870⟩ := id p1848
      obtain ⟨f1871, f1872, f1873, f1874, f1875, f1876, f1877, f1878⟩ := WI.rg p1849
      have f1879 := congrArg Int32.toInt p1850.1
      have f1880 := congrArg Int32.toInt p1850.2.1
      have f1881 := congrArg Int32.toInt p1850.2.2.1
      have f1882 := TK.cd p1850
      refine ⟨y1842, y1843, y1844, y1845, e1851, ok4_, ok9_, ok6_, wi_, tk_⟩
    · rw [if_neg c1841]
      (try simp (disch := (first | omega | (simp only [Int32.reduceToInt]; omega) | (simp (disch := first | omega | (simp only [Int32.reduceToInt]; omega)) only [tadd, tsub, mul6, neg1, Int32.reduceToInt]; omega))) only [neg1, mul6, g_s, g_l, tadd, tsub, inb_iff, Int32.lt_iff_toInt_lt, Int32.le_iff_toInt_le, i32_eq, b2i_0, Int32.reduceToInt, reduceIte, Nat.reduceEqDiff] at c1841)
      obtain ⟨o_31, o_32, e1886, p1883, p1884, p1885⟩ := t_Text_mentionOption (x1 - (97 : Int32)) o1 o2 (ok9_) (ok6_) (tu_) (tu_)
      rw [e1886, bind2_s]
      obtain ⟨f1887, f1888, f1889, f1890, f1891, f1892, f1893, f1894, f1895⟩ := id p1883
      obtain ⟨f1896, f1897, f1898, f1899, f1900, f1901⟩ := id p1884
      have f1902 := congrArg Int32.toInt p1885.1
      have f1903 := congrArg Int32.toInt p1885.2.1
      have f1904 := congrArg Int32.toInt p1885.2.2.1
      have f1905 := TK.cd p1885
      obtain ⟨o_34, o_35, e1910, p1906, p1907, p1908, p1909⟩ := t_Reader_releaseNegations (s32 o0 3 0 ((g32 o0 3 0) + (1 : Int32))) o_31 o_32 (ok4_) (ok9_) (ok6_) (wi_)
      rw [e1910, bind2_s]
      obtain ⟨f1911, f1912, f1913, f1914⟩ := id p1906
      obtain ⟨f1915, f1916, f1917, f1918, f1919, f1920⟩ := id p1907
      obtain ⟨f1921, f1922, f1923, f1924, f1925, f1926, f1927, f1928⟩ := WI.rg p1908
      (try simp (disch := (first | omega | (simp only [Int32.reduceToInt]; omega) | (simp (disch := first | omega | (simp only [Int32.reduceToInt]; omega)) only [tadd, tsub, mul6, neg1, Int32.reduceToInt]; omega))) only [neg1, mul6, g_s, g_l, tadd, tsub, inb_iff, Int32.lt_iff_toInt_lt, Int32.le_iff_toInt_le, i32_eq, b2i_0, Int32.reduceToInt, reduceIte, Nat.reduceEqDiff] at p1909)
      refine ⟨_, _, _, _, rfl, ok4_, ok9_, ok6_, wi_, tk_⟩
set_option maxHeartbeats 1000000 in
theorem t_Reader_readFactor_71 (o0 : Ob) (o1 : Ob) (o2 : Ob) (g0 : okReader o0) (g1 : okText o1) (g2 : okSteps o2) (g3 : WI 0 o0) : ∃ (r : Bool) (n0 : Ob) (n1 : Ob) (n2 : Ob), F_Reader_readFactor_71 o0 o1 o2 = some (r, n0, n1, n2) ∧ (okReader n0) ∧ (okText n1) ∧ (okSteps n2) ∧ (WI 0 n0) ∧ (TK o1 n1) := by
  obtain ⟨f1929, f1930, f1931, f1932⟩ := id g0
  obtain ⟨f1933, f1934, f1935, f1936, f1937, f1938, f1939, f1940, f1941⟩ := id g1
  obtain ⟨f1942, f1943, f1944, f1945, f1946, f1947⟩ := id g2
  obtain ⟨f1948, f1949, f1950, f1951, f1952, f1953, f1954, f1955⟩ := WI.rg g3
  rw [F_Reader_readFactor_71]
  rw [show (inb (g32 o0 10 0) 9) = true from inb_iff.mpr ⟨tu_, tu_⟩, chk_tr]
  obtain ⟨v10, e1959, p1956, p1957, p1958⟩ := t_Reader_next (s32 o0 9 (Int32.toNatClampNeg (g32 o0 10 0)) (0 : Int32)) (ok4_) (tu_)
  rw [e1959, bind1_s]
  (try simp (disch := (first | omega | (simp only [Int32.reduceToInt]; omega) | (simp (disch := first | omega | (simp only [Int32.reduceToInt]; omega)) only [tadd, tsub, mul6, neg1, Int32.reduceToInt]; omega))) only [neg1, mul6, g_s, g_l, tadd, tsub, inb_iff, Int32.lt_iff_toInt_lt, Int32.le_iff_toInt_le, i32_eq, b2i_0, Int32.reduceToInt, reduceIte, Nat.reduceEqDiff] at p1958)
  by_cases c1960 : v10 < (48 : Int32)
  · rw [if_pos c1960]
    (try simp (disch := (first | omega | (simp only [Int32.reduceToInt]; omega) | (simp (disch := first | omega | (simp only [Int32.reduceToInt]; omega)) only [tadd, tsub, mul6, neg1, Int32.reduceToInt]; omega))) only [neg1, mul6, g_s, g_l, tadd, tsub, inb_iff, Int32.lt_iff_toInt_lt, Int32.le_iff_toInt_le, i32_eq, b2i_0, Int32.reduceToInt, reduceIte, Nat.reduceEqDiff] at c1960)
    obtain ⟨y1961, y1962, y1963, y1964, e1970, p1965, p1966, p1967, p1968, p1969⟩ := t_Reader_readFactor_107 v10 (s32 o0 9 (Int32.toNatClampNeg (g32 o0 10 0)) (0 : Int32)) o1 o2 (ok4_) (ok9_) (ok6_) (wi_) (tu_) (tu_) (tu_)
    obtain ⟨f1971, f1972, f1973, f1974⟩ := id p1965
    obtain ⟨f1975, f1976, f1977, f1978, f1979, f1980, f1981, f1982, f1983⟩ := id p1966
    obtain ⟨f1984, f1985, f1986, f1987, f1988, f1989⟩ := id p1967
    obtain ⟨f1990, f1991, f1992, f1993, f1994, f1995, f1996, f1997⟩ := WI.rg p1968
    have f1998 := congrArg Int32.toInt p1969.1
    have f1999 := congrArg Int32.toInt p1969.2.1
    have f2000 := congrArg Int32.toInt p1969.2.2.1
    have f2001 := TK.cd p1969
    refine ⟨y1961, y1962, y1963, y1964, e1970, ok4_, ok9_, ok6_, wi_, tk_⟩
  · rw [if_neg c1960]
    (try simp (disch := (first | omega | (simp only [Int32.reduceToInt]; omega) | (simp (disch := first | omega | (simp only [Int32.reduceToInt]; omega)) only [tadd, tsub, mul6, neg1, Int32.reduceToInt]; omega))) only [neg1, mul6, g_s, g_l, tadd, tsub, inb_iff, Int32.lt_iff_toInt_lt, Int32.le_iff_toInt_le, i32_eq, b2i_0, Int32.reduceToInt, reduceIte, Nat.reduceEqDiff] at c1960)
    by_cases c2002 : (57 : Int32) < v10
    · rw [if_pos c2002]
      (try simp (disch := (first | omega | (simp only [Int32.reduceToInt]; omega) | (simp (disch := first | omega | (simp only [Int32.reduceToInt]; omega)) only [tadd, tsub, mul6, neg1, Int32.reduceToInt]; omega))) only [neg1, mul6, g_s, g_l, tadd, tsub, inb_iff, Int32.lt_iff_toInt_lt, Int32.le_iff_toInt_le, i32_eq, b2i_0, Int32.reduceToInt, reduceIte, Nat.reduceEqDiff] at c2002)
      obtain ⟨y2003, y2004, y2005, y2006, e2012, p2007, p2008, p2009, p2010, p2011⟩ := t_Reader_readFactor_107 v10 (s32 o0 9 (Int32.toNatClampNeg (g32 o0 10 0)) (0 : Int32)) o1 o2 (ok4_) (ok9_) (ok6_) (wi_) (tu_) (tu_) (tu_)
      obtain ⟨f2013, f2014, f2015, f2016⟩ := id p2007
      obtain ⟨f2017, f2018, f2019, f2020, f2021, f2022, f2023, f2024, f2025⟩ := id p2008
      obtain ⟨f2026, f2027, f2028, f2029, f2030, f2031⟩ := id p2009
      obtain ⟨f2032, f2033, f2034, f2035, f2036, f2037, f2038, f2039⟩ := WI.rg p2010
      have f2040 := congrArg Int32.toInt p2011.1
      have f2041 := congrArg Int32.toInt p2011.2.1
      have f2042 := congrArg Int32.toInt p2011.2.2.1
      have f2043 := TK.cd p2011
      refine ⟨y2003, y2004, y2005, y2006, e2012, ok4_, ok9_, ok6_, wi_, tk_⟩
    · rw [if_neg c2002]
      (try simp (disch := (first | omega | (simp only [Int32.reduceToInt]; omega) | (simp (disch := first | omega | (simp only [Int32.reduceToInt]; omega)) only [tadd, tsub, mul6, neg1, Int32.reduceToInt]; omega))) only [neg1, mul6, g_s, g_l, tadd, tsub, inb_iff, Int32.lt_iff_toInt_lt, Int32.le_iff_toInt_le, i32_eq, b2i_0, Int32.reduceToInt, reduceIte, Nat.reduceEqDiff] at c2002)
      obtain ⟨v14, o_15, o_16, e2047, p2044, p2045, p2046⟩ := t_Reader_readNumber (s32 o0 9 (Int32.toNatClampNeg (g32 o0 10 0)) (0 : Int32)) o1 o2 (ok4_) (ok9_) (ok6_) (wi_)
      rw [e2047, bind3_s]
      obtain ⟨f2048, f2049, f2050, f2051⟩ := id p2044
      obtain ⟨f2052, f2053, f2054, f2055, f2056, f2057⟩ := id p2045
      obtain ⟨f2058, f2059, f2060, f2061, f2062, f2063, f2064, f2065⟩ := WI.rg p2046
      by_cases c2066 : (b2i v14) = 0
      · rw [if_pos c2066]
        have c2066 := b2i_0.mp c2066
        subst c2066
        refine ⟨_, _, _, _, rfl, ok4_, ok9_, ok6_, wi_, tk_⟩
      · rw [if_neg c2066]
        have c2066 := b2i_1 c2066
        subst c2066
        obtain ⟨o_19, o_20, e2071, p2067, p2068, p2069, p2070⟩ := t_Reader_releaseNegations o_15 o1 o_16 (ok4_) (ok9_) (ok6_) (wi_)
        rw [e2071, bind2_s]
        obtain ⟨f2072, f2073, f2074, f2075⟩ := id p2067
        obtain ⟨f2076, f2077, f2078, f2079, f2080, f2081⟩ := id p2068
        obtain ⟨f2082, f2083, f2084, f2085, f2086, f2087, f2088, f2089⟩ := WI.rg p2069
        refine ⟨_, _, _, _, rfl, ok4_, ok9_, ok6_, wi_, tk_⟩
theorem t_Reader_readFactor_27 (o0 o1 o2 : Ob) (M0 : Int) (k0 : Ob → Ob → Ob → Option (Bool × Ob × Ob × Ob)) (hk0 : ∀ (o0 : Ob) (o1 : Ob) (o2 : Ob), (okReader o0) → (okText o1) → (okSteps o2) → (WI 0 o0) → (8 - (g32 o0 11 0).toInt < M0) → ∃ (r : Bool) (n0 : Ob) (n1 : Ob) (n2 : Ob), k0 o0 o1 o2 = some (r, n0, n1, n2) ∧ (okReader n0) ∧ (okText n1) ∧ (okSteps n2) ∧ (WI 0 n0) ∧ (TK o1 n1)) (g0 : okReader o0) (g1 : okText o1) (g2 : okSteps o2) (g3 : WI 0 o0) (g4 : (g32 o0 3 0).toInt < (g32 o0 2 0).toInt) (g5 : (g32 o0 11 0).toInt < 8) (g6 : 8 - (g32 o0 11 0).toInt - 1 < M0) : ∃ (r : Bool) (n0 : Ob) (n1 : Ob) (n2 : Ob), F_Reader_readFactor_27 k0 o0 o1 o2 = some (r, n0, n1, n2) ∧ (okReader n0) ∧ (okText n1) ∧ (okSteps n2) ∧ (WI 0 n0) ∧ (TK o1 n1) := by
  have rg := g3.rg
  obtain ⟨f1, f2, f3, f4⟩ := id g0
  rw [F_Reader_readFactor_27]
  obtain ⟨v, e, _⟩ := t_Reader_next o0 g0 (by omega)
  have e11 := add1 (x := g32 o0 11 0) (by omega)
  have e10 := add1 (x := g32 o0 10 0) (by omega)
  rw [e, bind1_s]
  by_cases c : v = (45 : Int32)
  · rw [if_pos c]
    obtain ⟨m, em, rfl⟩ := t_Reader_hold 4 o0 g0 (by omega) (by omega)
    rw [em, bind1_s]
    exact hk0 _ o1 o2 (okReader.ne (okReader.ne (okReader.ne (okReader.ne g0 (by decide) (by decide) (by decide)) (by decide) (by decide) (by decide)) (by decide) (by decide) (by decide)) (by decide) (by decide) (by decide)) g1 g2 (WI.neg g3 g4 g5) (by show 8 - ((g32 o0 11 0) + (1 : Int32)).toInt < M0; omega)
  · rw [if_neg c, F_Reader_openGroup]
    obtain ⟨m, em, rfl⟩ := t_Reader_hold 9 o0 g0 (by omega) (by omega)
    rw [em, bind1_s, show (inb ((g32 (s32 (s32 o0 5 (Int32.toNatClampNeg (g32 o0 6 0)) 9) 6 0 ((g32 o0 6 0) + (1 : Int32))) 10 0) + (1 : Int32)) 9) = true from inb_iff.mpr ⟨by show 0 ≤ ((g32 o0 10 0) + (1 : Int32)).toInt; omega, by show ((g32 o0 10 0) + (1 : Int32)).toInt < _; omega⟩, chk_tr, bind1_s]
    have h7 : okReader (s32 (s32 (s32 o0 5 (Int32.toNatClampNeg (g32 o0 6 0)) 9) 6 0 ((g32 o0 6 0) + (1 : Int32))) 10 0 ((g32 o0 10 0) + (1 : Int32))) := okReader.ne (okReader.ne (okReader.ne g0 (by decide) (by decide) (by decide)) (by decide) (by decide) (by decide)) (by decide) (by decide) (by decide)
    have h8 : okReader (s32 (s32 (s32 (s32 o0 5 (Int32.toNatClampNeg (g32 o0 6 0)) 9) 6 0 ((g32 o0 6 0) + (1 : Int32))) 10 0 ((g32 o0 10 0) + (1 : Int32))) 7 (Int32.toNatClampNeg ((g32 o0 10 0) + (1 : Int32))) (g32 o0 3 0)) := ⟨h7.1, h7.2.1, AR.ne (by decide) h7.2.2.1, AR.eq (by omega) (by omega) h7.2.2.2⟩
    exact hk0 _ o1 o2 (okReader.ne (okReader.ne (okReader.ne h8 (by decide) (by decide) (by decide)) (by decide) (by decide) (by decide)) (by decide) (by decide) (by decide)) g1 g2 (WI.grp g3 g4 g5) (by show 8 - ((g32 o0 11 0) + (1 : Int32)).toInt < M0; omega)
set_option maxHeartbeats 1000000 in
theorem t_Reader_readFactor_0  : ∀ (n : Nat) (o0 : Ob) (o1 : Ob) (o2 : Ob), (okReader o0) → (okText o1) → (okSteps o2) → (WI 0 o0) → (8 - (g32 o0 11 0).toInt < (n : Int)) → ∃ (r : Bool) (n0 : Ob) (n1 : Ob) (n2 : Ob), F_Reader_readFactor_0 n o0 o1 o2 = some (r, n0, n1, n2) ∧ (okReader n0) ∧ (okText n1) ∧ (okSteps n2) ∧ (WI 0 n0) ∧ (TK o1 n1) := by
  intro n
  induction n with
  | zero =>
    intro o0 o1 o2 g0 g1 g2 g3 g4
    obtain ⟨f2090, f2091, f2092, f2093⟩ := id g0
    obtain ⟨f2094, f2095, f2096, f2097, f2098, f2099, f2100, f2101, f2102⟩ := id g1
    obtain ⟨f2103, f2104, f2105, f2106, f2107, f2108⟩ := id g2
    obtain ⟨f2109, f2110, f2111, f2112, f2113, f2114, f2115, f2116⟩ := WI.rg g3
    exfalso
    (try simp (disch := (first | omega | (simp only [Int32.reduceToInt]; omega) | (simp (disch := first | omega | (simp only [Int32.reduceToInt]; omega)) only [tadd, tsub, mul6, neg1, Int32.reduceToInt]; omega))) only [neg1, mul6, g_s, g_l, tadd, tsub, inb_iff, Int32.lt_iff_toInt_lt, Int32.le_iff_toInt_le, i32_eq, b2i_0, Int32.reduceToInt, reduceIte, Nat.reduceEqDiff] at g4)
    exact ari_
  | succ n ih =>
    intro o0 o1 o2 g0 g1 g2 g3 g4
    obtain ⟨f2117, f2118, f2119, f2120⟩ := id g0
    obtain ⟨f2121, f2122, f2123, f2124, f2125, f2126, f2127, f2128, f2129⟩ := id g1
    obtain ⟨f2130, f2131, f2132, f2133, f2134, f2135⟩ := id g2
    obtain ⟨f2136, f2137, f2138, f2139, f2140, f2141, f2142, f2143⟩ := WI.rg g3
    rw [F_Reader_readFactor_0]
    (try simp (disch := (first | omega | (simp only [Int32.reduceToInt]; omega) | (simp (disch := first | omega | (simp only [Int32.reduceToInt]; omega)) only [tadd, tsub, mul6, neg1, Int32.reduceToInt]; omega))) only [neg1, mul6, g_s, g_l, tadd, tsub, inb_iff, Int32.lt_iff_toInt_lt, Int32.le_iff_toInt_le, i32_eq, b2i_0, Int32.reduceToInt, reduceIte, Nat.reduceEqDiff] at g4)
    by_cases c2144 : (8 : Int32) ≤ (g32 o0 11 0)
    · rw [if_pos c2144]
      (try simp (disch := (first | omega | (simp only [Int32.reduceToInt]; omega) | (simp (disch := first | omega | (simp only [Int32.reduceToInt]; omega)) only [tadd, tsub, mul6, neg1, Int32.reduceToInt]; omega))) only [neg1, mul6, g_s, g_l, tadd, tsub, inb_iff, Int32.lt_iff_toInt_lt, Int32.le_iff_toInt_le, i32_eq, b2i_0, Int32.reduceToInt, reduceIte, Nat.reduceEqDiff] at c2144)
      obtain ⟨y2145, y2146, y2147, y2148, e2154, p2149, p2150, p2151, p2152, p2153⟩ := t_Reader_readFactor_71 o0 o1 o2 (ok4_) (ok9_) (ok6_) (wi_)
      obtain ⟨f2155, f2156, f2157, f2158⟩ := id p2149
      obtain ⟨f2159, f2160, f2161, f2162, f2163, f2164, f2165, f2166, f2167⟩ := id p2150
      obtain ⟨f2168, f2169, f2170, f2171, f2172, f2173⟩ := id p2151
      obtain ⟨f2174, f2175, f2176, f2177, f2178, f2179, f2180, f2181⟩ := WI.rg p2152
      have f2182 := congrArg Int32.toInt p2153.1
      have f2183 := congrArg Int32.toInt p2153.2.1
      have f2184 := congrArg Int32.toInt p2153.2.2.1
      have f2185 := TK.cd p2153
      refine ⟨y2145, y2146, y2147, y2148, e2154, ok4_, ok9_, ok6_, wi_, tk_⟩
    · rw [if_neg c2144]
      (try simp (disch := (first | omega | (simp only [Int32.reduceToInt]; omega) | (simp (disch := first | omega | (simp only [Int32.reduceToInt]; omega)) only [tadd, tsub, mul6, neg1, Int32.reduceToInt]; omega))) only [neg1, mul6, g_s, g_l, tadd, tsub, inb_iff, Int32.lt_iff_toInt_lt, Int32.le_iff_toInt_le, i32_eq, b2i_0, Int32.reduceToInt, reduceIte, Nat.reduceEqDiff] at c2144)
      obtain ⟨v3, e2189, p2186, p2187, p2188⟩ := t_Reader_next o0 (ok4_) (tu_)
      rw [e2189, bind1_s]
      by_cases c2190 : v3 = (45 : Int32)
      · rw [if_pos c2190]
        (try simp (disch := (first | omega | (simp only [Int32.reduceToInt]; omega) | (simp (disch := first | omega | (simp only [Int32.reduceToInt]; omega)) only [tadd, tsub, mul6, neg1, Int32.reduceToInt]; omega))) only [neg1, mul6, g_s, g_l, tadd, tsub, inb_iff, Int32.lt_iff_toInt_lt, Int32.le_iff_toInt_le, i32_eq, b2i_0, Int32.reduceToInt, reduceIte, Nat.reduceEqDiff] at c2190)
        obtain ⟨y2191, y2192, y2193, y2194, e2200, p2195, p2196, p2197, p2198, p2199⟩ := t_Reader_readFactor_27 o0 o1 o2 (n : Int) _ ih (ok4_) (ok9_) (ok6_) (wi_) (tu_) (tu_) (tu_)
        obtain ⟨f2201, f2202, f2203, f2204⟩ := id p2195
        obtain ⟨f2205, f2206, f2207, f2208, f2209, f2210, f2211, f2212, f2213⟩ := id p2196
        obtain ⟨f2214, f2215, f2216, f2217, f2218, f2219⟩ := id p2197
        obtain ⟨f2220, f2221, f2222, f2223, f2224, f2225, f2226, f2227⟩ := WI.rg p2198
        have f2228 := congrArg Int32.toInt p2199.1
        have f2229 := congrArg Int32.toInt p2199.2.1
        have f2230 := congrArg Int32.toInt p2199.2.2.1
        have f2231 := TK.cd p2199
        refine ⟨y2191, y2192, y2193, y2194, e2200, ok4_, ok9_, ok6_, wi_, tk_⟩
      · rw [if_neg c2190]
        (try simp (disch := (first | omega | (simp only [Int32.reduceToInt]; omega) | (simp (disch := first | omega | (simp only [Int32.reduceToInt]; omega)) only [tadd, tsub, mul6, neg1, Int32.reduceToInt]; omega))) only [neg1, mul6, g_s, g_l, tadd, tsub, inb_iff, Int32.lt_iff_toInt_lt, Int32.le_iff_toInt_le, i32_eq, b2i_0, Int32.reduceToInt, reduceIte, Nat.reduceEqDiff] at c2190)
        rw [bind1_s]
        by_cases c2232 : v3 = (40 : Int32)
        · rw [if_pos c2232]
          (try simp (disch := (first | omega | (simp only [Int32.reduceToInt]; omega) | (simp (disch := first | omega | (simp only [Int32.reduceToInt]; omega)) only [tadd, tsub, mul6, neg1, Int32.reduceToInt]; omega))) only [neg1, mul6, g_s, g_l, tadd, tsub, inb_iff, Int32.lt_iff_toInt_lt, Int32.le_iff_toInt_le, i32_eq, b2i_0, Int32.reduceToInt, reduceIte, Nat.reduceEqDiff] at c2232)
          obtain ⟨y2233, y2234, y2235, y2236, e2242, p2237, p2238, p2239, p2240, p2241⟩ := t_Reader_readFactor_27 o0 o1 o2 (n : Int) _ ih (ok4_) (ok9_) (ok6_) (wi_) (tu_) (tu_) (tu_)
          obtain ⟨f2243, f2244, f2245, f2246⟩ := id p2237
          obtain ⟨f2247, f2248, f2249, f2250, f2251, f2252, f2253, f2254, f2255⟩ := id p2238
          obtain ⟨f2256, f2257, f2258, f2259, f2260, f2261⟩ := id p2239
          obtain ⟨f2262, f2263, f2264, f2265, f2266, f2267, f2268, f2269⟩ := WI.rg p2240
          have f2270 := congrArg Int32.toInt p2241.1
          have f2271 := congrArg Int32.toInt p2241.2.1
          have f2272 := congrArg Int32.toInt p2241.2.2.1
          have f2273 := TK.cd p2241
          refine ⟨y2233, y2234, y2235, y2236, e2242, ok4_, ok9_, ok6_, wi_, tk_⟩
        · rw [if_neg c2232]
          (try simp (disch := (first | omega | (simp only [Int32.reduceToInt]; omega) | (simp (disch := first | omega | (simp only [Int32.reduceToInt]; omega)) only [tadd, tsub, mul6, neg1, Int32.reduceToInt]; omega))) only [neg1, mul6, g_s, g_l, tadd, tsub, inb_iff, Int32.lt_iff_toInt_lt, Int32.le_iff_toInt_le, i32_eq, b2i_0, Int32.reduceToInt, reduceIte, Nat.reduceEqDiff] at c2232)
          obtain ⟨y2274, y2275, y2276, y2277, e2283, p2278, p2279, p2280, p2281, p2282⟩ := t_Reader_readFactor_71 o0 o1 o2 (ok4_) (ok9_) (ok6_) (wi_)
          obtain ⟨f2284, f2285, f2286, f2287⟩ := id p2278
          obtain ⟨f2288, f2289, f2290, f2291, f2292, f2293, f2294, f2295, f2296⟩ := id p2279
          obtain ⟨f2297, f2298, f2299, f2300, f2301, f2302⟩ := id p2280
          obtain ⟨f2303, f2304, f2305, f2306, f2307, f2308, f2309, f2310⟩ := WI.rg p2281
          have f2311 := congrArg Int32.toInt p2282.1
          have f2312 := congrArg Int32.toInt p2282.2.1
          have f2313 := congrArg Int32.toInt p2282.2.2.1
          have f2314 := TK.cd p2282
          refine ⟨y2274, y2275, y2276, y2277, e2283, ok4_, ok9_, ok6_, wi_, tk_⟩
set_option maxHeartbeats 1000000 in
theorem t_Reader_readFactor (o0 : Ob) (o1 : Ob) (o2 : Ob) (g0 : okReader o0) (g1 : okText o1) (g2 : okSteps o2) (g3 : WI 0 o0) : ∃ (r : Bool) (n0 : Ob) (n1 : Ob) (n2 : Ob), F_Reader_readFactor o0 o1 o2 = some (r, n0, n1, n2) ∧ (okReader n0) ∧ (okText n1) ∧ (okSteps n2) ∧ (WI 0 n0) ∧ (TK o1 n1) := by
  obtain ⟨f2315, f2316, f2317, f2318⟩ := id g0
  obtain ⟨f2319, f2320, f2321, f2322, f2323, f2324, f2325, f2326, f2327⟩ := id g1
  obtain ⟨f2328, f2329, f2330, f2331, f2332, f2333⟩ := id g2
  obtain ⟨f2334, f2335, f2336, f2337, f2338, f2339, f2340, f2341⟩ := WI.rg g3
  rw [F_Reader_readFactor]
  obtain ⟨y2342, y2343, y2344, y2345, e2351, p2346, p2347, p2348, p2349, p2350⟩ := t_Reader_readFactor_0 fuel o0 o1 o2 (ok4_) (ok9_) (ok6_) (wi_) tu_
  obtain ⟨f2352, f2353, f2354, f2355⟩ := id p2346
  obtain ⟨f2356, f2357, f2358, f2359, f2360, f2361, f2362, f2363, f2364⟩ := id p2347
  obtain ⟨f2365, f2366, f2367, f2368, f2369, f2370⟩ := id p2348
  obtain ⟨f2371, f2372, f2373, f2374, f2375, f2376, f2377, f2378⟩ := WI.rg p2349
  have f2379 := congrArg Int32.toInt p2350.1
  have f2380 := congrArg Int32.toInt p2350.2.1
  have f2381 := congrArg Int32.toInt p2350.2.2.1
  have f2382 := TK.cd p2350
  refine ⟨y2342, y2343, y2344, y2345, e2351, ok4_, ok9_, ok6_, wi_, tk_⟩
set_option maxHeartbeats 1000000 in
theorem t_Reader_readExpression_61 (o0 : Ob) (o1 : Ob) (o2 : Ob) (g0 : okReader o0) (g1 : okText o1) (g2 : okSteps o2) (g3 : WI 0 o0) : ∃ (r : Bool) (n0 : Ob) (n1 : Ob) (n2 : Ob), F_Reader_readExpression_61 o0 o1 o2 = some (r, n0, n1, n2) ∧ (okReader n0) ∧ (okText n1) ∧ (okSteps n2) ∧ (0 ≤ (g32 n0 3 0).toInt) ∧ ((g32 n0 3 0).toInt ≤ (g32 n0 2 0).toInt) ∧ (TK o1 n1) := by
  obtain ⟨f2383, f2384, f2385, f2386⟩ := id g0
  obtain ⟨f2387, f2388, f2389, f2390, f2391, f2392, f2393, f2394, f2395⟩ := id g1
  obtain ⟨f2396, f2397, f2398, f2399, f2400, f2401⟩ := id g2
  obtain ⟨f2402, f2403, f2404, f2405, f2406, f2407, f2408, f2409⟩ := WI.rg g3
  rw [F_Reader_readExpression_61]
  by_cases c2410 : (g32 o0 10 0) ≤ 0
  · rw [if_pos c2410]
    (try simp (disch := (first | omega | (simp only [Int32.reduceToInt]; omega) | (simp (disch := first | omega | (simp only [Int32.reduceToInt]; omega)) only [tadd, tsub, mul6, neg1, Int32.reduceToInt]; omega))) only [neg1, mul6, g_s, g_l, tadd, tsub, inb_iff, Int32.lt_iff_toInt_lt, Int32.le_iff_toInt_le, i32_eq, b2i_0, Int32.reduceToInt, reduceIte, Nat.reduceEqDiff] at c2410)
    obtain ⟨o_19, o_20, e2416, p2411, p2412, p2413, p2414, p2415⟩ := t_Reader_releaseWaiting (0 : Int32) o0 o1 o2 (ok4_) (ok9_) (ok6_) (wi_)
    rw [e2416, bind2_s]
    obtain ⟨f2417, f2418, f2419, f2420⟩ := id p2411
    obtain ⟨f2421, f2422, f2423, f2424, f2425, f2426⟩ := id p2412
    obtain ⟨f2427, f2428, f2429, f2430, f2431, f2432, f2433, f2434⟩ := WI.rg p2413
    have f2435 := congrArg Int32.toInt (p2414 2 0 (by decide))
    have f2436 := congrArg Int32.toInt (p2414 3 0 (by decide))
    have f2437 := congrArg Int32.toInt (p2414 10 0 (by decide))
    have f2438 := congrArg Int32.toInt (p2414 11 0 (by decide))
    obtain ⟨v22, e2442, p2439, p2440, p2441⟩ := t_Reader_next o_19 (ok4_) (tu_)
    rw [e2442, bind1_s]
    obtain ⟨o_24, e2444, p2443⟩ := t_Steps_endExpression v22 o_20 (ok6_)
    rw [e2444, bind1_s]
    obtain ⟨f2445, f2446, f2447, f2448, f2449, f2450⟩ := id p2443
    refine ⟨_, _, _, _, rfl, ok4_, ok9_, ok6_, tu_, tu_, tk_⟩
  · rw [if_neg c2410]
    (try simp (disch := (first | omega | (simp only [Int32.reduceToInt]; omega) | (simp (disch := first | omega | (simp only [Int32.reduceToInt]; omega)) only [tadd, tsub, mul6, neg1, Int32.reduceToInt]; omega))) only [neg1, mul6, g_s, g_l, tadd, tsub, inb_iff, Int32.lt_iff_toInt_lt, Int32.le_iff_toInt_le, i32_eq, b2i_0, Int32.reduceToInt, reduceIte, Nat.reduceEqDiff] at c2410)
    refine ⟨_, _, _, _, rfl, ok4_, ok9_, ok6_, tu_, tu_, tk_⟩
set_option maxHeartbeats 1000000 in
theorem t_Reader_readExpression_26  : ∀ (n : Nat) (x1 : Int32) (x2 : Int32) (o0 : Ob) (o1 : Ob) (o2 : Ob), (okReader o0) → (okText o1) → (okSteps o2) → (WI 0 o0) → (0 ≤ x2.toInt) → (x2.toInt ≤ 400) → (400 - x2.toInt < (n : Int)) → ∃ (r : Bool) (n0 : Ob) (n1 : Ob) (n2 : Ob), F_Reader_readExpression_26 n x1 x2 o0 o1 o2 = some (r, n0, n1, n2) ∧ (okReader n0) ∧ (okText n1) ∧ (okSteps n2) ∧ (0 ≤ (g32 n0 3 0).toInt) ∧ ((g32 n0 3 0).toInt ≤ (g32 n0 2 0).toInt) ∧ (TK o1 n1) := by
  intro n
  induction n with
  | zero =>
    intro x1 x2 o0 o1 o2 g0 g1 g2 g3 g4 g5 g6
    obtain ⟨f2451, f2452, f2453, f2454⟩ := id g0
    obtain ⟨f2455, f2456, f2457, f2458, f2459, f2460, f2461, f2462, f2463⟩ := id g1
    obtain ⟨f2464, f2465, f2466, f2467, f2468, f2469⟩ := id g2
    obtain ⟨f2470, f2471, f2472, f2473, f2474, f2475, f2476, f2477⟩ := WI.rg g3
    exfalso
    (try simp (disch := (first | omega | (simp only [Int32.reduceToInt]; omega) | (simp (disch := first | omega | (simp only [Int32.reduceToInt]; omega)) only [tadd, tsub, mul6, neg1, Int32.reduceToInt]; omega))) only [neg1, mul6, g_s, g_l, tadd, tsub, inb_iff, Int32.lt_iff_toInt_lt, Int32.le_iff_toInt_le, i32_eq, b2i_0, Int32.reduceToInt, reduceIte, Nat.reduceEqDiff] at g6)
    exact ari_
  | succ n ih =>
    intro x1 x2 o0 o1 o2 g0 g1 g2 g3 g4 g5 g6
    obtain ⟨f2478, f2479, f2480, f2481⟩ := id g0
    obtain ⟨f2482, f2483, f2484, f2485, f2486, f2487, f2488, f2489, f2490⟩ := id g1
    obtain ⟨f2491, f2492, f2493, f2494, f2495, f2496⟩ := id g2
    obtain ⟨f2497, f2498, f2499, f2500, f2501, f2502, f2503, f2504⟩ := WI.rg g3
    rw [F_Reader_readExpression_26]
    (try simp (disch := (first | omega | (simp only [Int32.reduceToInt]; omega) | (simp (disch := first | omega | (simp only [Int32.reduceToInt]; omega)) only [tadd, tsub, mul6, neg1, Int32.reduceToInt]; omega))) only [neg1, mul6, g_s, g_l, tadd, tsub, inb_iff, Int32.lt_iff_toInt_lt, Int32.le_iff_toInt_le, i32_eq, b2i_0, Int32.reduceToInt, reduceIte, Nat.reduceEqDiff] at g6)
    by_cases c2505 : (400 : Int32) ≤ x2
    · rw [if_pos c2505]
      (try simp (disch := (first | omega | (simp only [Int32.reduceToInt]; omega) | (simp (disch := first | omega | (simp only [Int32.reduceToInt]; omega)) only [tadd, tsub, mul6, neg1, Int32.reduceToInt]; omega))) only [neg1, mul6, g_s, g_l, tadd, tsub, inb_iff, Int32.lt_iff_toInt_lt, Int32.le_iff_toInt_le, i32_eq, b2i_0, Int32.reduceToInt, reduceIte, Nat.reduceEqDiff] at c2505)
      obtain ⟨y2506, y2507, y2508, y2509, e2516, p2510, p2511, p2512, p2513, p2514, p2515⟩ := t_Reader_readExpression_61 o0 o1 o2 (ok4_) (ok9_) (ok6_) (wi_)
      obtain ⟨f2517, f2518, f2519, f2520⟩ := id p2510
      obtain ⟨f2521, f2522, f2523, f2524, f2525, f2526, f2527, f2528, f2529⟩ := id p2511
      obtain ⟨f2530, f2531, f2532, f2533, f2534, f2535⟩ := id p2512
      have f2536 := congrArg Int32.toInt p2515.1
      have f2537 := congrArg Int32.toInt p2515.2.1
      have f2538 := congrArg Int32.toInt p2515.2.2.1
      have f2539 := TK.cd p2515
      refine ⟨y2506, y2507, y2508, y2509, e2516, ok4_, ok9_, ok6_, tu_, tu_, tk_⟩
    · rw [if_neg c2505]
      (try simp (disch := (first | omega | (simp only [Int32.reduceToInt]; omega) | (simp (disch := first | omega | (simp only [Int32.reduceToInt]; omega)) only [tadd, tsub, mul6, neg1, Int32.reduceToInt]; omega))) only [neg1, mul6, g_s, g_l, tadd, tsub, inb_iff, Int32.lt_iff_toInt_lt, Int32.le_iff_toInt_le, i32_eq, b2i_0, Int32.reduceToInt, reduceIte, Nat.reduceEqDiff] at c2505)
      by_cases c2540 : x1 = 0
      · rw [if_pos c2540]
        (try simp (disch := (first | omega | (simp only [Int32.reduceToInt]; omega) | (simp (disch := first | omega | (simp only [Int32.reduceToInt]; omega)) only [tadd, tsub, mul6, neg1, Int32.reduceToInt]; omega))) only [neg1, mul6, g_s, g_l, tadd, tsub, inb_iff, Int32.lt_iff_toInt_lt, Int32.le_iff_toInt_le, i32_eq, b2i_0, Int32.reduceToInt, reduceIte, Nat.reduceEqDiff] at c2540)
        obtain ⟨y2541, y2542, y2543, y2544, e2551, p2545, p2546, p2547, p2548, p2549, p2550⟩ := t_Reader_readExpression_61 o0 o1 o2 (ok4_) (ok9_) (ok6_) (wi_)
        obtain ⟨f2552, f2553, f2554, f2555⟩ := id p2545
        obtain ⟨f2556, f2557, f2558, f2559, f2560, f2561, f2562, f2563, f2564⟩ := id p2546
        obtain ⟨f2565, f2566, f2567, f2568, f2569, f2570⟩ := id p2547
        have f2571 := congrArg Int32.toInt p2550.1
        have f2572 := congrArg Int32.toInt p2550.2.1
        have f2573 := congrArg Int32.toInt p2550.2.2.1
        have f2574 := TK.cd p2550
        refine ⟨y2541, y2542, y2543, y2544, e2551, ok4_, ok9_, ok6_, tu_, tu_, tk_⟩
      · rw [if_neg c2540]
        (try simp (disch := (first | omega | (simp only [Int32.reduceToInt]; omega) | (simp (disch := first | omega | (simp only [Int32.reduceToInt]; omega)) only [tadd, tsub, mul6, neg1, Int32.reduceToInt]; omega))) only [neg1, mul6, g_s, g_l, tadd, tsub, inb_iff, Int32.lt_iff_toInt_lt, Int32.le_iff_toInt_le, i32_eq, b2i_0, Int32.reduceToInt, reduceIte, Nat.reduceEqDiff] at c2540)
        obtain ⟨v5, o_6, o_7, o_8, e2580, p2575, p2576, p2577, p2578, p2579⟩ := t_Reader_readFactor o0 o1 o2 (ok4_) (ok9_) (ok6_) (wi_)
        rw [e2580, bind4_s]
        obtain ⟨f2581, f2582, f2583, f2584⟩ := id p2575
        obtain ⟨f2585, f2586, f2587, f2588, f2589, f2590, f2591, f2592, f2593⟩ := id p2576
        obtain ⟨f2594, f2595, f2596, f2597, f2598, f2599⟩ := id p2577
        obtain ⟨f2600, f2601, f2602, f2603, f2604, f2605, f2606, f2607⟩ := WI.rg p2578
        have f2608 := congrArg Int32.toInt p2579.1
        have f2609 := congrArg Int32.toInt p2579.2.1
        have f2610 := congrArg Int32.toInt p2579.2.2.1
        have f2611 := TK.cd p2579
        by_cases c2612 : (b2i v5) = 0
        · rw [if_pos c2612]
          have c2612 := b2i_0.mp c2612
          subst c2612
          refine ⟨_, _, _, _, rfl, ok4_, ok9_, ok6_, tu_, tu_, tk_⟩
        · rw [if_neg c2612]
          have c2612 := b2i_1 c2612
          subst c2612
          obtain ⟨o_11, o_12, e2616, p2613, p2614, p2615⟩ := t_Reader_closeGroups o_6 o_7 o_8 (ok4_) (ok9_) (ok6_) (wi_)
          rw [e2616, bind2_s]
          obtain ⟨f2617, f2618, f2619, f2620⟩ := id p2613
          obtain ⟨f2621, f2622, f2623, f2624, f2625, f2626⟩ := id p2614
          obtain ⟨f2627, f2628, f2629, f2630, f2631, f2632, f2633, f2634⟩ := WI.rg p2615
          obtain ⟨v14, o_15, o_16, e2638, p2635, p2636, p2637⟩ := t_Reader_readOperator o_11 o_7 o_12 (ok4_) (ok9_) (ok6_) (wi_)
          rw [e2638, bind3_s]
          obtain ⟨f2639, f2640, f2641, f2642⟩ := id p2635
          obtain ⟨f2643, f2644, f2645, f2646, f2647, f2648⟩ := id p2636
          obtain ⟨f2649, f2650, f2651, f2652, f2653, f2654, f2655, f2656⟩ := WI.rg p2637
          obtain ⟨y2657, y2658, y2659, y2660, e2667, p2661, p2662, p2663, p2664, p2665, p2666⟩ := ih (b2i v14) (x2 + (1 : Int32)) o_15 o_7 o_16 (ok4_) (ok9_) (ok6_) (wi_) (tu_) (tu_) tu_
          obtain ⟨f2668, f2669, f2670, f2671⟩ := id p2661
          obtain ⟨f2672, f2673, f2674, f2675, f2676, f2677, f2678, f2679, f2680⟩ := id p2662
          obtain ⟨f2681, f2682, f2683, f2684, f2685, f2686⟩ := id p2663
          have f2687 := congrArg Int32.toInt p2666.1
          have f2688 := congrArg Int32.toInt p2666.2.1
          have f2689 := congrArg Int32.toInt p2666.2.2.1
          have f2690 := TK.cd p2666
          refine ⟨y2657, y2658, y2659, y2660, e2667, ok4_, ok9_, ok6_, tu_, tu_, tk_⟩
set_option maxHeartbeats 1000000 in
theorem t_Reader_readExpression (o0 : Ob) (o1 : Ob) (o2 : Ob) (g0 : okReader o0) (g1 : okText o1) (g2 : okSteps o2) (g3 : 0 ≤ (g32 o0 3 0).toInt) (g4 : (g32 o0 3 0).toInt ≤ (g32 o0 2 0).toInt) : ∃ (r : Bool) (n0 : Ob) (n1 : Ob) (n2 : Ob), F_Reader_readExpression o0 o1 o2 = some (r, n0, n1, n2) ∧ (okReader n0) ∧ (okText n1) ∧ (okSteps n2) ∧ (0 ≤ (g32 n0 3 0).toInt) ∧ ((g32 n0 3 0).toInt ≤ (g32 n0 2 0).toInt) ∧ (TK o1 n1) := by
  obtain ⟨f2691, f2692, f2693, f2694⟩ := id g0
  obtain ⟨f2695, f2696, f2697, f2698, f2699, f2700, f2701, f2702, f2703⟩ := id g1
  obtain ⟨f2704, f2705, f2706, f2707, f2708, f2709⟩ := id g2
  rw [F_Reader_readExpression]
  rw [show (inb (0 : Int32) 9) = true from inb_iff.mpr ⟨tu_, tu_⟩, chk_tr]
  obtain ⟨y2710, y2711, y2712, y2713, e2720, p2714, p2715, p2716, p2717, p2718, p2719⟩ := t_Reader_readExpression_26 fuel (1 : Int32) (0 : Int32) (s32 (s32 (s32 (s32 o0 6 0 (0 : Int32)) 10 0 (0 : Int32)) 11 0 (0 : Int32)) 8 (Int32.toNatClampNeg (0 : Int32)) (0 : Int32)) o1 o2 (ok4_) (ok9_) (ok6_) (WI.new tu_ tu_ tu_) (tu_) (tu_) tu_
  obtain ⟨f2721, f2722, f2723, f2724⟩ := id p2714
  obtain ⟨f2725, f2726, f2727, f2728, f2729, f2730, f2731, f2732, f2733⟩ := id p2715
  obtain ⟨f2734, f2735, f2736, f2737, f2738, f2739⟩ := id p2716
  have f2740 := congrArg Int32.toInt p2719.1
  have f2741 := congrArg Int32.toInt p2719.2.1
  have f2742 := congrArg Int32.toInt p2719.2.2.1
  have f2743 := TK.cd p2719
  refine ⟨y2710, y2711, y2712, y2713, e2720, ok4_, ok9_, ok6_, tu_, tu_, tk_⟩
set_option maxHeartbeats 1000000 in
theorem t_Reader_readCondition (o0 : Ob) (o1 : Ob) (o2 : Ob) (g0 : okReader o0) (g1 : okText o1) (g2 : okSteps o2) (g3 : 0 ≤ (g32 o0 3 0).toInt) (g4 : (g32 o0 3 0).toInt ≤ (g32 o0 2 0).toInt) (g5 : cdn o1 ≤ 0) : ∃ (r : Bool) (n0 : Ob) (n1 : Ob) (n2 : Ob), F_Reader_readCondition o0 o1 o2 = some (r, n0, n1, n2) ∧ (okReader n0) ∧ (okText n1) ∧ (okSteps n2) ∧ (0 ≤ (g32 n0 3 0).toInt) ∧ ((g32 n0 3 0).toInt ≤ (g32 n0 2 0).toInt) ∧ ((g32 n1 1 0).toInt = (g32 o1 1 0).toInt) ∧ ((g32 n1 3 0).toInt = (g32 o1 3 0).toInt) ∧ ((g32 n1 11 0).toInt = (g32 o1 11 0).toInt) := by
  obtain ⟨f2744, f2745, f2746, f2747⟩ := id g0
  obtain ⟨f2748, f2749, f2750, f2751, f2752, f2753, f2754, f2755, f2756⟩ := id g1
  obtain ⟨f2757, f2758, f2759, f2760, f2761, f2762⟩ := id g2
  rw [F_Reader_readCondition]
  obtain ⟨v2, o_3, o_4, o_5, e2769, p2763, p2764, p2765, p2766, p2767, p2768⟩ := t_Reader_readExpression o0 o1 o2 (ok4_) (ok9_) (ok6_) (tu_) (tu_)
  rw [e2769, bind4_s]
  obtain ⟨f2770, f2771, f2772, f2773⟩ := id p2763
  obtain ⟨f2774, f2775, f2776, f2777, f2778, f2779, f2780, f2781, f2782⟩ := id p2764
  obtain ⟨f2783, f2784, f2785, f2786, f2787, f2788⟩ := id p2765
  have f2789 := congrArg Int32.toInt p2768.1
  have f2790 := congrArg Int32.toInt p2768.2.1
  have f2791 := congrArg Int32.toInt p2768.2.2.1
  have f2792 := TK.cd p2768
  by_cases c2793 : (b2i v2) = 0
  · rw [if_pos c2793]
    have c2793 := b2i_0.mp c2793
    subst c2793
    refine ⟨_, _, _, _, rfl, ok4_, ok9_, ok6_, tu_, tu_, tu_, tu_, tu_⟩
  · rw [if_neg c2793]
    have c2793 := b2i_1 c2793
    subst c2793
    obtain ⟨v8, o_9, o_10, e2802, p2794, p2795, p2796, p2797, p2798, p2799, p2800, p2801⟩ := t_Reader_passSign o_3 o_4 (ok4_) (ok9_) (tu_) (tu_) (tu_)
    rw [e2802, bind3_s]
    obtain ⟨f2803, f2804, f2805, f2806⟩ := id p2794
    obtain ⟨f2807, f2808, f2809, f2810, f2811, f2812, f2813, f2814, f2815⟩ := id p2795
    by_cases c2816 : (b2i v8) = 0
    · rw [if_pos c2816]
      have c2816 := b2i_0.mp c2816
      subst c2816
      refine ⟨_, _, _, _, rfl, ok4_, ok9_, ok6_, tu_, tu_, tu_, tu_, tu_⟩
    · rw [if_neg c2816]
      have c2816 := b2i_1 c2816
      subst c2816
      obtain ⟨v13, o_14, o_15, o_16, e2823, p2817, p2818, p2819, p2820, p2821, p2822⟩ := t_Reader_readExpression o_9 o_10 o_5 (ok4_) (ok9_) (ok6_) (tu_) (tu_)
      rw [e2823, bind4_s]
      obtain ⟨f2824, f2825, f2826, f2827⟩ := id p2817
      obtain ⟨f2828, f2829, f2830, f2831, f2832, f2833, f2834, f2835, f2836⟩ := id p2818
      obtain ⟨f2837, f2838, f2839, f2840, f2841, f2842⟩ := id p2819
      have f2843 := congrArg Int32.toInt p2822.1
      have f2844 := congrArg Int32.toInt p2822.2.1
      have f2845 := congrArg Int32.toInt p2822.2.2.1
      have f2846 := TK.cd p2822
      by_cases c2847 : (b2i v13) = 0
      · rw [if_pos c2847]
        have c2847 := b2i_0.mp c2847
        subst c2847
        refine ⟨_, _, _, _, rfl, ok4_, ok9_, ok6_, tu_, tu_, tu_, tu_, tu_⟩
      · rw [if_neg c2847]
        have c2847 := b2i_1 c2847
        subst c2847
        refine ⟨_, _, _, _, rfl, ok4_, ok9_, ok6_, tu_, tu_, tu_, tu_, tu_⟩
set_option maxHeartbeats 1000000 in
theorem t_Reader_readChoice_2  : ∀ (n : Nat) (x1 : Int32) (o0 : Ob) (o1 : Ob) (o2 : Ob), (okReader o0) → (okText o1) → (okSteps o2) → (0 ≤ (g32 o0 3 0).toInt) → ((g32 o0 3 0).toInt ≤ (g32 o0 2 0).toInt) → (0 ≤ x1.toInt) → (x1.toInt ≤ 4) → (cdn o1 ≤ x1.toInt) → (4 - x1.toInt < (n : Int)) → ∃ (r : Bool) (n0 : Ob) (n1 : Ob) (n2 : Ob), F_Reader_readChoice_2 n x1 o0 o1 o2 = some (r, n0, n1, n2) ∧ (okReader n0) ∧ (okText n1) ∧ (okSteps n2) ∧ (0 ≤ (g32 n0 3 0).toInt) ∧ ((g32 n0 3 0).toInt ≤ (g32 n0 2 0).toInt) ∧ ((g32 n1 1 0).toInt = (g32 o1 1 0).toInt) ∧ ((g32 n1 3 0).toInt = (g32 o1 3 0).toInt) ∧ ((g32 n1 11 0).toInt = (g32 o1 11 0).toInt) := by
  intro n
  induction n with
  | zero =>
    intro x1 o0 o1 o2 g0 g1 g2 g3 g4 g5 g6 g7 g8
    obtain ⟨f2848, f2849, f2850, f2851⟩ := id g0
    obtain ⟨f2852, f2853, f2854, f2855, f2856, f2857, f2858, f2859, f2860⟩ := id g1
    obtain ⟨f2861, f2862, f2863, f2864, f2865, f2866⟩ := id g2
    exfalso
    (try simp (disch := (first | omega | (simp only [Int32.reduceToInt]; omega) | (simp (disch := first | omega | (simp only [Int32.reduceToInt]; omega)) only [tadd, tsub, mul6, neg1, Int32.reduceToInt]; omega))) only [neg1, mul6, g_s, g_l, tadd, tsub, inb_iff, Int32.lt_iff_toInt_lt, Int32.le_iff_toInt_le, i32_eq, b2i_0, Int32.reduceToInt, reduceIte, Nat.reduceEqDiff] at g8)
    exact ari_
  | succ n ih =>
    intro x1 o0 o1 o2 g0 g1 g2 g3 g4 g5 g6 g7 g8
    obtain ⟨f2867, f2868, f2869, f2870⟩ := id g0
    obtain ⟨f2871, f2872, f2873, f2874, f2875, f2876, f2877, f2878, f2879⟩ := id g1
    obtain ⟨f2880, f2881, f2882, f2883, f2884, f2885⟩ := id g2
    rw [F_Reader_readChoice_2]
    (try simp (disch := (first | omega | (simp only [Int32.reduceToInt]; omega) | (simp (disch := first | omega | (simp only [Int32.reduceToInt]; omega)) only [tadd, tsub, mul6, neg1, Int32.reduceToInt]; omega))) only [neg1, mul6, g_s, g_l, tadd, tsub, inb_iff, Int32.lt_iff_toInt_lt, Int32.le_iff_toInt_le, i32_eq, b2i_0, Int32.reduceToInt, reduceIte, Nat.reduceEqDiff] at g8)
    by_cases c2886 : (4 : Int32) ≤ x1
    · rw [if_pos c2886]
      (try simp (disch := (first | omega | (simp only [Int32.reduceToInt]; omega) | (simp (disch := first | omega | (simp only [Int32.reduceToInt]; omega)) only [tadd, tsub, mul6, neg1, Int32.reduceToInt]; omega))) only [neg1, mul6, g_s, g_l, tadd, tsub, inb_iff, Int32.lt_iff_toInt_lt, Int32.le_iff_toInt_le, i32_eq, b2i_0, Int32.reduceToInt, reduceIte, Nat.reduceEqDiff] at c2886)
      obtain ⟨v3, o_4, o_5, o_6, e2893, p2887, p2888, p2889, p2890, p2891, p2892⟩ := t_Reader_readExpression o0 o1 o2 (ok4_) (ok9_) (ok6_) (tu_) (tu_)
      rw [e2893, bind4_s]
      obtain ⟨f2894, f2895, f2896, f2897⟩ := id p2887
      obtain ⟨f2898, f2899, f2900, f2901, f2902, f2903, f2904, f2905, f2906⟩ := id p2888
      obtain ⟨f2907, f2908, f2909, f2910, f2911, f2912⟩ := id p2889
      have f2913 := congrArg Int32.toInt p2892.1
      have f2914 := congrArg Int32.toInt p2892.2.1
      have f2915 := congrArg Int32.toInt p2892.2.2.1
      have f2916 := TK.cd p2892
      refine ⟨_, _, _, _, rfl, ok4_, ok9_, ok6_, tu_, tu_, tu_, tu_, tu_⟩
    · rw [if_neg c2886]
      (try simp (disch := (first | omega | (simp only [Int32.reduceToInt]; omega) | (simp (disch := first | omega | (simp only [Int32.reduceToInt]; omega)) only [tadd, tsub, mul6, neg1, Int32.reduceToInt]; omega))) only [neg1, mul6, g_s, g_l, tadd, tsub, inb_iff, Int32.lt_iff_toInt_lt, Int32.le_iff_toInt_le, i32_eq, b2i_0, Int32.reduceToInt, reduceIte, Nat.reduceEqDiff] at c2886)
      obtain ⟨v8, o_9, o_10, o_11, e2923, p2917, p2918, p2919, p2920, p2921, p2922⟩ := t_Reader_readExpression o0 o1 o2 (ok4_) (ok9_) (ok6_) (tu_) (tu_)
      rw [e2923, bind4_s]
      obtain ⟨f2924, f2925, f2926, f2927⟩ := id p2917
      obtain ⟨f2928, f2929, f2930, f2931, f2932, f2933, f2934, f2935, f2936⟩ := id p2918
      obtain ⟨f2937, f2938, f2939, f2940, f2941, f2942⟩ := id p2919
      have f2943 := congrArg Int32.toInt p2922.1
      have f2944 := congrArg Int32.toInt p2922.2.1
      have f2945 := congrArg Int32.toInt p2922.2.2.1
      have f2946 := TK.cd p2922
      by_cases c2947 : (b2i v8) = 0
      · rw [if_pos c2947]
        have c2947 := b2i_0.mp c2947
        subst c2947
        refine ⟨_, _, _, _, rfl, ok4_, ok9_, ok6_, tu_, tu_, tu_, tu_, tu_⟩
      · rw [if_neg c2947]
        have c2947 := b2i_1 c2947
        subst c2947
        obtain ⟨v14, o_15, o_16, e2956, p2948, p2949, p2950, p2951, p2952, p2953, p2954, p2955⟩ := t_Reader_passSign o_9 o_10 (ok4_) (ok9_) (tu_) (tu_) (tu_)
        rw [e2956, bind3_s]
        obtain ⟨f2957, f2958, f2959, f2960⟩ := id p2948
        obtain ⟨f2961, f2962, f2963, f2964, f2965, f2966, f2967, f2968, f2969⟩ := id p2949
        by_cases c2970 : (b2i v14) = 0
        · rw [if_pos c2970]
          have c2970 := b2i_0.mp c2970
          subst c2970
          refine ⟨_, _, _, _, rfl, ok4_, ok9_, ok6_, tu_, tu_, tu_, tu_, tu_⟩
        · rw [if_neg c2970]
          have c2970 := b2i_1 c2970
          subst c2970
          obtain ⟨v19, o_20, o_21, o_22, e2977, p2971, p2972, p2973, p2974, p2975, p2976⟩ := t_Reader_readExpression o_15 o_16 o_11 (ok4_) (ok9_) (ok6_) (tu_) (tu_)
          rw [e2977, bind4_s]
          obtain ⟨f2978, f2979, f2980, f2981⟩ := id p2971
          obtain ⟨f2982, f2983, f2984, f2985, f2986, f2987, f2988, f2989, f2990⟩ := id p2972
          obtain ⟨f2991, f2992, f2993, f2994, f2995, f2996⟩ := id p2973
          have f2997 := congrArg Int32.toInt p2976.1
          have f2998 := congrArg Int32.toInt p2976.2.1
          have f2999 := congrArg Int32.toInt p2976.2.2.1
          have f3000 := TK.cd p2976
          by_cases c3001 : (b2i v19) = 0
          · rw [if_pos c3001]
            have c3001 := b2i_0.mp c3001
            subst c3001
            refine ⟨_, _, _, _, rfl, ok4_, ok9_, ok6_, tu_, tu_, tu_, tu_, tu_⟩
          · rw [if_neg c3001]
            have c3001 := b2i_1 c3001
            subst c3001
            obtain ⟨v25, o_26, e3007, p3002, p3003, p3004, p3005, p3006⟩ := t_Reader_pass (63 : Int32) o_20 (ok4_) (tu_) (tu_) (tu_)
            rw [e3007, bind2_s]
            obtain ⟨f3008, f3009, f3010, f3011⟩ := id p3002
            have f3012 := congrArg Int32.toInt (p3005 2 0 (by decide))
            have f3013 := congrArg Int32.toInt (p3005 6 0 (by decide))
            have f3014 := congrArg Int32.toInt (p3005 10 0 (by decide))
            have f3015 := congrArg Int32.toInt (p3005 11 0 (by decide))
            by_cases c3016 : (b2i v25) = 0
            · rw [if_pos c3016]
              have c3016 := b2i_0.mp c3016
              subst c3016
              refine ⟨_, _, _, _, rfl, ok4_, ok9_, ok6_, tu_, tu_, tu_, tu_, tu_⟩
            · rw [if_neg c3016]
              have c3016 := b2i_1 c3016
              subst c3016
              obtain ⟨v29, o_30, o_31, o_32, e3023, p3017, p3018, p3019, p3020, p3021, p3022⟩ := t_Reader_readExpression o_26 o_21 o_22 (ok4_) (ok9_) (ok6_) (tu_) (tu_)
              rw [e3023, bind4_s]
              obtain ⟨f3024, f3025, f3026, f3027⟩ := id p3017
              obtain ⟨f3028, f3029, f3030, f3031, f3032, f3033, f3034, f3035, f3036⟩ := id p3018
              obtain ⟨f3037, f3038, f3039, f3040, f3041, f3042⟩ := id p3019
              have f3043 := congrArg Int32.toInt p3022.1
              have f3044 := congrArg Int32.toInt p3022.2.1
              have f3045 := congrArg Int32.toInt p3022.2.2.1
              have f3046 := TK.cd p3022
              by_cases c3047 : (b2i v29) = 0
              · rw [if_pos c3047]
                have c3047 := b2i_0.mp c3047
                subst c3047
                refine ⟨_, _, _, _, rfl, ok4_, ok9_, ok6_, tu_, tu_, tu_, tu_, tu_⟩
              · rw [if_neg c3047]
                have c3047 := b2i_1 c3047
                subst c3047
                obtain ⟨v35, o_36, e3053, p3048, p3049, p3050, p3051, p3052⟩ := t_Reader_pass (58 : Int32) o_30 (ok4_) (tu_) (tu_) (tu_)
                rw [e3053, bind2_s]
                obtain ⟨f3054, f3055, f3056, f3057⟩ := id p3048
                have f3058 := congrArg Int32.toInt (p3051 2 0 (by decide))
                have f3059 := congrArg Int32.toInt (p3051 6 0 (by decide))
                have f3060 := congrArg Int32.toInt (p3051 10 0 (by decide))
                have f3061 := congrArg Int32.toInt (p3051 11 0 (by decide))
                by_cases c3062 : (b2i v35) = 0
                · rw [if_pos c3062]
                  have c3062 := b2i_0.mp c3062
                  subst c3062
                  refine ⟨_, _, _, _, rfl, ok4_, ok9_, ok6_, tu_, tu_, tu_, tu_, tu_⟩
                · rw [if_neg c3062]
                  have c3062 := b2i_1 c3062
                  subst c3062
                  obtain ⟨y3063, y3064, y3065, y3066, e3075, p3067, p3068, p3069, p3070, p3071, p3072, p3073, p3074⟩ := ih (x1 + (1 : Int32)) o_36 o_31 o_32 (ok4_) (ok9_) (ok6_) (tu_) (tu_) (tu_) (tu_) (tu_) tu_
                  obtain ⟨f3076, f3077, f3078, f3079⟩ := id p3067
                  obtain ⟨f3080, f3081, f3082, f3083, f3084, f3085, f3086, f3087, f3088⟩ := id p3068
                  obtain ⟨f3089, f3090, f3091, f3092, f3093, f3094⟩ := id p3069
                  refine ⟨y3063, y3064, y3065, y3066, e3075, ok4_, ok9_, ok6_, tu_, tu_, tu_, tu_, tu_⟩
set_option maxHeartbeats 1000000 in
theorem t_Reader_readChoice (o0 : Ob) (o1 : Ob) (o2 : Ob) (g0 : okReader o0) (g1 : okText o1) (g2 : okSteps o2) (g3 : 0 ≤ (g32 o0 3 0).toInt) (g4 : (g32 o0 3 0).toInt ≤ (g32 o0 2 0).toInt) (g5 : cdn o1 ≤ 0) : ∃ (r : Bool) (n0 : Ob) (n1 : Ob) (n2 : Ob), F_Reader_readChoice o0 o1 o2 = some (r, n0, n1, n2) ∧ (okReader n0) ∧ (okText n1) ∧ (okSteps n2) ∧ (0 ≤ (g32 n0 3 0).toInt) ∧ ((g32 n0 3 0).toInt ≤ (g32 n0 2 0).toInt) ∧ ((g32 n1 1 0).toInt = (g32 o1 1 0).toInt) ∧ ((g32 n1 3 0).toInt = (g32 o1 3 0).toInt) ∧ ((g32 n1 11 0).toInt = (g32 o1 11 0).toInt) := by
  obtain ⟨f3095, f3096, f3097, f3098⟩ := id g0
  obtain ⟨f3099, f3100, f3101, f3102, f3103, f3104, f3105, f3106, f3107⟩ := id g1
  obtain ⟨f3108, f3109, f3110, f3111, f3112, f3113⟩ := id g2
  rw [F_Reader_readChoice]
  obtain ⟨y3114, y3115, y3116, y3117, e3126, p3118, p3119, p3120, p3121, p3122, p3123, p3124, p3125⟩ := t_Reader_readChoice_2 fuel (0 : Int32) o0 o1 o2 (ok4_) (ok9_) (ok6_) (tu_) (tu_) (tu_) (tu_) (tu_) tu_
  obtain ⟨f3127, f3128, f3129, f3130⟩ := id p3118
  obtain ⟨f3131, f3132, f3133, f3134, f3135, f3136, f3137, f3138, f3139⟩ := id p3119
  obtain ⟨f3140, f3141, f3142, f3143, f3144, f3145⟩ := id p3120
  refine ⟨y3114, y3115, y3116, y3117, e3126, ok4_, ok9_, ok6_, tu_, tu_, tu_, tu_, tu_⟩
set_option maxHeartbeats 1000000 in
theorem t_Reader_readStatement (o0 : Ob) (o1 : Ob) (o2 : Ob) (g0 : okReader o0) (g1 : okText o1) (g2 : okSteps o2) (g3 : 0 ≤ (g32 o0 3 0).toInt) (g4 : (g32 o0 3 0).toInt ≤ (g32 o0 2 0).toInt) (g5 : (g32 o1 3 0).toInt < 24) : ∃ (r : Bool) (n0 : Ob) (n1 : Ob) (n2 : Ob), F_Reader_readStatement o0 o1 o2 = some (r, n0, n1, n2) ∧ (okReader n0) ∧ (okText n1) ∧ (okSteps n2) ∧ (0 ≤ (g32 n0 3 0).toInt) ∧ ((g32 n0 3 0).toInt ≤ (g32 n0 2 0).toInt) ∧ ((g32 n1 1 0).toInt = (g32 o1 1 0).toInt) ∧ ((g32 n1 11 0).toInt = (g32 o1 11 0).toInt) ∧ ((g32 n1 3 0).toInt ≤ (g32 o1 3 0).toInt + 1) := by
  obtain ⟨f3146, f3147, f3148, f3149⟩ := id g0
  obtain ⟨f3150, f3151, f3152, f3153, f3154, f3155, f3156, f3157, f3158⟩ := id g1
  obtain ⟨f3159, f3160, f3161, f3162, f3163, f3164⟩ := id g2
  rw [F_Reader_readStatement]
  obtain ⟨v2, o_3, e3170, p3165, p3166, p3167, p3168, p3169⟩ := t_Reader_pass (33 : Int32) o0 (ok4_) (tu_) (tu_) (tu_)
  rw [e3170, bind2_s]
  obtain ⟨f3171, f3172, f3173, f3174⟩ := id p3165
  have f3175 := congrArg Int32.toInt (p3168 2 0 (by decide))
  have f3176 := congrArg Int32.toInt (p3168 6 0 (by decide))
  have f3177 := congrArg Int32.toInt (p3168 10 0 (by decide))
  have f3178 := congrArg Int32.toInt (p3168 11 0 (by decide))
  by_cases c3179 : (b2i v2) = 0
  · rw [if_pos c3179]
    have c3179 := b2i_0.mp c3179
    subst c3179
    obtain ⟨v6, o_7, e3187, p3180, p3181, p3182, p3183, p3184, p3185, p3186⟩ := t_Reader_readCellName o_3 (ok4_) (tu_) (tu_)
    rw [e3187, bind2_s]
    obtain ⟨f3188, f3189, f3190, f3191⟩ := id p3180
    have f3192 := congrArg Int32.toInt (p3183 2 0 (by decide))
    have f3193 := congrArg Int32.toInt (p3183 6 0 (by decide))
    have f3194 := congrArg Int32.toInt (p3183 10 0 (by decide))
    have f3195 := congrArg Int32.toInt (p3183 11 0 (by decide))
    by_cases c3196 : v6 = (-1 : Int32)
    · rw [if_pos c3196]
      (try simp (disch := (first | omega | (simp only [Int32.reduceToInt]; omega) | (simp (disch := first | omega | (simp only [Int32.reduceToInt]; omega)) only [tadd, tsub, mul6, neg1, Int32.reduceToInt]; omega))) only [neg1, mul6, g_s, g_l, tadd, tsub, inb_iff, Int32.lt_iff_toInt_lt, Int32.le_iff_toInt_le, i32_eq, b2i_0, Int32.reduceToInt, reduceIte, Nat.reduceEqDiff] at c3196)
      refine ⟨_, _, _, _, rfl, ok4_, ok9_, ok6_, tu_, tu_, tu_, tu_, tu_⟩
    · rw [if_neg c3196]
      (try simp (disch := (first | omega | (simp only [Int32.reduceToInt]; omega) | (simp (disch := first | omega | (simp only [Int32.reduceToInt]; omega)) only [tadd, tsub, mul6, neg1, Int32.reduceToInt]; omega))) only [neg1, mul6, g_s, g_l, tadd, tsub, inb_iff, Int32.lt_iff_toInt_lt, Int32.le_iff_toInt_le, i32_eq, b2i_0, Int32.reduceToInt, reduceIte, Nat.reduceEqDiff] at c3196)
      rw [show (inb v6 60) = true from inb_iff.mpr ⟨tu_, tu_⟩, chk_tr]
      by_cases c3197 : (g32 o1 7 (Int32.toNatClampNeg v6)) = (-1 : Int32)
      · rw [if_pos c3197]
        (try simp (disch := (first | omega | (simp only [Int32.reduceToInt]; omega) | (simp (disch := first | omega | (simp only [Int32.reduceToInt]; omega)) only [tadd, tsub, mul6, neg1, Int32.reduceToInt]; omega))) only [neg1, mul6, g_s, g_l, tadd, tsub, inb_iff, Int32.lt_iff_toInt_lt, Int32.le_iff_toInt_le, i32_eq, b2i_0, Int32.reduceToInt, reduceIte, Nat.reduceEqDiff] at c3197)
        obtain ⟨v12, o_13, e3203, p3198, p3199, p3200, p3201, p3202⟩ := t_Reader_pass (61 : Int32) o_7 (ok4_) (tu_) (tu_) (tu_)
        rw [e3203, bind2_s]
        obtain ⟨f3204, f3205, f3206, f3207⟩ := id p3198
        have f3208 := congrArg Int32.toInt (p3201 2 0 (by decide))
        have f3209 := congrArg Int32.toInt (p3201 6 0 (by decide))
        have f3210 := congrArg Int32.toInt (p3201 10 0 (by decide))
        have f3211 := congrArg Int32.toInt (p3201 11 0 (by decide))
        by_cases c3212 : (b2i v12) = 0
        · rw [if_pos c3212]
          have c3212 := b2i_0.mp c3212
          subst c3212
          refine ⟨_, _, _, _, rfl, ok4_, ok9_, ok6_, tu_, tu_, tu_, tu_, tu_⟩
        · rw [if_neg c3212]
          have c3212 := b2i_1 c3212
          subst c3212
          obtain ⟨o_16, e3218, p3213, p3214, p3215, p3216, p3217⟩ := t_Text_openStatement v6 o1 o2 (ok9_) (ok6_) (tu_) (tu_) (tu_)
          rw [e3218, bind1_s]
          obtain ⟨f3219, f3220, f3221, f3222, f3223, f3224, f3225, f3226, f3227⟩ := id p3213
          obtain ⟨v18, o_19, o_20, o_21, e3236, p3228, p3229, p3230, p3231, p3232, p3233, p3234, p3235⟩ := t_Reader_readChoice o_13 o_16 o2 (ok4_) (ok9_) (ok6_) (tu_) (tu_) (tu_)
          rw [e3236, bind4_s]
          obtain ⟨f3237, f3238, f3239, f3240⟩ := id p3228
          obtain ⟨f3241, f3242, f3243, f3244, f3245, f3246, f3247, f3248, f3249⟩ := id p3229
          obtain ⟨f3250, f3251, f3252, f3253, f3254, f3255⟩ := id p3230
          refine ⟨_, _, _, _, rfl, ok4_, ok9_, ok6_, tu_, tu_, tu_, tu_, tu_⟩
      · rw [if_neg c3197]
        (try simp (disch := (first | omega | (simp only [Int32.reduceToInt]; omega) | (simp (disch := first | omega | (simp only [Int32.reduceToInt]; omega)) only [tadd, tsub, mul6, neg1, Int32.reduceToInt]; omega))) only [neg1, mul6, g_s, g_l, tadd, tsub, inb_iff, Int32.lt_iff_toInt_lt, Int32.le_iff_toInt_le, i32_eq, b2i_0, Int32.reduceToInt, reduceIte, Nat.reduceEqDiff] at c3197)
        refine ⟨_, _, _, _, rfl, ok4_, ok9_, ok6_, tu_, tu_, tu_, tu_, tu_⟩
  · rw [if_neg c3179]
    have c3179 := b2i_1 c3179
    subst c3179
    obtain ⟨o_23, e3261, p3256, p3257, p3258, p3259, p3260⟩ := t_Text_openStatement (-1 : Int32) o1 o2 (ok9_) (ok6_) (tu_) (tu_) (tu_)
    rw [e3261, bind1_s]
    obtain ⟨f3262, f3263, f3264, f3265, f3266, f3267, f3268, f3269, f3270⟩ := id p3256
    obtain ⟨v25, o_26, o_27, o_28, e3279, p3271, p3272, p3273, p3274, p3275, p3276, p3277, p3278⟩ := t_Reader_readCondition o_3 o_23 o2 (ok4_) (ok9_) (ok6_) (tu_) (tu_) (tu_)
    rw [e3279, bind4_s]
    obtain ⟨f3280, f3281, f3282, f3283⟩ := id p3271
    obtain ⟨f3284, f3285, f3286, f3287, f3288, f3289, f3290, f3291, f3292⟩ := id p3272
    obtain ⟨f3293, f3294, f3295, f3296, f3297, f3298⟩ := id p3273
    refine ⟨_, _, _, _, rfl, ok4_, ok9_, ok6_, tu_, tu_, tu_, tu_, tu_⟩
theorem t_Reader_readCollected_92 (x1 : Int32) (o0 o1 o2 : Ob) (g0 : okReader o0) (g1 : okText o1) (g2 : okSteps o2) (g3 : 0 ≤ (g32 o0 3 0).toInt) (g4 : (g32 o0 3 0).toInt ≤ (g32 o0 2 0).toInt) (g5 : ¬ x1.toInt = 0 → OC o1) : ∃ (r : Int32) (n0 : Ob) (n1 : Ob) (n2 : Ob), F_Reader_readCollected_92 x1 o0 o1 o2 = some (r, n0, n1, n2) ∧ (okReader n0) ∧ (okText n1) ∧ (okSteps n2) ∧ (r.toInt < 0 ∨ OC n1) ∧ ((g32 n0 2 0).toInt = 0) := by
  obtain ⟨f1, f2, f3, f4⟩ := id g0
  have h0 : okReader (s32 o0 2 0 (0 : Int32)) := ⟨by show 0 ≤ (0 : Int32).toInt; decide, by show (0 : Int32).toInt ≤ 400; decide, AR.ne (by decide) f3, AR.ne (by decide) f4⟩
  have m1 : (-1 : Int32).toInt = -1 := rfl
  rw [F_Reader_readCollected_92]
  by_cases c : x1 = 0
  · rw [if_pos c]
    have e : ((-1 : Int32) - (g32 o0 3 0)).toInt = -1 - (g32 o0 3 0).toInt := by rw [tsub (by omega) (by omega), m1]
    exact ⟨_, _, o1, o2, rfl, h0, g1, g2, Or.inl (by omega), rfl⟩
  · rw [if_neg c]
    exact ⟨_, _, o1, o2, rfl, h0, g1, g2, Or.inr (g5 (fun z => c (Int32.toInt_inj.mp z))), rfl⟩
theorem t_Reader_readCollected_49 (x1 : Int32) (o0 o1 o2 : Ob) (g0 : okReader o0) (g1 : okText o1) (g2 : okSteps o2) (g3 : 0 ≤ (g32 o0 3 0).toInt) (g4 : (g32 o0 3 0).toInt ≤ (g32 o0 2 0).toInt) (g5 : (g32 o1 1 0).toInt = 0) (g6 : (g32 o1 11 0).toInt = 0) : ∃ (r : Int32) (n0 : Ob) (n1 : Ob) (n2 : Ob), F_Reader_readCollected_49 x1 o0 o1 o2 = some (r, n0, n1, n2) ∧ (okReader n0) ∧ (okText n1) ∧ (okSteps n2) ∧ (r.toInt < 0 ∨ OC n1) ∧ ((g32 n0 2 0).toInt = 0) := by
  rw [F_Reader_readCollected_49]
  by_cases c : x1 = 0
  · rw [if_pos c, if_pos (rfl : (0 : Int32) = 0)]
    exact t_Reader_readCollected_92 0 o0 o1 o2 g0 g1 g2 g3 g4 (fun z => absurd rfl z)
  · rw [if_neg c]
    by_cases d : g32 o0 3 0 = g32 o0 2 0
    · rw [if_pos d, if_neg (by decide : ¬ (1 : Int32) = 0)]
      obtain ⟨a, ea, ra, kT⟩ := t_Text_followNeeds o1 g1
      have k1 := congrArg Int32.toInt kT.1; have k11 := congrArg Int32.toInt kT.2.2.1
      rw [ea, bind1_s]
      obtain ⟨b, eb, rb, oc, b1, b3⟩ := t_Text_findOrder a ra (by omega)
      rw [eb, bind1_s]
      obtain ⟨p, ep, rp, ocp⟩ := t_Reader_print o0 b g0 rb (by omega) oc
      rw [ep, bind1_s]
      exact t_Reader_readCollected_92 1 o0 p o2 g0 rp g2 g3 g4 (fun _ => ocp)
    · rw [if_neg d, if_pos (rfl : (0 : Int32) = 0)]
      exact t_Reader_readCollected_92 0 o0 o1 o2 g0 g1 g2 g3 g4 (fun z => absurd rfl z)
set_option maxHeartbeats 1000000 in
theorem t_Reader_readCollected_19  : ∀ (n : Nat) (x1 : Int32) (x2 : Int32) (o0 : Ob) (o1 : Ob) (o2 : Ob), (okReader o0) → (okText o1) → (okSteps o2) → (0 ≤ (g32 o0 3 0).toInt) → ((g32 o0 3 0).toInt ≤ (g32 o0 2 0).toInt) → (1 ≤ x2.toInt) → (x2.toInt ≤ 24) → ((g32 o1 3 0).toInt ≤ x2.toInt) → ((g32 o1 1 0).toInt = 0) → ((g32 o1 11 0).toInt = 0) → (24 - x2.toInt < (n : Int)) → ∃ (r : Int32) (n0 : Ob) (n1 : Ob) (n2 : Ob), F_Reader_readCollected_19 n x1 x2 o0 o1 o2 = some (r, n0, n1, n2) ∧ (okReader n0) ∧ (okText n1) ∧ (okSteps n2) ∧ (r.toInt < 0 ∨ OC n1) ∧ ((g32 n0 2 0).toInt = 0) := by
  intro n
  induction n with
  | zero =>
    intro x1 x2 o0 o1 o2 g0 g1 g2 g3 g4 g5 g6 g7 g8 g9 g10
    obtain ⟨f3299, f3300, f3301, f3302⟩ := id g0
    obtain ⟨f3303, f3304, f3305, f3306, f3307, f3308, f3309, f3310, f3311⟩ := id g1
    obtain ⟨f3312, f3313, f3314, f3315, f3316, f3317⟩ := id g2
    exfalso
    (try simp (disch := (first | omega | (simp only [Int32.reduceToInt]; omega) | (simp (disch := first | omega | (simp only [Int32.reduceToInt]; omega)) only [tadd, tsub, mul6, neg1, Int32.reduceToInt]; omega))) only [neg1, mul6, g_s, g_l, tadd, tsub, inb_iff, Int32.lt_iff_toInt_lt, Int32.le_iff_toInt_le, i32_eq, b2i_0, Int32.reduceToInt, reduceIte, Nat.reduceEqDiff] at g10)
    exact ari_
  | succ n ih =>
    intro x1 x2 o0 o1 o2 g0 g1 g2 g3 g4 g5 g6 g7 g8 g9 g10
    obtain ⟨f3318, f3319, f3320, f3321⟩ := id g0
    obtain ⟨f3322, f3323, f3324, f3325, f3326, f3327, f3328, f3329, f3330⟩ := id g1
    obtain ⟨f3331, f3332, f3333, f3334, f3335, f3336⟩ := id g2
    rw [F_Reader_readCollected_19]
    (try simp (disch := (first | omega | (simp only [Int32.reduceToInt]; omega) | (simp (disch := first | omega | (simp only [Int32.reduceToInt]; omega)) only [tadd, tsub, mul6, neg1, Int32.reduceToInt]; omega))) only [neg1, mul6, g_s, g_l, tadd, tsub, inb_iff, Int32.lt_iff_toInt_lt, Int32.le_iff_toInt_le, i32_eq, b2i_0, Int32.reduceToInt, reduceIte, Nat.reduceEqDiff] at g10)
    by_cases c3337 : (24 : Int32) ≤ x2
    · rw [if_pos c3337]
      (try simp (disch := (first | omega | (simp only [Int32.reduceToInt]; omega) | (simp (disch := first | omega | (simp only [Int32.reduceToInt]; omega)) only [tadd, tsub, mul6, neg1, Int32.reduceToInt]; omega))) only [neg1, mul6, g_s, g_l, tadd, tsub, inb_iff, Int32.lt_iff_toInt_lt, Int32.le_iff_toInt_le, i32_eq, b2i_0, Int32.reduceToInt, reduceIte, Nat.reduceEqDiff] at c3337)
      obtain ⟨y3338, y3339, y3340, y3341, e3347, p3342, p3343, p3344, p3345, p3346⟩ := t_Reader_readCollected_49 x1 o0 o1 o2 (ok4_) (ok9_) (ok6_) (tu_) (tu_) (tu_) (tu_)
      obtain ⟨f3348, f3349, f3350, f3351⟩ := id p3342
      obtain ⟨f3352, f3353, f3354, f3355, f3356, f3357, f3358, f3359, f3360⟩ := id p3343
      obtain ⟨f3361, f3362, f3363, f3364, f3365, f3366⟩ := id p3344
      refine ⟨y3338, y3339, y3340, y3341, e3347, ok4_, ok9_, ok6_, tu_, tu_⟩
    · rw [if_neg c3337]
      (try simp (disch := (first | omega | (simp only [Int32.reduceToInt]; omega) | (simp (disch := first | omega | (simp only [Int32.reduceToInt]; omega)) only [tadd, tsub, mul6, neg1, Int32.reduceToInt]; omega))) only [neg1, mul6, g_s, g_l, tadd, tsub, inb_iff, Int32.lt_iff_toInt_lt, Int32.le_iff_toInt_le, i32_eq, b2i_0, Int32.reduceToInt, reduceIte, Nat.reduceEqDiff] at c3337)
      by_cases c3367 : x1 = 0
      · rw [if_pos c3367]
        (try simp (disch := (first | omega | (simp only [Int32.reduceToInt]; omega) | (simp (disch := first | omega | (simp only [Int32.reduceToInt]; omega)) only [tadd, tsub, mul6, neg1, Int32.reduceToInt]; omega))) only [neg1, mul6, g_s, g_l, tadd, tsub, inb_iff, Int32.lt_iff_toInt_lt, Int32.le_iff_toInt_le, i32_eq, b2i_0, Int32.reduceToInt, reduceIte, Nat.reduceEqDiff] at c3367)
        obtain ⟨y3368, y3369, y3370, y3371, e3377, p3372, p3373, p3374, p3375, p3376⟩ := t_Reader_readCollected_49 x1 o0 o1 o2 (ok4_) (ok9_) (ok6_) (tu_) (tu_) (tu_) (tu_)
        obtain ⟨f3378, f3379, f3380, f3381⟩ := id p3372
        obtain ⟨f3382, f3383, f3384, f3385, f3386, f3387, f3388, f3389, f3390⟩ := id p3373
        obtain ⟨f3391, f3392, f3393, f3394, f3395, f3396⟩ := id p3374
        refine ⟨y3368, y3369, y3370, y3371, e3377, ok4_, ok9_, ok6_, tu_, tu_⟩
      · rw [if_neg c3367]
        (try simp (disch := (first | omega | (simp only [Int32.reduceToInt]; omega) | (simp (disch := first | omega | (simp only [Int32.reduceToInt]; omega)) only [tadd, tsub, mul6, neg1, Int32.reduceToInt]; omega))) only [neg1, mul6, g_s, g_l, tadd, tsub, inb_iff, Int32.lt_iff_toInt_lt, Int32.le_iff_toInt_le, i32_eq, b2i_0, Int32.reduceToInt, reduceIte, Nat.reduceEqDiff] at c3367)
        obtain ⟨v12, o_13, e3402, p3397, p3398, p3399, p3400, p3401⟩ := t_Reader_pass (59 : Int32) o0 (ok4_) (tu_) (tu_) (tu_)
        rw [e3402, bind2_s]
        obtain ⟨f3403, f3404, f3405, f3406⟩ := id p3397
        have f3407 := congrArg Int32.toInt (p3400 2 0 (by decide))
        have f3408 := congrArg Int32.toInt (p3400 6 0 (by decide))
        have f3409 := congrArg Int32.toInt (p3400 10 0 (by decide))
        have f3410 := congrArg Int32.toInt (p3400 11 0 (by decide))
        by_cases c3411 : (b2i v12) = 0
        · rw [if_pos c3411]
          have c3411 := b2i_0.mp c3411
          subst c3411
          obtain ⟨y3412, y3413, y3414, y3415, e3421, p3416, p3417, p3418, p3419, p3420⟩ := t_Reader_readCollected_49 x1 o_13 o1 o2 (ok4_) (ok9_) (ok6_) (tu_) (tu_) (tu_) (tu_)
          obtain ⟨f3422, f3423, f3424, f3425⟩ := id p3416
          obtain ⟨f3426, f3427, f3428, f3429, f3430, f3431, f3432, f3433, f3434⟩ := id p3417
          obtain ⟨f3435, f3436, f3437, f3438, f3439, f3440⟩ := id p3418
          refine ⟨y3412, y3413, y3414, y3415, e3421, ok4_, ok9_, ok6_, tu_, tu_⟩
        · rw [if_neg c3411]
          have c3411 := b2i_1 c3411
          subst c3411
          obtain ⟨v16, o_17, o_18, o_19, e3449, p3441, p3442, p3443, p3444, p3445, p3446, p3447, p3448⟩ := t_Reader_readStatement o_13 o1 o2 (ok4_) (ok9_) (ok6_) (tu_) (tu_) (tu_)
          rw [e3449, bind4_s]
          obtain ⟨f3450, f3451, f3452, f3453⟩ := id p3441
          obtain ⟨f3454, f3455, f3456, f3457, f3458, f3459, f3460, f3461, f3462⟩ := id p3442
          obtain ⟨f3463, f3464, f3465, f3466, f3467, f3468⟩ := id p3443
          obtain ⟨y3469, y3470, y3471, y3472, e3478, p3473, p3474, p3475, p3476, p3477⟩ := ih (b2i v16) (x2 + (1 : Int32)) o_17 o_18 o_19 (ok4_) (ok9_) (ok6_) (tu_) (tu_) (tu_) (tu_) (tu_) (tu_) (tu_) tu_
          obtain ⟨f3479, f3480, f3481, f3482⟩ := id p3473
          obtain ⟨f3483, f3484, f3485, f3486, f3487, f3488, f3489, f3490, f3491⟩ := id p3474
          obtain ⟨f3492, f3493, f3494, f3495, f3496, f3497⟩ := id p3475
          refine ⟨y3469, y3470, y3471, y3472, e3478, ok4_, ok9_, ok6_, tu_, tu_⟩
set_option maxHeartbeats 1000000 in
theorem t_Reader_readCollected (o0 : Ob) (o1 : Ob) (o2 : Ob) (g0 : okReader o0) (g1 : okText o1) (g2 : okSteps o2) : ∃ (r : Int32) (n0 : Ob) (n1 : Ob) (n2 : Ob), F_Reader_readCollected o0 o1 o2 = some (r, n0, n1, n2) ∧ (okReader n0) ∧ (okText n1) ∧ (okSteps n2) ∧ (r.toInt < 0 ∨ OC n1) ∧ ((g32 n0 2 0).toInt = 0) := by
  obtain ⟨f3498, f3499, f3500, f3501⟩ := id g0
  obtain ⟨f3502, f3503, f3504, f3505, f3506, f3507, f3508, f3509, f3510⟩ := id g1
  obtain ⟨f3511, f3512, f3513, f3514, f3515, f3516⟩ := id g2
  rw [F_Reader_readCollected]
  obtain ⟨o_2, o_3, e3522, p3517, p3518, p3519, p3520, p3521⟩ := t_Text_clear o1 o2 (ok9_) (ok6_)
  rw [e3522, bind2_s]
  obtain ⟨f3523, f3524, f3525, f3526, f3527, f3528, f3529, f3530, f3531⟩ := id p3517
  obtain ⟨f3532, f3533, f3534, f3535, f3536, f3537⟩ := id p3518
  obtain ⟨v5, o_6, o_7, o_8, e3546, p3538, p3539, p3540, p3541, p3542, p3543, p3544, p3545⟩ := t_Reader_readStatement (s32 o0 3 0 (0 : Int32)) o_2 o_3 (ok4_) (ok9_) (ok6_) (tu_) (tu_) (tu_)
  rw [e3546, bind4_s]
  obtain ⟨f3547, f3548, f3549, f3550⟩ := id p3538
  obtain ⟨f3551, f3552, f3553, f3554, f3555, f3556, f3557, f3558, f3559⟩ := id p3539
  obtain ⟨f3560, f3561, f3562, f3563, f3564, f3565⟩ := id p3540
  obtain ⟨y3566, y3567, y3568, y3569, e3575, p3570, p3571, p3572, p3573, p3574⟩ := t_Reader_readCollected_19 fuel (b2i v5) (1 : Int32) o_6 o_7 o_8 (ok4_) (ok9_) (ok6_) (tu_) (tu_) (tu_) (tu_) (tu_) (tu_) (tu_) tu_
  obtain ⟨f3576, f3577, f3578, f3579⟩ := id p3570
  obtain ⟨f3580, f3581, f3582, f3583, f3584, f3585, f3586, f3587, f3588⟩ := id p3571
  obtain ⟨f3589, f3590, f3591, f3592, f3593, f3594⟩ := id p3572
  refine ⟨y3566, y3567, y3568, y3569, e3575, ok4_, ok9_, ok6_, tu_, tu_⟩
