set_option maxHeartbeats 1000000 in
theorem t_Reader_next (o0 : Ob) (g0 : okReader o0) (g1 : 0 ≤ (g32 o0 3 0).toInt) : ∃ (r : Int32), F_Reader_next o0 = some r ∧ (0 ≤ r.toInt) ∧ (r.toInt ≤ 65535) ∧ (r.toInt = 0 ∨ (g32 o0 3 0).toInt < (g32 o0 2 0).toInt) := by
  obtain ⟨f1017, f1018, f1019, f1020⟩ := id g0
  rw [F_Reader_next]
  by_cases c1021 : (g32 o0 2 0) ≤ (g32 o0 3 0)
  · rw [if_pos c1021]
    (try simp (disch := (first | omega | (simp only [Int32.reduceToInt]; omega) | (simp (disch := first | omega | (simp only [Int32.reduceToInt]; omega)) only [tadd, tsub, mul6, neg1, Int32.reduceToInt]; omega))) only [neg1, mul6, g_s, g_l, tadd, tsub, inb_iff, Int32.lt_iff_toInt_lt, Int32.le_iff_toInt_le, i32_eq, b2i_0, Int32.reduceToInt, reduceIte, Nat.reduceEqDiff] at c1021)
    rw [show (isC (0 : Int32)) = true from isC_of tu_ tu_, chk_tr]
    refine ⟨_, rfl, tu_, tu_, tu_⟩
  · rw [if_neg c1021]
    (try simp (disch := (first | omega | (simp only [Int32.reduceToInt]; omega) | (simp (disch := first | omega | (simp only [Int32.reduceToInt]; omega)) only [tadd, tsub, mul6, neg1, Int32.reduceToInt]; omega))) only [neg1, mul6, g_s, g_l, tadd, tsub, inb_iff, Int32.lt_iff_toInt_lt, Int32.le_iff_toInt_le, i32_eq, b2i_0, Int32.reduceToInt, reduceIte, Nat.reduceEqDiff] at c1021)
    rw [show (inb (g32 o0 3 0) 400) = true from inb_iff.mpr ⟨tu_, tu_⟩, chk_tr]
    have a1022 := f1019 (Int32.toNatClampNeg (g32 o0 3 0))
    rw [show (isC (g32 o0 0 (Int32.toNatClampNeg (g32 o0 3 0)))) = true from isC_of tu_ tu_, chk_tr]
    refine ⟨_, rfl, tu_, tu_, tu_⟩
set_option maxHeartbeats 1000000 in
theorem t_Reader_pass (x1 : Int32) (o0 : Ob) (g0 : okReader o0) (g1 : 0 ≤ (g32 o0 3 0).toInt) (g2 : (g32 o0 3 0).toInt ≤ (g32 o0 2 0).toInt) (g3 : 0 < x1.toInt) : ∃ (r : Bool) (n0 : Ob), F_Reader_pass x1 o0 = some (r, n0) ∧ (okReader n0) ∧ (0 ≤ (g32 n0 3 0).toInt) ∧ ((g32 n0 3 0).toInt ≤ (g32 n0 2 0).toInt) ∧ (KE 3 o0 n0) ∧ ((g32 o0 3 0).toInt ≤ (g32 n0 3 0).toInt) := by
  obtain ⟨f1023, f1024, f1025, f1026⟩ := id g0
  rw [F_Reader_pass]
  obtain ⟨v2, e1030, p1027, p1028, p1029⟩ := t_Reader_next o0 (ok4_) (tu_)
  rw [e1030, bind1_s]
  by_cases c1031 : v2 = x1
  · rw [if_pos c1031]
    (try simp (disch := (first | omega | (simp only [Int32.reduceToInt]; omega) | (simp (disch := first | omega | (simp only [Int32.reduceToInt]; omega)) only [tadd, tsub, mul6, neg1, Int32.reduceToInt]; omega))) only [neg1, mul6, g_s, g_l, tadd, tsub, inb_iff, Int32.lt_iff_toInt_lt, Int32.le_iff_toInt_le, i32_eq, b2i_0, Int32.reduceToInt, reduceIte, Nat.reduceEqDiff] at c1031)
    refine ⟨_, _, rfl, ok4_, tu_, tu_, ke_, tu_⟩
  · rw [if_neg c1031]
    (try simp (disch := (first | omega | (simp only [Int32.reduceToInt]; omega) | (simp (disch := first | omega | (simp only [Int32.reduceToInt]; omega)) only [tadd, tsub, mul6, neg1, Int32.reduceToInt]; omega))) only [neg1, mul6, g_s, g_l, tadd, tsub, inb_iff, Int32.lt_iff_toInt_lt, Int32.le_iff_toInt_le, i32_eq, b2i_0, Int32.reduceToInt, reduceIte, Nat.reduceEqDiff] at c1031)
    refine ⟨_, _, rfl, ok4_, tu_, tu_, ke_, tu_⟩
theorem t_Reader_hold (x1 : Int32) (o0 : Ob) (g0 : okReader o0) (g1 : 0 ≤ (g32 o0 6 0).toInt) (g2 : (g32 o0 6 0).toInt < 400) : ∃ (n0 : Ob), F_Reader_hold x1 o0 = some n0 ∧ (n0 = (s32 (s32 o0 5 (Int32.toNatClampNeg (g32 o0 6 0)) x1) 6 0 ((g32 o0 6 0) + (1 : Int32)))) := by
  rw [F_Reader_hold]
  have c : ¬ (400 : Int32) ≤ g32 o0 6 0 := fun z => by
    have z2 := Int32.le_iff_toInt_le.mp z
    have z3 : (400 : Int32).toInt = 400 := rfl
    omega
  rw [if_neg c, show (inb (g32 o0 6 0) 400) = true from inb_iff.mpr ⟨g1, by omega⟩, chk_tr]
  exact ⟨_, rfl, rfl⟩
set_option maxHeartbeats 1000000 in
theorem t_Reader_readDigits_5  : ∀ (n : Nat) (x2 : Int32) (x3 : Int32) (x4 : Int32) (o0 : Ob), (okReader o0) → (0 ≤ (g32 o0 3 0).toInt) → ((g32 o0 3 0).toInt ≤ (g32 o0 2 0).toInt) → (0 ≤ x4.toInt) → (x4.toInt ≤ x2.toInt) → (x2.toInt ≤ 5) → (x2.toInt - x4.toInt < (n : Int)) → ∃ (r : Int32) (n0 : Ob), F_Reader_readDigits_5 n x2 x3 x4 o0 = some (r, n0) ∧ (okReader n0) ∧ (0 ≤ (g32 n0 3 0).toInt) ∧ ((g32 n0 3 0).toInt ≤ (g32 n0 2 0).toInt) ∧ (KE 3 o0 n0) ∧ ((g32 o0 3 0).toInt ≤ (g32 n0 3 0).toInt) := by
  intro n
  induction n with
  | zero =>
    intro x2 x3 x4 o0 g0 g1 g2 g3 g4 g5 g6
    obtain ⟨f1032, f1033, f1034, f1035⟩ := id g0
    exfalso
    (try simp (disch := (first | omega | (simp only [Int32.reduceToInt]; omega) | (simp (disch := first | omega | (simp only [Int32.reduceToInt]; omega)) only [tadd, tsub, mul6, neg1, Int32.reduceToInt]; omega))) only [neg1, mul6, g_s, g_l, tadd, tsub, inb_iff, Int32.lt_iff_toInt_lt, Int32.le_iff_toInt_le, i32_eq, b2i_0, Int32.reduceToInt, reduceIte, Nat.reduceEqDiff] at g6)
    exact ari_
  | succ n ih =>
    intro x2 x3 x4 o0 g0 g1 g2 g3 g4 g5 g6
    obtain ⟨f1036, f1037, f1038, f1039⟩ := id g0
    rw [F_Reader_readDigits_5]
    (try simp (disch := (first | omega | (simp only [Int32.reduceToInt]; omega) | (simp (disch := first | omega | (simp only [Int32.reduceToInt]; omega)) only [tadd, tsub, mul6, neg1, Int32.reduceToInt]; omega))) only [neg1, mul6, g_s, g_l, tadd, tsub, inb_iff, Int32.lt_iff_toInt_lt, Int32.le_iff_toInt_le, i32_eq, b2i_0, Int32.reduceToInt, reduceIte, Nat.reduceEqDiff] at g6)
    by_cases c1040 : x2 ≤ x4
    · rw [if_pos c1040]
      (try simp (disch := (first | omega | (simp only [Int32.reduceToInt]; omega) | (simp (disch := first | omega | (simp only [Int32.reduceToInt]; omega)) only [tadd, tsub, mul6, neg1, Int32.reduceToInt]; omega))) only [neg1, mul6, g_s, g_l, tadd, tsub, inb_iff, Int32.lt_iff_toInt_lt, Int32.le_iff_toInt_le, i32_eq, b2i_0, Int32.reduceToInt, reduceIte, Nat.reduceEqDiff] at c1040)
      refine ⟨_, _, rfl, ok4_, tu_, tu_, ke_, tu_⟩
    · rw [if_neg c1040]
      (try simp (disch := (first | omega | (simp only [Int32.reduceToInt]; omega) | (simp (disch := first | omega | (simp only [Int32.reduceToInt]; omega)) only [tadd, tsub, mul6, neg1, Int32.reduceToInt]; omega))) only [neg1, mul6, g_s, g_l, tadd, tsub, inb_iff, Int32.lt_iff_toInt_lt, Int32.le_iff_toInt_le, i32_eq, b2i_0, Int32.reduceToInt, reduceIte, Nat.reduceEqDiff] at c1040)
      by_cases c1041 : (g32 o0 2 0) ≤ (g32 o0 3 0)
      · rw [if_pos c1041]
        (try simp (disch := (first | omega | (simp only [Int32.reduceToInt]; omega) | (simp (disch := first | omega | (simp only [Int32.reduceToInt]; omega)) only [tadd, tsub, mul6, neg1, Int32.reduceToInt]; omega))) only [neg1, mul6, g_s, g_l, tadd, tsub, inb_iff, Int32.lt_iff_toInt_lt, Int32.le_iff_toInt_le, i32_eq, b2i_0, Int32.reduceToInt, reduceIte, Nat.reduceEqDiff] at c1041)
        refine ⟨_, _, rfl, ok4_, tu_, tu_, ke_, tu_⟩
      · rw [if_neg c1041]
        (try simp (disch := (first | omega | (simp only [Int32.reduceToInt]; omega) | (simp (disch := first | omega | (simp only [Int32.reduceToInt]; omega)) only [tadd, tsub, mul6, neg1, Int32.reduceToInt]; omega))) only [neg1, mul6, g_s, g_l, tadd, tsub, inb_iff, Int32.lt_iff_toInt_lt, Int32.le_iff_toInt_le, i32_eq, b2i_0, Int32.reduceToInt, reduceIte, Nat.reduceEqDiff] at c1041)
        rw [show (inb (g32 o0 3 0) 400) = true from inb_iff.mpr ⟨tu_, tu_⟩, chk_tr]
        have a1043 := f1038 (Int32.toNatClampNeg (g32 o0 3 0))
        by_cases c1042 : (g32 o0 0 (Int32.toNatClampNeg (g32 o0 3 0))) < (48 : Int32)
        · rw [if_pos c1042]
          (try simp (disch := (first | omega | (simp only [Int32.reduceToInt]; omega) | (simp (disch := first | omega | (simp only [Int32.reduceToInt]; omega)) only [tadd, tsub, mul6, neg1, Int32.reduceToInt]; omega))) only [neg1, mul6, g_s, g_l, tadd, tsub, inb_iff, Int32.lt_iff_toInt_lt, Int32.le_iff_toInt_le, i32_eq, b2i_0, Int32.reduceToInt, reduceIte, Nat.reduceEqDiff] at c1042)
          refine ⟨_, _, rfl, ok4_, tu_, tu_, ke_, tu_⟩
        · rw [if_neg c1042]
          (try simp (disch := (first | omega | (simp only [Int32.reduceToInt]; omega) | (simp (disch := first | omega | (simp only [Int32.reduceToInt]; omega)) only [tadd, tsub, mul6, neg1, Int32.reduceToInt]; omega))) only [neg1, mul6, g_s, g_l, tadd, tsub, inb_iff, Int32.lt_iff_toInt_lt, Int32.le_iff_toInt_le, i32_eq, b2i_0, Int32.reduceToInt, reduceIte, Nat.reduceEqDiff] at c1042)
          by_cases c1044 : (57 : Int32) < (g32 o0 0 (Int32.toNatClampNeg (g32 o0 3 0)))
          · rw [if_pos c1044]
            (try simp (disch := (first | omega | (simp only [Int32.reduceToInt]; omega) | (simp (disch := first | omega | (simp only [Int32.reduceToInt]; omega)) only [tadd, tsub, mul6, neg1, Int32.reduceToInt]; omega))) only [neg1, mul6, g_s, g_l, tadd, tsub, inb_iff, Int32.lt_iff_toInt_lt, Int32.le_iff_toInt_le, i32_eq, b2i_0, Int32.reduceToInt, reduceIte, Nat.reduceEqDiff] at c1044)
            refine ⟨_, _, rfl, ok4_, tu_, tu_, ke_, tu_⟩
          · rw [if_neg c1044]
            (try simp (disch := (first | omega | (simp only [Int32.reduceToInt]; omega) | (simp (disch := first | omega | (simp only [Int32.reduceToInt]; omega)) only [tadd, tsub, mul6, neg1, Int32.reduceToInt]; omega))) only [neg1, mul6, g_s, g_l, tadd, tsub, inb_iff, Int32.lt_iff_toInt_lt, Int32.le_iff_toInt_le, i32_eq, b2i_0, Int32.reduceToInt, reduceIte, Nat.reduceEqDiff] at c1044)
            obtain ⟨y1045, y1046, e1052, p1047, p1048, p1049, p1050, p1051⟩ := ih x2 (((10 : Int32) * x3) + ((g32 o0 0 (Int32.toNatClampNeg (g32 o0 3 0))) - (48 : Int32))) (x4 + (1 : Int32)) (s32 o0 3 0 ((g32 o0 3 0) + (1 : Int32))) (ok4_) (tu_) (tu_) (tu_) (tu_) (tu_) tu_
            obtain ⟨f1053, f1054, f1055, f1056⟩ := id p1047
            have f1057 := congrArg Int32.toInt (p1050 2 0 (by decide))
            (try simp (disch := (first | omega | (simp only [Int32.reduceToInt]; omega) | (simp (disch := first | omega | (simp only [Int32.reduceToInt]; omega)) only [tadd, tsub, mul6, neg1, Int32.reduceToInt]; omega))) only [neg1, mul6, g_s, g_l, tadd, tsub, inb_iff, Int32.lt_iff_toInt_lt, Int32.le_iff_toInt_le, i32_eq, b2i_0, Int32.reduceToInt, reduceIte, Nat.reduceEqDiff] at f1057)
            have f1058 := congrArg Int32.toInt (p1050 6 0 (by decide))
            (try simp (disch := (first | omega | (simp only [Int32.reduceToInt]; omega) | (simp (disch := first | omega | (simp only [Int32.reduceToInt]; omega)) only [tadd, tsub, mul6, neg1, Int32.reduceToInt]; omega))) only [neg1, mul6, g_s, g_l, tadd, tsub, inb_iff, Int32.lt_iff_toInt_lt, Int32.le_iff_toInt_le, i32_eq, b2i_0, Int32.reduceToInt, reduceIte, Nat.reduceEqDiff] at f1058)
            have f1059 := congrArg Int32.toInt (p1050 10 0 (by decide))
            (try simp (disch := (first | omega | (simp only [Int32.reduceToInt]; omega) | (simp (disch := first | omega | (simp only [Int32.reduceToInt]; omega)) only [tadd, tsub, mul6, neg1, Int32.reduceToInt]; omega))) only [neg1, mul6, g_s, g_l, tadd, tsub, inb_iff, Int32.lt_iff_toInt_lt, Int32.le_iff_toInt_le, i32_eq, b2i_0, Int32.reduceToInt, reduceIte, Nat.reduceEqDiff] at f1059)
            have f1060 := congrArg Int32.toInt (p1050 11 0 (by decide))
            (try simp (disch := (first | omega | (simp only [Int32.reduceToInt]; omega) | (simp (disch := first | omega | (simp only [Int32.reduceToInt]; omega)) only [tadd, tsub, mul6, neg1, Int32.reduceToInt]; omega))) only [neg1, mul6, g_s, g_l, tadd, tsub, inb_iff, Int32.lt_iff_toInt_lt, Int32.le_iff_toInt_le, i32_eq, b2i_0, Int32.reduceToInt, reduceIte, Nat.reduceEqDiff] at f1060)
            (try simp (disch := (first | omega | (simp only [Int32.reduceToInt]; omega) | (simp (disch := first | omega | (simp only [Int32.reduceToInt]; omega)) only [tadd, tsub, mul6, neg1, Int32.reduceToInt]; omega))) only [neg1, mul6, g_s, g_l, tadd, tsub, inb_iff, Int32.lt_iff_toInt_lt, Int32.le_iff_toInt_le, i32_eq, b2i_0, Int32.reduceToInt, reduceIte, Nat.reduceEqDiff] at p1051)
            refine ⟨y1045, y1046, e1052, ok4_, tu_, tu_, ke_, tu_⟩
set_option maxHeartbeats 1000000 in
theorem t_Reader_readDigits (x1 : Int32) (x2 : Int32) (o0 : Ob) (g0 : okReader o0) (g1 : 0 ≤ (g32 o0 3 0).toInt) (g2 : (g32 o0 3 0).toInt ≤ (g32 o0 2 0).toInt) (g3 : 0 ≤ x2.toInt) (g4 : x2.toInt ≤ 5) : ∃ (r : Int32) (n0 : Ob), F_Reader_readDigits x1 x2 o0 = some (r, n0) ∧ (okReader n0) ∧ (0 ≤ (g32 n0 3 0).toInt) ∧ ((g32 n0 3 0).toInt ≤ (g32 n0 2 0).toInt) ∧ (KE 3 o0 n0) ∧ ((g32 o0 3 0).toInt ≤ (g32 n0 3 0).toInt) := by
  obtain ⟨f1061, f1062, f1063, f1064⟩ := id g0
  rw [F_Reader_readDigits]
  obtain ⟨y1065, y1066, e1072, p1067, p1068, p1069, p1070, p1071⟩ := t_Reader_readDigits_5 fuel x2 x1 (0 : Int32) o0 (ok4_) (tu_) (tu_) (tu_) (tu_) (tu_) tu_
  obtain ⟨f1073, f1074, f1075, f1076⟩ := id p1067
  have f1077 := congrArg Int32.toInt (p1070 2 0 (by decide))
  have f1078 := congrArg Int32.toInt (p1070 6 0 (by decide))
  have f1079 := congrArg Int32.toInt (p1070 10 0 (by decide))
  have f1080 := congrArg Int32.toInt (p1070 11 0 (by decide))
  refine ⟨y1065, y1066, e1072, ok4_, tu_, tu_, ke_, tu_⟩
set_option maxHeartbeats 1000000 in
theorem t_Reader_dropZerosBehind_7  : ∀ (n : Nat) (x1 : Int32) (x2 : Int32) (o0 : Ob), (okReader o0) → (0 ≤ x1.toInt) → (x1.toInt ≤ x2.toInt) → (x2.toInt < 400) → (x2.toInt - x1.toInt < (n : Int)) → ∃ (n0 : Ob), F_Reader_dropZerosBehind_7 n x1 x2 o0 = some n0 ∧ (okReader n0) ∧ (KE 1 o0 n0) := by
  intro n
  induction n with
  | zero =>
    intro x1 x2 o0 g0 g1 g2 g3 g4
    obtain ⟨f1081, f1082, f1083, f1084⟩ := id g0
    exfalso
    (try simp (disch := (first | omega | (simp only [Int32.reduceToInt]; omega) | (simp (disch := first | omega | (simp only [Int32.reduceToInt]; omega)) only [tadd, tsub, mul6, neg1, Int32.reduceToInt]; omega))) only [neg1, mul6, g_s, g_l, tadd, tsub, inb_iff, Int32.lt_iff_toInt_lt, Int32.le_iff_toInt_le, i32_eq, b2i_0, Int32.reduceToInt, reduceIte, Nat.reduceEqDiff] at g4)
    exact ari_
  | succ n ih =>
    intro x1 x2 o0 g0 g1 g2 g3 g4
    obtain ⟨f1085, f1086, f1087, f1088⟩ := id g0
    rw [F_Reader_dropZerosBehind_7]
    (try simp (disch := (first | omega | (simp only [Int32.reduceToInt]; omega) | (simp (disch := first | omega | (simp only [Int32.reduceToInt]; omega)) only [tadd, tsub, mul6, neg1, Int32.reduceToInt]; omega))) only [neg1, mul6, g_s, g_l, tadd, tsub, inb_iff, Int32.lt_iff_toInt_lt, Int32.le_iff_toInt_le, i32_eq, b2i_0, Int32.reduceToInt, reduceIte, Nat.reduceEqDiff] at g4)
    by_cases c1089 : x2 ≤ x1
    · rw [if_pos c1089]
      (try simp (disch := (first | omega | (simp only [Int32.reduceToInt]; omega) | (simp (disch := first | omega | (simp only [Int32.reduceToInt]; omega)) only [tadd, tsub, mul6, neg1, Int32.reduceToInt]; omega))) only [neg1, mul6, g_s, g_l, tadd, tsub, inb_iff, Int32.lt_iff_toInt_lt, Int32.le_iff_toInt_le, i32_eq, b2i_0, Int32.reduceToInt, reduceIte, Nat.reduceEqDiff] at c1089)
      by_cases c1090 : x2 = x1
      · rw [if_pos c1090]
        (try simp (disch := (first | omega | (simp only [Int32.reduceToInt]; omega) | (simp (disch := first | omega | (simp only [Int32.reduceToInt]; omega)) only [tadd, tsub, mul6, neg1, Int32.reduceToInt]; omega))) only [neg1, mul6, g_s, g_l, tadd, tsub, inb_iff, Int32.lt_iff_toInt_lt, Int32.le_iff_toInt_le, i32_eq, b2i_0, Int32.reduceToInt, reduceIte, Nat.reduceEqDiff] at c1090)
        rw [show (inb x1 400) = true from inb_iff.mpr ⟨tu_, tu_⟩, chk_tr]
        refine ⟨_, rfl, ok4_, ke_⟩
      · rw [if_neg c1090]
        (try simp (disch := (first | omega | (simp only [Int32.reduceToInt]; omega) | (simp (disch := first | omega | (simp only [Int32.reduceToInt]; omega)) only [tadd, tsub, mul6, neg1, Int32.reduceToInt]; omega))) only [neg1, mul6, g_s, g_l, tadd, tsub, inb_iff, Int32.lt_iff_toInt_lt, Int32.le_iff_toInt_le, i32_eq, b2i_0, Int32.reduceToInt, reduceIte, Nat.reduceEqDiff] at c1090)
        refine ⟨_, rfl, ok4_, ke_⟩
    · rw [if_neg c1089]
      (try simp (disch := (first | omega | (simp only [Int32.reduceToInt]; omega) | (simp (disch := first | omega | (simp only [Int32.reduceToInt]; omega)) only [tadd, tsub, mul6, neg1, Int32.reduceToInt]; omega))) only [neg1, mul6, g_s, g_l, tadd, tsub, inb_iff, Int32.lt_iff_toInt_lt, Int32.le_iff_toInt_le, i32_eq, b2i_0, Int32.reduceToInt, reduceIte, Nat.reduceEqDiff] at c1089)
      rw [show (inb x2 400) = true from inb_iff.mpr ⟨tu_, tu_⟩, chk_tr]
      have a1092 := f1087 (Int32.toNatClampNeg x2)
      by_cases c1091 : (g32 o0 0 (Int32.toNatClampNeg x2)) = (48 : Int32)
      · rw [if_pos c1091]
        (try simp (disch := (first | omega | (simp only [Int32.reduceToInt]; omega) | (simp (disch := first | omega | (simp only [Int32.reduceToInt]; omega)) only [tadd, tsub, mul6, neg1, Int32.reduceToInt]; omega))) only [neg1, mul6, g_s, g_l, tadd, tsub, inb_iff, Int32.lt_iff_toInt_lt, Int32.le_iff_toInt_le, i32_eq, b2i_0, Int32.reduceToInt, reduceIte, Nat.reduceEqDiff] at c1091)
        obtain ⟨y1093, e1096, p1094, p1095⟩ := ih x1 (x2 + (-1 : Int32)) (s32 o0 1 (Int32.toNatClampNeg x2) (vp_nar .boolean (1 : Int32))) (ok4_) (tu_) (tu_) (tu_) tu_
        obtain ⟨f1097, f1098, f1099, f1100⟩ := id p1094
        have f1101 := congrArg Int32.toInt (p1095 2 0 (by decide))
        (try simp (disch := (first | omega | (simp only [Int32.reduceToInt]; omega) | (simp (disch := first | omega | (simp only [Int32.reduceToInt]; omega)) only [tadd, tsub, mul6, neg1, Int32.reduceToInt]; omega))) only [neg1, mul6, g_s, g_l, tadd, tsub, inb_iff, Int32.lt_iff_toInt_lt, Int32.le_iff_toInt_le, i32_eq, b2i_0, Int32.reduceToInt, reduceIte, Nat.reduceEqDiff] at f1101)
        have f1102 := congrArg Int32.toInt (p1095 3 0 (by decide))
        (try simp (disch := (first | omega | (simp only [Int32.reduceToInt]; omega) | (simp (disch := first | omega | (simp only [Int32.reduceToInt]; omega)) only [tadd, tsub, mul6, neg1, Int32.reduceToInt]; omega))) only [neg1, mul6, g_s, g_l, tadd, tsub, inb_iff, Int32.lt_iff_toInt_lt, Int32.le_iff_toInt_le, i32_eq, b2i_0, Int32.reduceToInt, reduceIte, Nat.reduceEqDiff] at f1102)
        have f1103 := congrArg Int32.toInt (p1095 6 0 (by decide))
        (try simp (disch := (first | omega | (simp only [Int32.reduceToInt]; omega) | (simp (disch := first | omega | (simp only [Int32.reduceToInt]; omega)) only [tadd, tsub, mul6, neg1, Int32.reduceToInt]; omega))) only [neg1, mul6, g_s, g_l, tadd, tsub, inb_iff, Int32.lt_iff_toInt_lt, Int32.le_iff_toInt_le, i32_eq, b2i_0, Int32.reduceToInt, reduceIte, Nat.reduceEqDiff] at f1103)
        have f1104 := congrArg Int32.toInt (p1095 10 0 (by decide))
        (try simp (disch := (first | omega | (simp only [Int32.reduceToInt]; omega) | (simp (disch := first | omega | (simp only [Int32.reduceToInt]; omega)) only [tadd, tsub, mul6, neg1, Int32.reduceToInt]; omega))) only [neg1, mul6, g_s, g_l, tadd, tsub, inb_iff, Int32.lt_iff_toInt_lt, Int32.le_iff_toInt_le, i32_eq, b2i_0, Int32.reduceToInt, reduceIte, Nat.reduceEqDiff] at f1104)
        have f1105 := congrArg Int32.toInt (p1095 11 0 (by decide))
        (try simp (disch := (first | omega | (simp only [Int32.reduceToInt]; omega) | (simp (disch := first | omega | (simp only [Int32.reduceToInt]; omega)) only [tadd, tsub, mul6, neg1, Int32.reduceToInt]; omega))) only [neg1, mul6, g_s, g_l, tadd, tsub, inb_iff, Int32.lt_iff_toInt_lt, Int32.le_iff_toInt_le, i32_eq, b2i_0, Int32.reduceToInt, reduceIte, Nat.reduceEqDiff] at f1105)
        refine ⟨y1093, e1096, ok4_, ke_⟩
      · rw [if_neg c1091]
        (try simp (disch := (first | omega | (simp only [Int32.reduceToInt]; omega) | (simp (disch := first | omega | (simp only [Int32.reduceToInt]; omega)) only [tadd, tsub, mul6, neg1, Int32.reduceToInt]; omega))) only [neg1, mul6, g_s, g_l, tadd, tsub, inb_iff, Int32.lt_iff_toInt_lt, Int32.le_iff_toInt_le, i32_eq, b2i_0, Int32.reduceToInt, reduceIte, Nat.reduceEqDiff] at c1091)
        by_cases c1106 : x2 = x1
        · rw [if_pos c1106]
          (try simp (disch := (first | omega | (simp only [Int32.reduceToInt]; omega) | (simp (disch := first | omega | (simp only [Int32.reduceToInt]; omega)) only [tadd, tsub, mul6, neg1, Int32.reduceToInt]; omega))) only [neg1, mul6, g_s, g_l, tadd, tsub, inb_iff, Int32.lt_iff_toInt_lt, Int32.le_iff_toInt_le, i32_eq, b2i_0, Int32.reduceToInt, reduceIte, Nat.reduceEqDiff] at c1106)
          rw [show (inb x1 400) = true from inb_iff.mpr ⟨tu_, tu_⟩, chk_tr]
          refine ⟨_, rfl, ok4_, ke_⟩
        · rw [if_neg c1106]
          (try simp (disch := (first | omega | (simp only [Int32.reduceToInt]; omega) | (simp (disch := first | omega | (simp only [Int32.reduceToInt]; omega)) only [tadd, tsub, mul6, neg1, Int32.reduceToInt]; omega))) only [neg1, mul6, g_s, g_l, tadd, tsub, inb_iff, Int32.lt_iff_toInt_lt, Int32.le_iff_toInt_le, i32_eq, b2i_0, Int32.reduceToInt, reduceIte, Nat.reduceEqDiff] at c1106)
          refine ⟨_, rfl, ok4_, ke_⟩
set_option maxHeartbeats 1000000 in
theorem t_Reader_dropZerosBehind (x1 : Int32) (o0 : Ob) (g0 : okReader o0) (g1 : 0 ≤ x1.toInt) (g2 : x1.toInt < (g32 o0 3 0).toInt) (g3 : (g32 o0 3 0).toInt ≤ 400) : ∃ (n0 : Ob), F_Reader_dropZerosBehind x1 o0 = some n0 ∧ (okReader n0) ∧ (KE 1 o0 n0) := by
  obtain ⟨f1107, f1108, f1109, f1110⟩ := id g0
  rw [F_Reader_dropZerosBehind]
  obtain ⟨y1111, e1114, p1112, p1113⟩ := t_Reader_dropZerosBehind_7 fuel x1 ((g32 o0 3 0) - (1 : Int32)) o0 (ok4_) (tu_) (tu_) (tu_) tu_
  obtain ⟨f1115, f1116, f1117, f1118⟩ := id p1112
  have f1119 := congrArg Int32.toInt (p1113 2 0 (by decide))
  have f1120 := congrArg Int32.toInt (p1113 3 0 (by decide))
  have f1121 := congrArg Int32.toInt (p1113 6 0 (by decide))
  have f1122 := congrArg Int32.toInt (p1113 10 0 (by decide))
  have f1123 := congrArg Int32.toInt (p1113 11 0 (by decide))
  refine ⟨y1111, e1114, ok4_, ke_⟩
set_option maxHeartbeats 1000000 in
theorem t_Reader_readNumber_101 (o1 : Ob) : ∀ (n : Nat) (x2 : Int32) (x3 : Int32) (x4 : Int32) (x5 : Int32) (o0 : Ob) (o2 : Ob), (okReader o0) → (okText o1) → (okSteps o2) → (WI 0 o0) → (0 ≤ x4.toInt) → (x4.toInt < (g32 o0 3 0).toInt) → (0 ≤ x5.toInt) → (x5.toInt ≤ (g32 o0 3 0).toInt) → ((g32 o0 3 0).toInt - x5.toInt < (n : Int)) → ∃ (r : Bool) (n0 : Ob) (n2 : Ob), F_Reader_readNumber_101 o1 n x2 x3 x4 x5 o0 o2 = some (r, n0, n2) ∧ (okReader n0) ∧ (okSteps n2) ∧ (WI 0 n0) := by
  intro n
  induction n with
  | zero =>
    intro x2 x3 x4 x5 o0 o2 g0 g1 g2 g3 g4 g5 g6 g7 g8
    obtain ⟨f1124, f1125, f1126, f1127⟩ := id g0
    obtain ⟨f1128, f1129, f1130, f1131, f1132, f1133, f1134, f1135, f1136⟩ := id g1
    obtain ⟨f1137, f1138, f1139, f1140, f1141, f1142⟩ := id g2
    obtain ⟨f1143, f1144, f1145, f1146, f1147, f1148, f1149, f1150⟩ := WI.rg g3
    exfalso
    (try simp (disch := (first | omega | (simp only [Int32.reduceToInt]; omega) | (simp (disch := first | omega | (simp only [Int32.reduceToInt]; omega)) only [tadd, tsub, mul6, neg1, Int32.reduceToInt]; omega))) only [neg1, mul6, g_s, g_l, tadd, tsub, inb_iff, Int32.lt_iff_toInt_lt, Int32.le_iff_toInt_le, i32_eq, b2i_0, Int32.reduceToInt, reduceIte, Nat.reduceEqDiff] at g8)
    exact ari_
  | succ n ih =>
    intro x2 x3 x4 x5 o0 o2 g0 g1 g2 g3 g4 g5 g6 g7 g8
    obtain ⟨f1151, f1152, f1153, f1154⟩ := id g0
    obtain ⟨f1155, f1156, f1157, f1158, f1159, f1160, f1161, f1162, f1163⟩ := id g1
    obtain ⟨f1164, f1165, f1166, f1167, f1168, f1169⟩ := id g2
    obtain ⟨f1170, f1171, f1172, f1173, f1174, f1175, f1176, f1177⟩ := WI.rg g3
    rw [F_Reader_readNumber_101]
    (try simp (disch := (first | omega | (simp only [Int32.reduceToInt]; omega) | (simp (disch := first | omega | (simp only [Int32.reduceToInt]; omega)) only [tadd, tsub, mul6, neg1, Int32.reduceToInt]; omega))) only [neg1, mul6, g_s, g_l, tadd, tsub, inb_iff, Int32.lt_iff_toInt_lt, Int32.le_iff_toInt_le, i32_eq, b2i_0, Int32.reduceToInt, reduceIte, Nat.reduceEqDiff] at g8)
    by_cases c1178 : (g32 o0 3 0) ≤ x5
    · rw [if_pos c1178]
      (try simp (disch := (first | omega | (simp only [Int32.reduceToInt]; omega) | (simp (disch := first | omega | (simp only [Int32.reduceToInt]; omega)) only [tadd, tsub, mul6, neg1, Int32.reduceToInt]; omega))) only [neg1, mul6, g_s, g_l, tadd, tsub, inb_iff, Int32.lt_iff_toInt_lt, Int32.le_iff_toInt_le, i32_eq, b2i_0, Int32.reduceToInt, reduceIte, Nat.reduceEqDiff] at c1178)
      obtain ⟨o_19, e1181, p1179, p1180⟩ := t_Reader_dropZerosBehind x4 o0 (ok4_) (tu_) (tu_) (tu_)
      rw [e1181, bind1_s]
      obtain ⟨f1182, f1183, f1184, f1185⟩ := id p1179
      have f1186 := congrArg Int32.toInt (p1180 2 0 (by decide))
      have f1187 := congrArg Int32.toInt (p1180 3 0 (by decide))
      have f1188 := congrArg Int32.toInt (p1180 6 0 (by decide))
      have f1189 := congrArg Int32.toInt (p1180 10 0 (by decide))
      have f1190 := congrArg Int32.toInt (p1180 11 0 (by decide))
      obtain ⟨o_21, e1193, p1191, p1192⟩ := t_Steps_add (1 : Int32) x2 x3 o2 (ok6_) (tu_) (tu_)
      rw [e1193, bind1_s]
      obtain ⟨f1194, f1195, f1196, f1197, f1198, f1199⟩ := id p1191
      refine ⟨_, _, _, rfl, ok4_, ok6_, wi_⟩
    · rw [if_neg c1178]
      (try simp (disch := (first | omega | (simp only [Int32.reduceToInt]; omega) | (simp (disch := first | omega | (simp only [Int32.reduceToInt]; omega)) only [tadd, tsub, mul6, neg1, Int32.reduceToInt]; omega))) only [neg1, mul6, g_s, g_l, tadd, tsub, inb_iff, Int32.lt_iff_toInt_lt, Int32.le_iff_toInt_le, i32_eq, b2i_0, Int32.reduceToInt, reduceIte, Nat.reduceEqDiff] at c1178)
      obtain ⟨y1200, y1201, y1202, e1206, p1203, p1204, p1205⟩ := ih x2 (x3 * (10 : Int32)) x4 (x5 + (1 : Int32)) o0 o2 (ok4_) (ok9_) (ok6_) (wi_) (tu_) (tu_) (tu_) (tu_) tu_
      obtain ⟨f1207, f1208, f1209, f1210⟩ := id p1203
      obtain ⟨f1211, f1212, f1213, f1214, f1215, f1216⟩ := id p1204
      obtain ⟨f1217, f1218, f1219, f1220, f1221, f1222, f1223, f1224⟩ := WI.rg p1205
      refine ⟨y1200, y1201, y1202, e1206, ok4_, ok6_, wi_⟩
set_option maxHeartbeats 1000000 in
theorem t_Reader_readNumber_48 (o1 : Ob) (x2 : Int32) (o0 : Ob) (o2 : Ob) (g0 : okReader o0) (g1 : okText o1) (g2 : okSteps o2) (g3 : WI 0 o0) : ∃ (r : Bool) (n0 : Ob) (n2 : Ob), F_Reader_readNumber_48 o1 x2 o0 o2 = some (r, n0, n2) ∧ (okReader n0) ∧ (okSteps n2) ∧ (WI 0 n0) := by
  obtain ⟨f1225, f1226, f1227, f1228⟩ := id g0
  obtain ⟨f1229, f1230, f1231, f1232, f1233, f1234, f1235, f1236, f1237⟩ := id g1
  obtain ⟨f1238, f1239, f1240, f1241, f1242, f1243⟩ := id g2
  obtain ⟨f1244, f1245, f1246, f1247, f1248, f1249, f1250, f1251⟩ := WI.rg g3
  rw [F_Reader_readNumber_48]
  obtain ⟨v9, e1255, p1252, p1253, p1254⟩ := t_Reader_next o0 (ok4_) (tu_)
  rw [e1255, bind1_s]
  by_cases c1256 : v9 = (46 : Int32)
  · rw [if_pos c1256]
    (try simp (disch := (first | omega | (simp only [Int32.reduceToInt]; omega) | (simp (disch := first | omega | (simp only [Int32.reduceToInt]; omega)) only [tadd, tsub, mul6, neg1, Int32.reduceToInt]; omega))) only [neg1, mul6, g_s, g_l, tadd, tsub, inb_iff, Int32.lt_iff_toInt_lt, Int32.le_iff_toInt_le, i32_eq, b2i_0, Int32.reduceToInt, reduceIte, Nat.reduceEqDiff] at c1256)
    obtain ⟨v14, o_15, e1262, p1257, p1258, p1259, p1260, p1261⟩ := t_Reader_readDigits x2 (3 : Int32) (s32 o0 3 0 ((g32 o0 3 0) + (1 : Int32))) (ok4_) (tu_) (tu_) (tu_) (tu_)
    rw [e1262, bind2_s]
    obtain ⟨f1263, f1264, f1265, f1266⟩ := id p1257
    have f1267 := congrArg Int32.toInt (p1260 2 0 (by decide))
    (try simp (disch := (first | omega | (simp only [Int32.reduceToInt]; omega) | (simp (disch := first | omega | (simp only [Int32.reduceToInt]; omega)) only [tadd, tsub, mul6, neg1, Int32.reduceToInt]; omega))) only [neg1, mul6, g_s, g_l, tadd, tsub, inb_iff, Int32.lt_iff_toInt_lt, Int32.le_iff_toInt_le, i32_eq, b2i_0, Int32.reduceToInt, reduceIte, Nat.reduceEqDiff] at f1267)
    have f1268 := congrArg Int32.toInt (p1260 6 0 (by decide))
    (try simp (disch := (first | omega | (simp only [Int32.reduceToInt]; omega) | (simp (disch := first | omega | (simp only [Int32.reduceToInt]; omega)) only [tadd, tsub, mul6, neg1, Int32.reduceToInt]; omega))) only [neg1, mul6, g_s, g_l, tadd, tsub, inb_iff, Int32.lt_iff_toInt_lt, Int32.le_iff_toInt_le, i32_eq, b2i_0, Int32.reduceToInt, reduceIte, Nat.reduceEqDiff] at f1268)
    have f1269 := congrArg Int32.toInt (p1260 10 0 (by decide))
    (try simp (disch := (first | omega | (simp only [Int32.reduceToInt]; omega) | (simp (disch := first | omega | (simp only [Int32.reduceToInt]; omega)) only [tadd, tsub, mul6, neg1, Int32.reduceToInt]; omega))) only [neg1, mul6, g_s, g_l, tadd, tsub, inb_iff, Int32.lt_iff_toInt_lt, Int32.le_iff_toInt_le, i32_eq, b2i_0, Int32.reduceToInt, reduceIte, Nat.reduceEqDiff] at f1269)
    have f1270 := congrArg Int32.toInt (p1260 11 0 (by decide))
    (try simp (disch := (first | omega | (simp only [Int32.reduceToInt]; omega) | (simp (disch := first | omega | (simp only [Int32.reduceToInt]; omega)) only [tadd, tsub, mul6, neg1, Int32.reduceToInt]; omega))) only [neg1, mul6, g_s, g_l, tadd, tsub, inb_iff, Int32.lt_iff_toInt_lt, Int32.le_iff_toInt_le, i32_eq, b2i_0, Int32.reduceToInt, reduceIte, Nat.reduceEqDiff] at f1270)
    (try simp (disch := (first | omega | (simp only [Int32.reduceToInt]; omega) | (simp (disch := first | omega | (simp only [Int32.reduceToInt]; omega)) only [tadd, tsub, mul6, neg1, Int32.reduceToInt]; omega))) only [neg1, mul6, g_s, g_l, tadd, tsub, inb_iff, Int32.lt_iff_toInt_lt, Int32.le_iff_toInt_le, i32_eq, b2i_0, Int32.reduceToInt, reduceIte, Nat.reduceEqDiff] at p1261)
    by_cases c1271 : (g32 o_15 3 0) = ((g32 o0 3 0) + (1 : Int32))
    · rw [if_pos c1271]
      (try simp (disch := (first | omega | (simp only [Int32.reduceToInt]; omega) | (simp (disch := first | omega | (simp only [Int32.reduceToInt]; omega)) only [tadd, tsub, mul6, neg1, Int32.reduceToInt]; omega))) only [neg1, mul6, g_s, g_l, tadd, tsub, inb_iff, Int32.lt_iff_toInt_lt, Int32.le_iff_toInt_le, i32_eq, b2i_0, Int32.reduceToInt, reduceIte, Nat.reduceEqDiff] at c1271)
      refine ⟨_, _, _, rfl, ok4_, ok6_, wi_⟩
    · rw [if_neg c1271]
      (try simp (disch := (first | omega | (simp only [Int32.reduceToInt]; omega) | (simp (disch := first | omega | (simp only [Int32.reduceToInt]; omega)) only [tadd, tsub, mul6, neg1, Int32.reduceToInt]; omega))) only [neg1, mul6, g_s, g_l, tadd, tsub, inb_iff, Int32.lt_iff_toInt_lt, Int32.le_iff_toInt_le, i32_eq, b2i_0, Int32.reduceToInt, reduceIte, Nat.reduceEqDiff] at c1271)
      obtain ⟨y1272, y1273, y1274, e1278, p1275, p1276, p1277⟩ := t_Reader_readNumber_101 o1 fuel v14 (1 : Int32) (g32 o0 3 0) ((g32 o0 3 0) + (1 : Int32)) o_15 o2 (ok4_) (ok9_) (ok6_) (wi_) (tu_) (tu_) (tu_) (tu_) tu_
      obtain ⟨f1279, f1280, f1281, f1282⟩ := id p1275
      obtain ⟨f1283, f1284, f1285, f1286, f1287, f1288⟩ := id p1276
      obtain ⟨f1289, f1290, f1291, f1292, f1293, f1294, f1295, f1296⟩ := WI.rg p1277
      refine ⟨y1272, y1273, y1274, e1278, ok4_, ok6_, wi_⟩
  · rw [if_neg c1256]
    (try simp (disch := (first | omega | (simp only [Int32.reduceToInt]; omega) | (simp (disch := first | omega | (simp only [Int32.reduceToInt]; omega)) only [tadd, tsub, mul6, neg1, Int32.reduceToInt]; omega))) only [neg1, mul6, g_s, g_l, tadd, tsub, inb_iff, Int32.lt_iff_toInt_lt, Int32.le_iff_toInt_le, i32_eq, b2i_0, Int32.reduceToInt, reduceIte, Nat.reduceEqDiff] at c1256)
    obtain ⟨o_12, e1299, p1297, p1298⟩ := t_Steps_add (1 : Int32) x2 (1 : Int32) o2 (ok6_) (tu_) (tu_)
    rw [e1299, bind1_s]
    obtain ⟨f1300, f1301, f1302, f1303, f1304, f1305⟩ := id p1297
    refine ⟨_, _, _, rfl, ok4_, ok6_, wi_⟩
set_option maxHeartbeats 1000000 in
theorem t_Reader_readNumber_14 (o1 : Ob) : ∀ (n : Nat) (x2 : Int32) (x3 : Int32) (o0 : Ob) (o2 : Ob), (okReader o0) → (okText o1) → (okSteps o2) → (WI 0 o0) → (0 ≤ x3.toInt) → (x3.toInt ≤ (g32 o0 3 0).toInt) → ((g32 o0 3 0).toInt - x3.toInt < (n : Int)) → ∃ (r : Bool) (n0 : Ob) (n2 : Ob), F_Reader_readNumber_14 o1 n x2 x3 o0 o2 = some (r, n0, n2) ∧ (okReader n0) ∧ (okSteps n2) ∧ (WI 0 n0) := by
  intro n
  induction n with
  | zero =>
    intro x2 x3 o0 o2 g0 g1 g2 g3 g4 g5 g6
    obtain ⟨f1306, f1307, f1308, f1309⟩ := id g0
    obtain ⟨f1310, f1311, f1312, f1313, f1314, f1315, f1316, f1317, f1318⟩ := id g1
    obtain ⟨f1319, f1320, f1321, f1322, f1323, f1324⟩ := id g2
    obtain ⟨f1325, f1326, f1327, f1328, f1329, f1330, f1331, f1332⟩ := WI.rg g3
    exfalso
    (try simp (disch := (first | omega | (simp only [Int32.reduceToInt]; omega) | (simp (disch := first | omega | (simp only [Int32.reduceToInt]; omega)) only [tadd, tsub, mul6, neg1, Int32.reduceToInt]; omega))) only [neg1, mul6, g_s, g_l, tadd, tsub, inb_iff, Int32.lt_iff_toInt_lt, Int32.le_iff_toInt_le, i32_eq, b2i_0, Int32.reduceToInt, reduceIte, Nat.reduceEqDiff] at g6)
    exact ari_
  | succ n ih =>
    intro x2 x3 o0 o2 g0 g1 g2 g3 g4 g5 g6
    obtain ⟨f1333, f1334, f1335, f1336⟩ := id g0
    obtain ⟨f1337, f1338, f1339, f1340, f1341, f1342, f1343, f1344, f1345⟩ := id g1
    obtain ⟨f1346, f1347, f1348, f1349, f1350, f1351⟩ := id g2
    obtain ⟨f1352, f1353, f1354, f1355, f1356, f1357, f1358, f1359⟩ := WI.rg g3
    rw [F_Reader_readNumber_14]
    (try simp (disch := (first | omega | (simp only [Int32.reduceToInt]; omega) | (simp (disch := first | omega | (simp only [Int32.reduceToInt]; omega)) only [tadd, tsub, mul6, neg1, Int32.reduceToInt]; omega))) only [neg1, mul6, g_s, g_l, tadd, tsub, inb_iff, Int32.lt_iff_toInt_lt, Int32.le_iff_toInt_le, i32_eq, b2i_0, Int32.reduceToInt, reduceIte, Nat.reduceEqDiff] at g6)
    by_cases c1360 : ((g32 o0 3 0) - (1 : Int32)) ≤ x3
    · rw [if_pos c1360]
      (try simp (disch := (first | omega | (simp only [Int32.reduceToInt]; omega) | (simp (disch := first | omega | (simp only [Int32.reduceToInt]; omega)) only [tadd, tsub, mul6, neg1, Int32.reduceToInt]; omega))) only [neg1, mul6, g_s, g_l, tadd, tsub, inb_iff, Int32.lt_iff_toInt_lt, Int32.le_iff_toInt_le, i32_eq, b2i_0, Int32.reduceToInt, reduceIte, Nat.reduceEqDiff] at c1360)
      obtain ⟨y1361, y1362, y1363, e1367, p1364, p1365, p1366⟩ := t_Reader_readNumber_48 o1 x2 o0 o2 (ok4_) (ok9_) (ok6_) (wi_)
      obtain ⟨f1368, f1369, f1370, f1371⟩ := id p1364
      obtain ⟨f1372, f1373, f1374, f1375, f1376, f1377⟩ := id p1365
      obtain ⟨f1378, f1379, f1380, f1381, f1382, f1383, f1384, f1385⟩ := WI.rg p1366
      refine ⟨y1361, y1362, y1363, e1367, ok4_, ok6_, wi_⟩
    · rw [if_neg c1360]
      (try simp (disch := (first | omega | (simp only [Int32.reduceToInt]; omega) | (simp (disch := first | omega | (simp only [Int32.reduceToInt]; omega)) only [tadd, tsub, mul6, neg1, Int32.reduceToInt]; omega))) only [neg1, mul6, g_s, g_l, tadd, tsub, inb_iff, Int32.lt_iff_toInt_lt, Int32.le_iff_toInt_le, i32_eq, b2i_0, Int32.reduceToInt, reduceIte, Nat.reduceEqDiff] at c1360)
      rw [show (inb x3 400) = true from inb_iff.mpr ⟨tu_, tu_⟩, chk_tr]
      have a1387 := f1335 (Int32.toNatClampNeg x3)
      by_cases c1386 : (g32 o0 0 (Int32.toNatClampNeg x3)) = (48 : Int32)
      · rw [if_pos c1386]
        (try simp (disch := (first | omega | (simp only [Int32.reduceToInt]; omega) | (simp (disch := first | omega | (simp only [Int32.reduceToInt]; omega)) only [tadd, tsub, mul6, neg1, Int32.reduceToInt]; omega))) only [neg1, mul6, g_s, g_l, tadd, tsub, inb_iff, Int32.lt_iff_toInt_lt, Int32.le_iff_toInt_le, i32_eq, b2i_0, Int32.reduceToInt, reduceIte, Nat.reduceEqDiff] at c1386)
        obtain ⟨y1388, y1389, y1390, e1394, p1391, p1392, p1393⟩ := ih x2 (x3 + (1 : Int32)) (s32 o0 1 (Int32.toNatClampNeg x3) (vp_nar .boolean (1 : Int32))) o2 (ok4_) (ok9_) (ok6_) (wi_) (tu_) (tu_) tu_
        obtain ⟨f1395, f1396, f1397, f1398⟩ := id p1391
        obtain ⟨f1399, f1400, f1401, f1402, f1403, f1404⟩ := id p1392
        obtain ⟨f1405, f1406, f1407, f1408, f1409, f1410, f1411, f1412⟩ := WI.rg p1393
        refine ⟨y1388, y1389, y1390, e1394, ok4_, ok6_, wi_⟩
      · rw [if_neg c1386]
        (try simp (disch := (first | omega | (simp only [Int32.reduceToInt]; omega) | (simp (disch := first | omega | (simp only [Int32.reduceToInt]; omega)) only [tadd, tsub, mul6, neg1, Int32.reduceToInt]; omega))) only [neg1, mul6, g_s, g_l, tadd, tsub, inb_iff, Int32.lt_iff_toInt_lt, Int32.le_iff_toInt_le, i32_eq, b2i_0, Int32.reduceToInt, reduceIte, Nat.reduceEqDiff] at c1386)
        obtain ⟨y1413, y1414, y1415, e1419, p1416, p1417, p1418⟩ := t_Reader_readNumber_48 o1 x2 o0 o2 (ok4_) (ok9_) (ok6_) (wi_)
        obtain ⟨f1420, f1421, f1422, f1423⟩ := id p1416
        obtain ⟨f1424, f1425, f1426, f1427, f1428, f1429⟩ := id p1417
        obtain ⟨f1430, f1431, f1432, f1433, f1434, f1435, f1436, f1437⟩ := WI.rg p1418
        refine ⟨y1413, y1414, y1415, e1419, ok4_, ok6_, wi_⟩
set_option maxHeartbeats 1000000 in
theorem t_Reader_readNumber (o0 : Ob) (o1 : Ob) (o2 : Ob) (g0 : okReader o0) (g1 : okText o1) (g2 : okSteps o2) (g3 : WI 0 o0) : ∃ (r : Bool) (n0 : Ob) (n2 : Ob), F_Reader_readNumber o0 o1 o2 = some (r, n0, n2) ∧ (okReader n0) ∧ (okSteps n2) ∧ (WI 0 n0) := by
  obtain ⟨f1438, f1439, f1440, f1441⟩ := id g0
  obtain ⟨f1442, f1443, f1444, f1445, f1446, f1447, f1448, f1449, f1450⟩ := id g1
  obtain ⟨f1451, f1452, f1453, f1454, f1455, f1456⟩ := id g2
  obtain ⟨f1457, f1458, f1459, f1460, f1461, f1462, f1463, f1464⟩ := WI.rg g3
  rw [F_Reader_readNumber]
  obtain ⟨v2, o_3, e1470, p1465, p1466, p1467, p1468, p1469⟩ := t_Reader_readDigits (0 : Int32) (5 : Int32) o0 (ok4_) (tu_) (tu_) (tu_) (tu_)
  rw [e1470, bind2_s]
  obtain ⟨f1471, f1472, f1473, f1474⟩ := id p1465
  have f1475 := congrArg Int32.toInt (p1468 2 0 (by decide))
  have f1476 := congrArg Int32.toInt (p1468 6 0 (by decide))
  have f1477 := congrArg Int32.toInt (p1468 10 0 (by decide))
  have f1478 := congrArg Int32.toInt (p1468 11 0 (by decide))
  obtain ⟨y1479, y1480, y1481, e1485, p1482, p1483, p1484⟩ := t_Reader_readNumber_14 o1 fuel v2 (g32 o0 3 0) o_3 o2 (ok4_) (ok9_) (ok6_) (wi_) (tu_) (tu_) tu_
  obtain ⟨f1486, f1487, f1488, f1489⟩ := id p1482
  obtain ⟨f1490, f1491, f1492, f1493, f1494, f1495⟩ := id p1483
  obtain ⟨f1496, f1497, f1498, f1499, f1500, f1501, f1502, f1503⟩ := WI.rg p1484
  refine ⟨y1479, y1480, y1481, e1485, ok4_, ok6_, wi_⟩
set_option maxHeartbeats 1000000 in
theorem t_Reader_lastWaiting (o0 : Ob) (g0 : okReader o0) (g1 : 0 ≤ (g32 o0 6 0).toInt) (g2 : (g32 o0 6 0).toInt ≤ 400) : ∃ (r : Int32), F_Reader_lastWaiting o0 = some r ∧ (0 < (g32 o0 6 0).toInt → r.toInt = (g32 o0 5 (Int32.toNatClampNeg ((g32 o0 6 0) - (1 : Int32)))).toInt) := by
  obtain ⟨f1504, f1505, f1506, f1507⟩ := id g0
  rw [F_Reader_lastWaiting]
  by_cases c1508 : (g32 o0 6 0) ≤ 0
  · rw [if_pos c1508]
    (try simp (disch := (first | omega | (simp only [Int32.reduceToInt]; omega) | (simp (disch := first | omega | (simp only [Int32.reduceToInt]; omega)) only [tadd, tsub, mul6, neg1, Int32.reduceToInt]; omega))) only [neg1, mul6, g_s, g_l, tadd, tsub, inb_iff, Int32.lt_iff_toInt_lt, Int32.le_iff_toInt_le, i32_eq, b2i_0, Int32.reduceToInt, reduceIte, Nat.reduceEqDiff] at c1508)
    refine ⟨_, rfl, tu_⟩
  · rw [if_neg c1508]
    (try simp (disch := (first | omega | (simp only [Int32.reduceToInt]; omega) | (simp (disch := first | omega | (simp only [Int32.reduceToInt]; omega)) only [tadd, tsub, mul6, neg1, Int32.reduceToInt]; omega))) only [neg1, mul6, g_s, g_l, tadd, tsub, inb_iff, Int32.lt_iff_toInt_lt, Int32.le_iff_toInt_le, i32_eq, b2i_0, Int32.reduceToInt, reduceIte, Nat.reduceEqDiff] at c1508)
    rw [show (inb ((g32 o0 6 0) - (1 : Int32)) 400) = true from inb_iff.mpr ⟨tu_, tu_⟩, chk_tr]
    refine ⟨_, rfl, tu_⟩
set_option maxHeartbeats 1000000 in
theorem t_Reader_shapeBy (x0 : Int32)  : ∃ (r : Int32), F_Reader_shapeBy x0 = some r ∧ (1 ≤ r.toInt) ∧ (r.toInt ≤ 2) := by
  rw [F_Reader_shapeBy]
  by_cases c1509 : x0 = (5 : Int32)
  · rw [if_pos c1509]
    (try simp (disch := (first | omega | (simp only [Int32.reduceToInt]; omega) | (simp (disch := first | omega | (simp only [Int32.reduceToInt]; omega)) only [tadd, tsub, mul6, neg1, Int32.reduceToInt]; omega))) only [neg1, mul6, g_s, g_l, tadd, tsub, inb_iff, Int32.lt_iff_toInt_lt, Int32.le_iff_toInt_le, i32_eq, b2i_0, Int32.reduceToInt, reduceIte, Nat.reduceEqDiff] at c1509)
    refine ⟨_, rfl, tu_, tu_⟩
  · rw [if_neg c1509]
    (try simp (disch := (first | omega | (simp only [Int32.reduceToInt]; omega) | (simp (disch := first | omega | (simp only [Int32.reduceToInt]; omega)) only [tadd, tsub, mul6, neg1, Int32.reduceToInt]; omega))) only [neg1, mul6, g_s, g_l, tadd, tsub, inb_iff, Int32.lt_iff_toInt_lt, Int32.le_iff_toInt_le, i32_eq, b2i_0, Int32.reduceToInt, reduceIte, Nat.reduceEqDiff] at c1509)
    by_cases c1510 : x0 = (6 : Int32)
    · rw [if_pos c1510]
      (try simp (disch := (first | omega | (simp only [Int32.reduceToInt]; omega) | (simp (disch := first | omega | (simp only [Int32.reduceToInt]; omega)) only [tadd, tsub, mul6, neg1, Int32.reduceToInt]; omega))) only [neg1, mul6, g_s, g_l, tadd, tsub, inb_iff, Int32.lt_iff_toInt_lt, Int32.le_iff_toInt_le, i32_eq, b2i_0, Int32.reduceToInt, reduceIte, Nat.reduceEqDiff] at c1510)
      refine ⟨_, rfl, tu_, tu_⟩
    · rw [if_neg c1510]
      (try simp (disch := (first | omega | (simp only [Int32.reduceToInt]; omega) | (simp (disch := first | omega | (simp only [Int32.reduceToInt]; omega)) only [tadd, tsub, mul6, neg1, Int32.reduceToInt]; omega))) only [neg1, mul6, g_s, g_l, tadd, tsub, inb_iff, Int32.lt_iff_toInt_lt, Int32.le_iff_toInt_le, i32_eq, b2i_0, Int32.reduceToInt, reduceIte, Nat.reduceEqDiff] at c1510)
      refine ⟨_, rfl, tu_, tu_⟩
set_option maxHeartbeats 1000000 in
theorem t_Reader_operatorOf (x0 : Int32)  : ∃ (r : Int32), F_Reader_operatorOf x0 = some r ∧ (r.toInt = 0 ∧ True ∨ 5 ≤ r.toInt ∧ r.toInt ≤ 8 ∧ ¬ x0.toInt = 0) := by
  rw [F_Reader_operatorOf]
  by_cases c1511 : x0 = (43 : Int32)
  · rw [if_pos c1511]
    (try simp (disch := (first | omega | (simp only [Int32.reduceToInt]; omega) | (simp (disch := first | omega | (simp only [Int32.reduceToInt]; omega)) only [tadd, tsub, mul6, neg1, Int32.reduceToInt]; omega))) only [neg1, mul6, g_s, g_l, tadd, tsub, inb_iff, Int32.lt_iff_toInt_lt, Int32.le_iff_toInt_le, i32_eq, b2i_0, Int32.reduceToInt, reduceIte, Nat.reduceEqDiff] at c1511)
    refine ⟨_, rfl, tu_⟩
  · rw [if_neg c1511]
    (try simp (disch := (first | omega | (simp only [Int32.reduceToInt]; omega) | (simp (disch := first | omega | (simp only [Int32.reduceToInt]; omega)) only [tadd, tsub, mul6, neg1, Int32.reduceToInt]; omega))) only [neg1, mul6, g_s, g_l, tadd, tsub, inb_iff, Int32.lt_iff_toInt_lt, Int32.le_iff_toInt_le, i32_eq, b2i_0, Int32.reduceToInt, reduceIte, Nat.reduceEqDiff] at c1511)
    by_cases c1512 : x0 = (45 : Int32)
    · rw [if_pos c1512]
      (try simp (disch := (first | omega | (simp only [Int32.reduceToInt]; omega) | (simp (disch := first | omega | (simp only [Int32.reduceToInt]; omega)) only [tadd, tsub, mul6, neg1, Int32.reduceToInt]; omega))) only [neg1, mul6, g_s, g_l, tadd, tsub, inb_iff, Int32.lt_iff_toInt_lt, Int32.le_iff_toInt_le, i32_eq, b2i_0, Int32.reduceToInt, reduceIte, Nat.reduceEqDiff] at c1512)
      refine ⟨_, rfl, tu_⟩
    · rw [if_neg c1512]
      (try simp (disch := (first | omega | (simp only [Int32.reduceToInt]; omega) | (simp (disch := first | omega | (simp only [Int32.reduceToInt]; omega)) only [tadd, tsub, mul6, neg1, Int32.reduceToInt]; omega))) only [neg1, mul6, g_s, g_l, tadd, tsub, inb_iff, Int32.lt_iff_toInt_lt, Int32.le_iff_toInt_le, i32_eq, b2i_0, Int32.reduceToInt, reduceIte, Nat.reduceEqDiff] at c1512)
      by_cases c1513 : x0 = (42 : Int32)
      · rw [if_pos c1513]
        (try simp (disch := (first | omega | (simp only [Int32.reduceToInt]; omega) | (simp (disch := first | omega | (simp only [Int32.reduceToInt]; omega)) only [tadd, tsub, mul6, neg1, Int32.reduceToInt]; omega))) only [neg1, mul6, g_s, g_l, tadd, tsub, inb_iff, Int32.lt_iff_toInt_lt, Int32.le_iff_toInt_le, i32_eq, b2i_0, Int32.reduceToInt, reduceIte, Nat.reduceEqDiff] at c1513)
        refine ⟨_, rfl, tu_⟩
      · rw [if_neg c1513]
        (try simp (disch := (first | omega | (simp only [Int32.reduceToInt]; omega) | (simp (disch := first | omega | (simp only [Int32.reduceToInt]; omega)) only [tadd, tsub, mul6, neg1, Int32.reduceToInt]; omega))) only [neg1, mul6, g_s, g_l, tadd, tsub, inb_iff, Int32.lt_iff_toInt_lt, Int32.le_iff_toInt_le, i32_eq, b2i_0, Int32.reduceToInt, reduceIte, Nat.reduceEqDiff] at c1513)
        by_cases c1514 : x0 = (47 : Int32)
        · rw [if_pos c1514]
          (try simp (disch := (first | omega | (simp only [Int32.reduceToInt]; omega) | (simp (disch := first | omega | (simp only [Int32.reduceToInt]; omega)) only [tadd, tsub, mul6, neg1, Int32.reduceToInt]; omega))) only [neg1, mul6, g_s, g_l, tadd, tsub, inb_iff, Int32.lt_iff_toInt_lt, Int32.le_iff_toInt_le, i32_eq, b2i_0, Int32.reduceToInt, reduceIte, Nat.reduceEqDiff] at c1514)
          refine ⟨_, rfl, tu_⟩
        · rw [if_neg c1514]
          (try simp (disch := (first | omega | (simp only [Int32.reduceToInt]; omega) | (simp (disch := first | omega | (simp only [Int32.reduceToInt]; omega)) only [tadd, tsub, mul6, neg1, Int32.reduceToInt]; omega))) only [neg1, mul6, g_s, g_l, tadd, tsub, inb_iff, Int32.lt_iff_toInt_lt, Int32.le_iff_toInt_le, i32_eq, b2i_0, Int32.reduceToInt, reduceIte, Nat.reduceEqDiff] at c1514)
          refine ⟨_, rfl, tu_⟩
set_option maxHeartbeats 1000000 in
theorem t_Reader_areNeededAround_22 (x0 : Int32) (x1 : Int32) (x2 : Int32) (y0 : Int32)  : ∃ (r : Bool), F_Reader_areNeededAround_22 x0 x1 x2 y0 = some r ∧ (True) := by
  rw [F_Reader_areNeededAround_22]
  by_cases c1515 : x0 = (2 : Int32)
  · rw [if_pos c1515]
    (try simp (disch := (first | omega | (simp only [Int32.reduceToInt]; omega) | (simp (disch := first | omega | (simp only [Int32.reduceToInt]; omega)) only [tadd, tsub, mul6, neg1, Int32.reduceToInt]; omega))) only [neg1, mul6, g_s, g_l, tadd, tsub, inb_iff, Int32.lt_iff_toInt_lt, Int32.le_iff_toInt_le, i32_eq, b2i_0, Int32.reduceToInt, reduceIte, Nat.reduceEqDiff] at c1515)
    by_cases c1516 : y0 = 0
    · rw [if_pos c1516]
      (try simp (disch := (first | omega | (simp only [Int32.reduceToInt]; omega) | (simp (disch := first | omega | (simp only [Int32.reduceToInt]; omega)) only [tadd, tsub, mul6, neg1, Int32.reduceToInt]; omega))) only [neg1, mul6, g_s, g_l, tadd, tsub, inb_iff, Int32.lt_iff_toInt_lt, Int32.le_iff_toInt_le, i32_eq, b2i_0, Int32.reduceToInt, reduceIte, Nat.reduceEqDiff] at c1516)
      by_cases c1517 : x1 = (5 : Int32)
      · rw [if_pos c1517]
        (try simp (disch := (first | omega | (simp only [Int32.reduceToInt]; omega) | (simp (disch := first | omega | (simp only [Int32.reduceToInt]; omega)) only [tadd, tsub, mul6, neg1, Int32.reduceToInt]; omega))) only [neg1, mul6, g_s, g_l, tadd, tsub, inb_iff, Int32.lt_iff_toInt_lt, Int32.le_iff_toInt_le, i32_eq, b2i_0, Int32.reduceToInt, reduceIte, Nat.reduceEqDiff] at c1517)
        refine ⟨_, rfl, tu_⟩
      · rw [if_neg c1517]
        (try simp (disch := (first | omega | (simp only [Int32.reduceToInt]; omega) | (simp (disch := first | omega | (simp only [Int32.reduceToInt]; omega)) only [tadd, tsub, mul6, neg1, Int32.reduceToInt]; omega))) only [neg1, mul6, g_s, g_l, tadd, tsub, inb_iff, Int32.lt_iff_toInt_lt, Int32.le_iff_toInt_le, i32_eq, b2i_0, Int32.reduceToInt, reduceIte, Nat.reduceEqDiff] at c1517)
        by_cases c1518 : x1 = (6 : Int32)
        · rw [if_pos c1518]
          (try simp (disch := (first | omega | (simp only [Int32.reduceToInt]; omega) | (simp (disch := first | omega | (simp only [Int32.reduceToInt]; omega)) only [tadd, tsub, mul6, neg1, Int32.reduceToInt]; omega))) only [neg1, mul6, g_s, g_l, tadd, tsub, inb_iff, Int32.lt_iff_toInt_lt, Int32.le_iff_toInt_le, i32_eq, b2i_0, Int32.reduceToInt, reduceIte, Nat.reduceEqDiff] at c1518)
          refine ⟨_, rfl, tu_⟩
        · rw [if_neg c1518]
          (try simp (disch := (first | omega | (simp only [Int32.reduceToInt]; omega) | (simp (disch := first | omega | (simp only [Int32.reduceToInt]; omega)) only [tadd, tsub, mul6, neg1, Int32.reduceToInt]; omega))) only [neg1, mul6, g_s, g_l, tadd, tsub, inb_iff, Int32.lt_iff_toInt_lt, Int32.le_iff_toInt_le, i32_eq, b2i_0, Int32.reduceToInt, reduceIte, Nat.reduceEqDiff] at c1518)
          by_cases c1519 : x2 = (42 : Int32)
          · rw [if_pos c1519]
            (try simp (disch := (first | omega | (simp only [Int32.reduceToInt]; omega) | (simp (disch := first | omega | (simp only [Int32.reduceToInt]; omega)) only [tadd, tsub, mul6, neg1, Int32.reduceToInt]; omega))) only [neg1, mul6, g_s, g_l, tadd, tsub, inb_iff, Int32.lt_iff_toInt_lt, Int32.le_iff_toInt_le, i32_eq, b2i_0, Int32.reduceToInt, reduceIte, Nat.reduceEqDiff] at c1519)
            refine ⟨_, rfl, tu_⟩
          · rw [if_neg c1519]
            (try simp (disch := (first | omega | (simp only [Int32.reduceToInt]; omega) | (simp (disch := first | omega | (simp only [Int32.reduceToInt]; omega)) only [tadd, tsub, mul6, neg1, Int32.reduceToInt]; omega))) only [neg1, mul6, g_s, g_l, tadd, tsub, inb_iff, Int32.lt_iff_toInt_lt, Int32.le_iff_toInt_le, i32_eq, b2i_0, Int32.reduceToInt, reduceIte, Nat.reduceEqDiff] at c1519)
            by_cases c1520 : x2 = (47 : Int32)
            · rw [if_pos c1520]
              (try simp (disch := (first | omega | (simp only [Int32.reduceToInt]; omega) | (simp (disch := first | omega | (simp only [Int32.reduceToInt]; omega)) only [tadd, tsub, mul6, neg1, Int32.reduceToInt]; omega))) only [neg1, mul6, g_s, g_l, tadd, tsub, inb_iff, Int32.lt_iff_toInt_lt, Int32.le_iff_toInt_le, i32_eq, b2i_0, Int32.reduceToInt, reduceIte, Nat.reduceEqDiff] at c1520)
              refine ⟨_, rfl, tu_⟩
            · rw [if_neg c1520]
              (try simp (disch := (first | omega | (simp only [Int32.reduceToInt]; omega) | (simp (disch := first | omega | (simp only [Int32.reduceToInt]; omega)) only [tadd, tsub, mul6, neg1, Int32.reduceToInt]; omega))) only [neg1, mul6, g_s, g_l, tadd, tsub, inb_iff, Int32.lt_iff_toInt_lt, Int32.le_iff_toInt_le, i32_eq, b2i_0, Int32.reduceToInt, reduceIte, Nat.reduceEqDiff] at c1520)
              refine ⟨_, rfl, tu_⟩
    · rw [if_neg c1516]
      (try simp (disch := (first | omega | (simp only [Int32.reduceToInt]; omega) | (simp (disch := first | omega | (simp only [Int32.reduceToInt]; omega)) only [tadd, tsub, mul6, neg1, Int32.reduceToInt]; omega))) only [neg1, mul6, g_s, g_l, tadd, tsub, inb_iff, Int32.lt_iff_toInt_lt, Int32.le_iff_toInt_le, i32_eq, b2i_0, Int32.reduceToInt, reduceIte, Nat.reduceEqDiff] at c1516)
      refine ⟨_, rfl, tu_⟩
  · rw [if_neg c1515]
    (try simp (disch := (first | omega | (simp only [Int32.reduceToInt]; omega) | (simp (disch := first | omega | (simp only [Int32.reduceToInt]; omega)) only [tadd, tsub, mul6, neg1, Int32.reduceToInt]; omega))) only [neg1, mul6, g_s, g_l, tadd, tsub, inb_iff, Int32.lt_iff_toInt_lt, Int32.le_iff_toInt_le, i32_eq, b2i_0, Int32.reduceToInt, reduceIte, Nat.reduceEqDiff] at c1515)
    by_cases c1521 : x0 = (1 : Int32)
    · rw [if_pos c1521]
      (try simp (disch := (first | omega | (simp only [Int32.reduceToInt]; omega) | (simp (disch := first | omega | (simp only [Int32.reduceToInt]; omega)) only [tadd, tsub, mul6, neg1, Int32.reduceToInt]; omega))) only [neg1, mul6, g_s, g_l, tadd, tsub, inb_iff, Int32.lt_iff_toInt_lt, Int32.le_iff_toInt_le, i32_eq, b2i_0, Int32.reduceToInt, reduceIte, Nat.reduceEqDiff] at c1521)
      by_cases c1522 : y0 = 0
      · rw [if_pos c1522]
        (try simp (disch := (first | omega | (simp only [Int32.reduceToInt]; omega) | (simp (disch := first | omega | (simp only [Int32.reduceToInt]; omega)) only [tadd, tsub, mul6, neg1, Int32.reduceToInt]; omega))) only [neg1, mul6, g_s, g_l, tadd, tsub, inb_iff, Int32.lt_iff_toInt_lt, Int32.le_iff_toInt_le, i32_eq, b2i_0, Int32.reduceToInt, reduceIte, Nat.reduceEqDiff] at c1522)
        refine ⟨_, rfl, tu_⟩
      · rw [if_neg c1522]
        (try simp (disch := (first | omega | (simp only [Int32.reduceToInt]; omega) | (simp (disch := first | omega | (simp only [Int32.reduceToInt]; omega)) only [tadd, tsub, mul6, neg1, Int32.reduceToInt]; omega))) only [neg1, mul6, g_s, g_l, tadd, tsub, inb_iff, Int32.lt_iff_toInt_lt, Int32.le_iff_toInt_le, i32_eq, b2i_0, Int32.reduceToInt, reduceIte, Nat.reduceEqDiff] at c1522)
        refine ⟨_, rfl, tu_⟩
    · rw [if_neg c1521]
      (try simp (disch := (first | omega | (simp only [Int32.reduceToInt]; omega) | (simp (disch := first | omega | (simp only [Int32.reduceToInt]; omega)) only [tadd, tsub, mul6, neg1, Int32.reduceToInt]; omega))) only [neg1, mul6, g_s, g_l, tadd, tsub, inb_iff, Int32.lt_iff_toInt_lt, Int32.le_iff_toInt_le, i32_eq, b2i_0, Int32.reduceToInt, reduceIte, Nat.reduceEqDiff] at c1521)
      refine ⟨_, rfl, tu_⟩
set_option maxHeartbeats 1000000 in
theorem t_Reader_areNeededAround (x0 : Int32) (x1 : Int32) (x2 : Int32)  : ∃ (r : Bool), F_Reader_areNeededAround x0 x1 x2 = some r ∧ (True) := by
  rw [F_Reader_areNeededAround]
  by_cases c1523 : x1 = (4 : Int32)
  · rw [if_pos c1523]
    (try simp (disch := (first | omega | (simp only [Int32.reduceToInt]; omega) | (simp (disch := first | omega | (simp only [Int32.reduceToInt]; omega)) only [tadd, tsub, mul6, neg1, Int32.reduceToInt]; omega))) only [neg1, mul6, g_s, g_l, tadd, tsub, inb_iff, Int32.lt_iff_toInt_lt, Int32.le_iff_toInt_le, i32_eq, b2i_0, Int32.reduceToInt, reduceIte, Nat.reduceEqDiff] at c1523)
    obtain ⟨y1524, e1526, p1525⟩ := t_Reader_areNeededAround_22 x0 x1 x2 (1 : Int32)
    refine ⟨y1524, e1526, tu_⟩
  · rw [if_neg c1523]
    (try simp (disch := (first | omega | (simp only [Int32.reduceToInt]; omega) | (simp (disch := first | omega | (simp only [Int32.reduceToInt]; omega)) only [tadd, tsub, mul6, neg1, Int32.reduceToInt]; omega))) only [neg1, mul6, g_s, g_l, tadd, tsub, inb_iff, Int32.lt_iff_toInt_lt, Int32.le_iff_toInt_le, i32_eq, b2i_0, Int32.reduceToInt, reduceIte, Nat.reduceEqDiff] at c1523)
    by_cases c1527 : x1 = (7 : Int32)
    · rw [if_pos c1527]
      (try simp (disch := (first | omega | (simp only [Int32.reduceToInt]; omega) | (simp (disch := first | omega | (simp only [Int32.reduceToInt]; omega)) only [tadd, tsub, mul6, neg1, Int32.reduceToInt]; omega))) only [neg1, mul6, g_s, g_l, tadd, tsub, inb_iff, Int32.lt_iff_toInt_lt, Int32.le_iff_toInt_le, i32_eq, b2i_0, Int32.reduceToInt, reduceIte, Nat.reduceEqDiff] at c1527)
      obtain ⟨y1528, e1530, p1529⟩ := t_Reader_areNeededAround_22 x0 x1 x2 (1 : Int32)
      refine ⟨y1528, e1530, tu_⟩
    · rw [if_neg c1527]
      (try simp (disch := (first | omega | (simp only [Int32.reduceToInt]; omega) | (simp (disch := first | omega | (simp only [Int32.reduceToInt]; omega)) only [tadd, tsub, mul6, neg1, Int32.reduceToInt]; omega))) only [neg1, mul6, g_s, g_l, tadd, tsub, inb_iff, Int32.lt_iff_toInt_lt, Int32.le_iff_toInt_le, i32_eq, b2i_0, Int32.reduceToInt, reduceIte, Nat.reduceEqDiff] at c1527)
      by_cases c1531 : x1 = (8 : Int32)
      · rw [if_pos c1531]
        (try simp (disch := (first | omega | (simp only [Int32.reduceToInt]; omega) | (simp (disch := first | omega | (simp only [Int32.reduceToInt]; omega)) only [tadd, tsub, mul6, neg1, Int32.reduceToInt]; omega))) only [neg1, mul6, g_s, g_l, tadd, tsub, inb_iff, Int32.lt_iff_toInt_lt, Int32.le_iff_toInt_le, i32_eq, b2i_0, Int32.reduceToInt, reduceIte, Nat.reduceEqDiff] at c1531)
        obtain ⟨y1532, e1534, p1533⟩ := t_Reader_areNeededAround_22 x0 x1 x2 (1 : Int32)
        refine ⟨y1532, e1534, tu_⟩
      · rw [if_neg c1531]
        (try simp (disch := (first | omega | (simp only [Int32.reduceToInt]; omega) | (simp (disch := first | omega | (simp only [Int32.reduceToInt]; omega)) only [tadd, tsub, mul6, neg1, Int32.reduceToInt]; omega))) only [neg1, mul6, g_s, g_l, tadd, tsub, inb_iff, Int32.lt_iff_toInt_lt, Int32.le_iff_toInt_le, i32_eq, b2i_0, Int32.reduceToInt, reduceIte, Nat.reduceEqDiff] at c1531)
        obtain ⟨y1535, e1537, p1536⟩ := t_Reader_areNeededAround_22 x0 x1 x2 (0 : Int32)
        refine ⟨y1535, e1537, tu_⟩
theorem t_Reader_releaseNegations_0 (o1 : Ob) : ∀ (n : Nat) (o0 o2 : Ob), okReader o0 → okText o1 → okSteps o2 → WI 0 o0 → (g32 o0 6 0).toInt < (n : Int) → ∃ (n0 n2 : Ob), F_Reader_releaseNegations_0 o1 n o0 o2 = some (n0, n2) ∧ okReader n0 ∧ okSteps n2 ∧ WI 0 n0 ∧ (g32 n0 10 0).toInt = (g32 o0 10 0).toInt := by
  intro n
  induction n with
  | zero =>
    intro o0 o2 h0 h1 h2 hW hn
    have rg := hW.rg
    exfalso; omega
  | succ n ih =>
    intro o0 o2 h0 h1 h2 hW hn
    have rg := hW.rg
    rw [F_Reader_releaseNegations_0]
    by_cases c : g32 o0 6 0 ≤ 0
    · rw [if_pos c]; exact ⟨o0, o2, rfl, h0, h2, hW, rfl⟩
    · rw [if_neg c]
      have c := nle0 c
      obtain ⟨v3, e3, p3⟩ := t_Reader_lastWaiting o0 h0 (by omega) (by omega)
      have p3 := p3 c
      rw [e3, bind1_s]
      by_cases c4 : v3 = (4 : Int32)
      · rw [if_pos c4]
        obtain ⟨m2, e2, q2, _⟩ := t_Steps_add 4 0 0 o2 h2 (fun z => absurd z (by decide)) (fun z => absurd z (by decide))
        rw [e2, bind1_s]
        have ht : (g32 o0 5 (Int32.toNatClampNeg ((g32 o0 6 0) - (1 : Int32)))).toInt = 4 := by rw [← p3, c4]; rfl
        have e1 := sub1 (x := g32 o0 6 0) (by omega)
        exact ih _ _ (okReader.ne (okReader.ne h0 (by decide) (by decide) (by decide)) (by decide) (by decide) (by decide)) h1 q2 (WI.pop4 hW c ht) (by show ((g32 o0 6 0) - (1 : Int32)).toInt < (n : Int); omega)
      · rw [if_neg c4]; exact ⟨o0, o2, rfl, h0, h2, hW, rfl⟩
theorem t_Reader_releaseNegations (o0 o1 o2 : Ob) (g0 : okReader o0) (g1 : okText o1) (g2 : okSteps o2) (g3 : WI 0 o0) : ∃ (n0 n2 : Ob), F_Reader_releaseNegations o0 o1 o2 = some (n0, n2) ∧ (okReader n0) ∧ (okSteps n2) ∧ (WI 0 n0) ∧ ((g32 n0 10 0).toInt = (g32 o0 10 0).toInt) :=
  t_Reader_releaseNegations_0 o1 fuel o0 o2 g0 g1 g2 g3 (by have := g3.rg; rw [fuel_eq]; omega)
theorem t_Reader_releaseWaiting_0 (o1 : Ob) : ∀ (n : Nat) (x1 : Int32) (o0 o2 : Ob), okReader o0 → okText o1 → okSteps o2 → WI 0 o0 → (g32 o0 6 0).toInt < (n : Int) → ∃ (n0 n2 : Ob), F_Reader_releaseWaiting_0 o1 n x1 o0 o2 = some (n0, n2) ∧ okReader n0 ∧ okSteps n2 ∧ WI 0 n0 ∧ KE 6 o0 n0 ∧ (x1.toInt = 0 → 0 < (g32 o0 10 0).toInt → 0 < (g32 n0 6 0).toInt ∧ (g32 n0 5 (Int32.toNatClampNeg ((g32 n0 6 0) - (1 : Int32)))).toInt = 9) := by
  intro n
  induction n with
  | zero =>
    intro x1 o0 o2 h0 h1 h2 hW hn
    have rg := hW.rg
    exfalso; omega
  | succ n ih =>
    intro x1 o0 o2 h0 h1 h2 hW hn
    have rg := hW.rg
    rw [F_Reader_releaseWaiting_0]
    by_cases c : g32 o0 6 0 ≤ 0
    · rw [if_pos c]
      have c := le0 c
      exact ⟨o0, o2, rfl, h0, h2, hW, KE.refl, fun _ hg => by have := WI.some9 hW hg; omega⟩
    · rw [if_neg c]
      have c := nle0 c
      obtain ⟨v3, e3, p3⟩ := t_Reader_lastWaiting o0 h0 (by omega) (by omega)
      have p3 := p3 c
      rw [e3, bind1_s]
      by_cases c9 : v3 = (9 : Int32)
      · rw [if_pos c9]
        have ht : (g32 o0 5 (Int32.toNatClampNeg ((g32 o0 6 0) - (1 : Int32)))).toInt = 9 := by rw [← p3, c9]; rfl
        exact ⟨o0, o2, rfl, h0, h2, hW, KE.refl, fun _ _ => ⟨c, ht⟩⟩
      · rw [if_neg c9]
        have ht : ¬ (g32 o0 5 (Int32.toNatClampNeg ((g32 o0 6 0) - (1 : Int32)))).toInt = 9 := fun z => c9 (Int32.toInt_inj.mp (p3.trans z))
        have e1 := sub1 (x := g32 o0 6 0) (by omega)
        have st : ∃ (n0 n2 : Ob), F_Reader_releaseWaiting_32 o1 (F_Reader_releaseWaiting_0 o1 n) x1 o0 o2 = some (n0, n2) ∧ okReader n0 ∧ okSteps n2 ∧ WI 0 n0 ∧ KE 6 o0 n0 ∧ (x1.toInt = 0 → 0 < (g32 o0 10 0).toInt → 0 < (g32 n0 6 0).toInt ∧ (g32 n0 5 (Int32.toNatClampNeg ((g32 n0 6 0) - (1 : Int32)))).toInt = 9) := by
          rw [F_Reader_releaseWaiting_32, e3, bind1_s]
          have v23 : v3.toInt = (g32 o0 5 (Int32.toNatClampNeg ((g32 o0 6 0) - (1 : Int32)))).toInt := p3
          obtain ⟨m2, e2, q2, _⟩ := t_Steps_add v3 0 0 o2 h2 (fun _ => ⟨by decide, by decide⟩) (fun _ => ⟨by decide, by decide⟩)
          rw [e2, bind1_s]
          obtain ⟨n0, n2, e, r0, r2, rW, rK, rT⟩ := ih x1 (s32 o0 6 0 ((g32 o0 6 0) - (1 : Int32))) m2 (okReader.ne h0 (by decide) (by decide) (by decide)) h1 q2 (WI.popb hW c ht) (by show ((g32 o0 6 0) - (1 : Int32)).toInt < (n : Int); omega)
          exact ⟨n0, n2, e, r0, r2, rW, KE.tr (KE.s KE.refl) rK, rT⟩
        by_cases cx : x1 = (1 : Int32)
        · rw [if_pos cx, bind1_s]
          obtain ⟨v9, e9, _, _⟩ := t_Reader_shapeBy v3
          rw [e9, bind1_s]
          by_cases cs : v9 = (1 : Int32)
          · rw [if_pos cs]; exact st
          · rw [if_neg cs]
            exact ⟨o0, o2, rfl, h0, h2, hW, KE.refl, fun z _ => by rw [cx] at z; exact absurd z (by decide)⟩
        · rw [if_neg cx]; exact st
theorem t_Reader_releaseWaiting (x1 : Int32) (o0 o1 o2 : Ob) (g0 : okReader o0) (g1 : okText o1) (g2 : okSteps o2) (g3 : WI 0 o0) : ∃ (n0 n2 : Ob), F_Reader_releaseWaiting x1 o0 o1 o2 = some (n0, n2) ∧ (okReader n0) ∧ (okSteps n2) ∧ (WI 0 n0) ∧ (KE 6 o0 n0) ∧ (x1.toInt = 0 → 0 < (g32 o0 10 0).toInt → 0 < (g32 n0 6 0).toInt ∧ (g32 n0 5 (Int32.toNatClampNeg ((g32 n0 6 0) - (1 : Int32)))).toInt = 9) :=
  t_Reader_releaseWaiting_0 o1 fuel x1 o0 o2 g0 g1 g2 g3 (by have := g3.rg; rw [fuel_eq]; omega)
theorem cg_123 (o1 : Ob) (M : Int) (k0 : Ob → Ob → Option (Ob × Ob)) (hk : ∀ a b, okReader a → okSteps b → WI 0 a → (g32 a 10 0).toInt < M → ∃ (n0 n2 : Ob), k0 a b = some (n0, n2) ∧ okReader n0 ∧ okSteps n2 ∧ WI 0 n0) (x1 x2 : Int32) (o0 o2 : Ob) (h0 : okReader o0) (h1 : okText o1) (h2 : okSteps o2) (hW : WI 1 o0) (hM : (g32 o0 10 0).toInt - 1 < M) : ∃ (n0 n2 : Ob), F_Reader_closeGroups_123 o1 k0 x1 x2 o0 o2 = some (n0, n2) ∧ okReader n0 ∧ okSteps n2 ∧ WI 0 n0 := by
  have rg := hW.rg
  have e1 := sub1 (x := g32 o0 10 0) (by omega)
  have ic : (inb ((g32 o0 10 0) - (1 : Int32)) 9) = true := inb_iff.mpr ⟨by omega, by omega⟩
  have st : ∀ v : Int32, ∃ (n0 n2 : Ob), bind2 (F_Reader_releaseNegations (s32 (s32 (s32 o0 10 0 ((g32 o0 10 0) - (1 : Int32))) 11 0 ((g32 o0 11 0) - (1 : Int32))) 9 (Int32.toNatClampNeg ((g32 o0 10 0) - (1 : Int32))) v) o1 o2) (fun a b => k0 a b) = some (n0, n2) ∧ okReader n0 ∧ okSteps n2 ∧ WI 0 n0 := by
    intro v
    obtain ⟨a, b, e, ra, rb, rW, r10⟩ := t_Reader_releaseNegations (s32 (s32 (s32 o0 10 0 ((g32 o0 10 0) - (1 : Int32))) 11 0 ((g32 o0 11 0) - (1 : Int32))) 9 (Int32.toNatClampNeg ((g32 o0 10 0) - (1 : Int32))) v) o1 o2 (okReader.ne (okReader.ne (okReader.ne h0 (by decide) (by decide) (by decide)) (by decide) (by decide) (by decide)) (by decide) (by decide) (by decide)) h1 h2 (WI.cls hW)
    rw [e, bind2_s]
    have r10 : (g32 a 10 0).toInt = ((g32 o0 10 0) - (1 : Int32)).toInt := r10
    exact hk a b ra rb rW (by omega)
  rw [F_Reader_closeGroups_123]
  by_cases c : x2 = (4 : Int32)
  · rw [if_pos c, ic, chk_tr]; exact st _
  · rw [if_neg c, ic, chk_tr]; exact st _
theorem cg_64 (o1 : Ob) (M : Int) (k0 : Ob → Ob → Option (Ob × Ob)) (hk : ∀ a b, okReader a → okSteps b → WI 0 a → (g32 a 10 0).toInt < M → ∃ (n0 n2 : Ob), k0 a b = some (n0, n2) ∧ okReader n0 ∧ okSteps n2 ∧ WI 0 n0) (y0 : Int32) (o0 o2 : Ob) (h0 : okReader o0) (h1 : okText o1) (h2 : okSteps o2) (hW : WI 1 o0) (hl : (g32 o0 3 0).toInt < (g32 o0 2 0).toInt) (hM : (g32 o0 10 0).toInt - 1 < M) : ∃ (n0 n2 : Ob), F_Reader_closeGroups_64 o1 k0 y0 o0 o2 = some (n0, n2) ∧ okReader n0 ∧ okSteps n2 ∧ WI 0 n0 := by
  have rg := hW.rg
  obtain ⟨f1, f2, f3, f4⟩ := id h0
  have e1 := add1 (x := g32 o0 3 0) (by omega)
  rw [F_Reader_closeGroups_64]
  obtain ⟨v13, e13, _⟩ := t_Reader_lastWaiting o0 h0 (by omega) (by omega)
  rw [e13, bind1_s, show (inb (g32 o0 10 0) 9) = true from inb_iff.mpr ⟨by omega, by omega⟩, chk_tr]
  have h0a : okReader (s32 o0 3 0 ((g32 o0 3 0) + (1 : Int32))) := okReader.ne h0 (by decide) (by decide) (by decide)
  have hWa : WI 1 (s32 o0 3 0 ((g32 o0 3 0) + (1 : Int32))) := WI.ad hW (by omega) (by omega)
  obtain ⟨v16, e16, _⟩ := t_Reader_next (s32 o0 3 0 ((g32 o0 3 0) + (1 : Int32))) h0a (by show 0 ≤ ((g32 o0 3 0) + (1 : Int32)).toInt; omega)
  rw [e16, bind1_s]
  obtain ⟨v18, e18, _⟩ := t_Reader_areNeededAround y0 v13 v16
  rw [e18, bind1_s]
  by_cases c : (b2i v18) = 0
  · have f4a := f4 (Int32.toNatClampNeg (g32 o0 10 0))
    rw [if_pos c, show (inb (g32 o0 7 (Int32.toNatClampNeg (g32 o0 10 0))) 400) = true from inb_iff.mpr ⟨by omega, by omega⟩, chk_tr, show (inb (g32 o0 3 0) 400) = true from inb_iff.mpr ⟨by omega, by omega⟩, chk_tr]
    exact cg_123 o1 M k0 hk y0 v13 _ o2 (okReader.ne (okReader.ne h0a (by decide) (by decide) (by decide)) (by decide) (by decide) (by decide)) h1 h2 (WI.ne (WI.ne hWa (by decide) (by decide) (by decide) (by decide) (by decide) (by decide)) (by decide) (by decide) (by decide) (by decide) (by decide) (by decide)) hM
  · rw [if_neg c]
    exact cg_123 o1 M k0 hk y0 v13 _ o2 h0a h1 h2 hWa hM
theorem t_Reader_closeGroups_0 (o1 : Ob) : ∀ (n : Nat) (o0 o2 : Ob), okReader o0 → okText o1 → okSteps o2 → WI 0 o0 → (g32 o0 10 0).toInt < (n : Int) → ∃ (n0 n2 : Ob), F_Reader_closeGroups_0 o1 n o0 o2 = some (n0, n2) ∧ okReader n0 ∧ okSteps n2 ∧ WI 0 n0 := by
  intro n
  induction n with
  | zero =>
    intro o0 o2 h0 h1 h2 hW hn
    have rg := hW.rg
    exfalso; omega
  | succ n ih =>
    intro o0 o2 h0 h1 h2 hW hn
    have rg := hW.rg
    rw [F_Reader_closeGroups_0]
    by_cases c : g32 o0 10 0 ≤ 0
    · rw [if_pos c]; exact ⟨o0, o2, rfl, h0, h2, hW⟩
    · rw [if_neg c]
      have c := nle0 c
      obtain ⟨v3, e3, p1, p2, p3⟩ := t_Reader_next o0 h0 (by omega)
      rw [e3, bind1_s]
      by_cases c41 : v3 = (41 : Int32)
      · rw [if_pos c41]
        have v41 : v3.toInt = 41 := by rw [c41]; rfl
        obtain ⟨a, b, e, ra, rb, rW, rK, rT⟩ := t_Reader_releaseWaiting 0 o0 o1 o2 h0 h1 h2 hW
        have rT := rT rfl c
        have k10 := congrArg Int32.toInt (rK 10 0 (by decide)); have k3 := congrArg Int32.toInt (rK 3 0 (by decide)); have k2 := congrArg Int32.toInt (rK 2 0 (by decide))
        rw [e, bind2_s, show (inb (g32 a 10 0) 9) = true from inb_iff.mpr ⟨by omega, by omega⟩, chk_tr]
        have hk : ∀ x y, okReader x → okSteps y → WI 0 x → (g32 x 10 0).toInt < (n : Int) → ∃ (n0 n2 : Ob), F_Reader_closeGroups_0 o1 n x y = some (n0, n2) ∧ okReader n0 ∧ okSteps n2 ∧ WI 0 n0 := fun x y hx hy hWx hm => ih x y hx h1 hy hWx hm
        have st : ∀ w, ∃ (n0 n2 : Ob), F_Reader_closeGroups_64 o1 (F_Reader_closeGroups_0 o1 n) w (s32 a 6 0 ((g32 a 6 0) - (1 : Int32))) b = some (n0, n2) ∧ okReader n0 ∧ okSteps n2 ∧ WI 0 n0 := fun w =>
          cg_64 o1 n _ hk w _ b (okReader.ne ra (by decide) (by decide) (by decide)) h1 rb (WI.popg rW rT.1 rT.2) (by show (g32 a 3 0).toInt < (g32 a 2 0).toInt; omega) (by show (g32 a 10 0).toInt - 1 < (n : Int); omega)
        by_cases c8 : (g32 a 8 (Int32.toNatClampNeg (g32 a 10 0))) = 0
        · rw [if_pos c8]; exact st _
        · rw [if_neg c8]; exact st _
      · rw [if_neg c41]; exact ⟨o0, o2, rfl, h0, h2, hW⟩
theorem t_Reader_closeGroups (o0 o1 o2 : Ob) (g0 : okReader o0) (g1 : okText o1) (g2 : okSteps o2) (g3 : WI 0 o0) : ∃ (n0 n2 : Ob), F_Reader_closeGroups o0 o1 o2 = some (n0, n2) ∧ (okReader n0) ∧ (okSteps n2) ∧ (WI 0 n0) :=
  t_Reader_closeGroups_0 o1 fuel o0 o2 g0 g1 g2 g3 (by have := g3.rg; rw [fuel_eq]; omega)
theorem t_Reader_readOperator (o0 o1 o2 : Ob) (g0 : okReader o0) (g1 : okText o1) (g2 : okSteps o2) (g3 : WI 0 o0) : ∃ (r : Bool) (n0 n2 : Ob), F_Reader_readOperator o0 o1 o2 = some (r, n0, n2) ∧ (okReader n0) ∧ (okSteps n2) ∧ (WI 0 n0) := by
  have rg := g3.rg
  rw [F_Reader_readOperator]
  obtain ⟨v2, e2, p1, p2, p3⟩ := t_Reader_next o0 g0 (by omega)
  rw [e2, bind1_s]
  obtain ⟨v4, e4, p4⟩ := t_Reader_operatorOf v2
  rw [e4, bind1_s]
  by_cases c : v4 = 0
  · rw [if_pos c]; exact ⟨false, o0, o2, rfl, g0, g2, g3⟩
  · rw [if_neg c]
    have c2 : ¬ v4.toInt = 0 := fun z => c (Int32.toInt_inj.mp z)
    obtain ⟨v7, e7, _, _⟩ := t_Reader_shapeBy v4
    rw [e7, bind1_s]
    obtain ⟨a, b, e, ra, rb, rW, rK, _⟩ := t_Reader_releaseWaiting v7 o0 o1 o2 g0 g1 g2 g3
    have ka := rW.rg
    have k3 := congrArg Int32.toInt (rK 3 0 (by decide)); have k2 := congrArg Int32.toInt (rK 2 0 (by decide))
    rw [e, bind2_s]
    obtain ⟨m, em, rfl⟩ := t_Reader_hold v4 a ra (by omega) (by omega)
    rw [em, bind1_s, show (inb (g32 (s32 (s32 a 5 (Int32.toNatClampNeg (g32 a 6 0)) v4) 6 0 ((g32 a 6 0) + (1 : Int32))) 10 0) 9) = true from inb_iff.mpr ⟨by show 0 ≤ (g32 a 10 0).toInt; omega, by show (g32 a 10 0).toInt < _; omega⟩, chk_tr]
    have n9 : ¬ v4 = 9 := fun z => by
      have : v4.toInt = 9 := by rw [z]; rfl
      omega
    have n4 : ¬ v4 = 4 := fun z => by
      have : v4.toInt = 4 := by rw [z]; rfl
      omega
    exact ⟨true, _, b, rfl, okReader.ne (okReader.ne (okReader.ne (okReader.ne ra (by decide) (by decide) (by decide)) (by decide) (by decide) (by decide)) (by decide) (by decide) (by decide)) (by decide) (by decide) (by decide), rb, WI.push rW (by omega) n9 n4⟩
set_option maxHeartbeats 1000000 in
theorem t_Reader_passSign (o0 : Ob) (o1 : Ob) (g0 : okReader o0) (g1 : okText o1) (g2 : 0 ≤ (g32 o0 3 0).toInt) (g3 : (g32 o0 3 0).toInt ≤ (g32 o0 2 0).toInt) (g4 : cdn o1 ≤ 4) : ∃ (r : Bool) (n0 : Ob) (n1 : Ob), F_Reader_passSign o0 o1 = some (r, n0, n1) ∧ (okReader n0) ∧ (okText n1) ∧ (0 ≤ (g32 n0 3 0).toInt) ∧ ((g32 n0 3 0).toInt ≤ (g32 n0 2 0).toInt) ∧ ((g32 n1 1 0).toInt = (g32 o1 1 0).toInt) ∧ ((g32 n1 3 0).toInt = (g32 o1 3 0).toInt) ∧ ((g32 n1 11 0).toInt = (g32 o1 11 0).toInt) ∧ (cdn n1 ≤ cdn o1 + 1) := by
  obtain ⟨f1538, f1539, f1540, f1541⟩ := id g0
  obtain ⟨f1542, f1543, f1544, f1545, f1546, f1547, f1548, f1549, f1550⟩ := id g1
  rw [F_Reader_passSign]
  obtain ⟨v2, o_3, e1556, p1551, p1552, p1553, p1554, p1555⟩ := t_Reader_pass (60 : Int32) o0 (ok4_) (tu_) (tu_) (tu_)
  rw [e1556, bind2_s]
  obtain ⟨f1557, f1558, f1559, f1560⟩ := id p1551
  have f1561 := congrArg Int32.toInt (p1554 2 0 (by decide))
  have f1562 := congrArg Int32.toInt (p1554 6 0 (by decide))
  have f1563 := congrArg Int32.toInt (p1554 10 0 (by decide))
  have f1564 := congrArg Int32.toInt (p1554 11 0 (by decide))
  by_cases c1565 : (b2i v2) = 0
  · rw [if_pos c1565]
    have c1565 := b2i_0.mp c1565
    subst c1565
    obtain ⟨v8, o_9, e1571, p1566, p1567, p1568, p1569, p1570⟩ := t_Reader_pass (62 : Int32) o_3 (ok4_) (tu_) (tu_) (tu_)
    rw [e1571, bind2_s]
    obtain ⟨f1572, f1573, f1574, f1575⟩ := id p1566
    have f1576 := congrArg Int32.toInt (p1569 2 0 (by decide))
    have f1577 := congrArg Int32.toInt (p1569 6 0 (by decide))
    have f1578 := congrArg Int32.toInt (p1569 10 0 (by decide))
    have f1579 := congrArg Int32.toInt (p1569 11 0 (by decide))
    by_cases c1580 : (b2i v8) = 0
    · rw [if_pos c1580]
      have c1580 := b2i_0.mp c1580
      subst c1580
      obtain ⟨v14, o_15, e1586, p1581, p1582, p1583, p1584, p1585⟩ := t_Reader_pass (61 : Int32) o_9 (ok4_) (tu_) (tu_) (tu_)
      rw [e1586, bind2_s]
      obtain ⟨f1587, f1588, f1589, f1590⟩ := id p1581
      have f1591 := congrArg Int32.toInt (p1584 2 0 (by decide))
      have f1592 := congrArg Int32.toInt (p1584 6 0 (by decide))
      have f1593 := congrArg Int32.toInt (p1584 10 0 (by decide))
      have f1594 := congrArg Int32.toInt (p1584 11 0 (by decide))
      by_cases c1595 : (b2i v14) = 0
      · rw [if_pos c1595]
        have c1595 := b2i_0.mp c1595
        subst c1595
        refine ⟨_, _, _, rfl, ok4_, ok9_, tu_, tu_, tu_, tu_, tu_, tu_⟩
      · rw [if_neg c1595]
        have c1595 := b2i_1 c1595
        subst c1595
        obtain ⟨o_18, e1601, p1596, p1597, p1598, p1599, p1600⟩ := t_Text_countCondition o1 (ok9_) (tu_)
        rw [e1601, bind1_s]
        obtain ⟨f1602, f1603, f1604, f1605, f1606, f1607, f1608, f1609, f1610⟩ := id p1596
        refine ⟨_, _, _, rfl, ok4_, ok9_, tu_, tu_, tu_, tu_, tu_, tu_⟩
    · rw [if_neg c1580]
      have c1580 := b2i_1 c1580
      subst c1580
      obtain ⟨o_12, e1616, p1611, p1612, p1613, p1614, p1615⟩ := t_Text_countCondition o1 (ok9_) (tu_)
      rw [e1616, bind1_s]
      obtain ⟨f1617, f1618, f1619, f1620, f1621, f1622, f1623, f1624, f1625⟩ := id p1611
      refine ⟨_, _, _, rfl, ok4_, ok9_, tu_, tu_, tu_, tu_, tu_, tu_⟩
  · rw [if_neg c1565]
    have c1565 := b2i_1 c1565
    subst c1565
    obtain ⟨o_6, e1631, p1626, p1627, p1628, p1629, p1630⟩ := t_Text_countCondition o1 (ok9_) (tu_)
    rw [e1631, bind1_s]
    obtain ⟨f1632, f1633, f1634, f1635, f1636, f1637, f1638, f1639, f1640⟩ := id p1626
    refine ⟨_, _, _, rfl, ok4_, ok9_, tu_, tu_, tu_, tu_, tu_, tu_⟩
set_option maxHeartbeats 1000000 in
theorem t_Reader_print_2 (o0 : Ob) : ∀ (n : Nat) (x1 : Int32) (o1 : Ob), (okReader o0) → (okText o1) → (0 ≤ x1.toInt) → (x1.toInt ≤ 400) → ((g32 o1 1 0).toInt ≤ x1.toInt) → (OC o1) → (400 - x1.toInt < (n : Int)) → ∃ (n1 : Ob), F_Reader_print_2 o0 n x1 o1 = some n1 ∧ (okText n1) ∧ (OC n1) := by
  intro n
  induction n with
  | zero =>
    intro x1 o1 g0 g1 g2 g3 g4 g5 g6
    obtain ⟨f1641, f1642, f1643, f1644⟩ := id g0
    obtain ⟨f1645, f1646, f1647, f1648, f1649, f1650, f1651, f1652, f1653⟩ := id g1
    exfalso
    (try simp (disch := (first | omega | (simp only [Int32.reduceToInt]; omega) | (simp (disch := first | omega | (simp only [Int32.reduceToInt]; omega)) only [tadd, tsub, mul6, neg1, Int32.reduceToInt]; omega))) only [neg1, mul6, g_s, g_l, tadd, tsub, inb_iff, Int32.lt_iff_toInt_lt, Int32.le_iff_toInt_le, i32_eq, b2i_0, Int32.reduceToInt, reduceIte, Nat.reduceEqDiff] at g6)
    exact ari_
  | succ n ih =>
    intro x1 o1 g0 g1 g2 g3 g4 g5 g6
    obtain ⟨f1654, f1655, f1656, f1657⟩ := id g0
    obtain ⟨f1658, f1659, f1660, f1661, f1662, f1663, f1664, f1665, f1666⟩ := id g1
    rw [F_Reader_print_2]
    (try simp (disch := (first | omega | (simp only [Int32.reduceToInt]; omega) | (simp (disch := first | omega | (simp only [Int32.reduceToInt]; omega)) only [tadd, tsub, mul6, neg1, Int32.reduceToInt]; omega))) only [neg1, mul6, g_s, g_l, tadd, tsub, inb_iff, Int32.lt_iff_toInt_lt, Int32.le_iff_toInt_le, i32_eq, b2i_0, Int32.reduceToInt, reduceIte, Nat.reduceEqDiff] at g6)
    by_cases c1667 : (g32 o0 2 0) ≤ x1
    · rw [if_pos c1667]
      (try simp (disch := (first | omega | (simp only [Int32.reduceToInt]; omega) | (simp (disch := first | omega | (simp only [Int32.reduceToInt]; omega)) only [tadd, tsub, mul6, neg1, Int32.reduceToInt]; omega))) only [neg1, mul6, g_s, g_l, tadd, tsub, inb_iff, Int32.lt_iff_toInt_lt, Int32.le_iff_toInt_le, i32_eq, b2i_0, Int32.reduceToInt, reduceIte, Nat.reduceEqDiff] at c1667)
      refine ⟨_, rfl, ok9_, oc_⟩
    · rw [if_neg c1667]
      (try simp (disch := (first | omega | (simp only [Int32.reduceToInt]; omega) | (simp (disch := first | omega | (simp only [Int32.reduceToInt]; omega)) only [tadd, tsub, mul6, neg1, Int32.reduceToInt]; omega))) only [neg1, mul6, g_s, g_l, tadd, tsub, inb_iff, Int32.lt_iff_toInt_lt, Int32.le_iff_toInt_le, i32_eq, b2i_0, Int32.reduceToInt, reduceIte, Nat.reduceEqDiff] at c1667)
      rw [show (inb x1 400) = true from inb_iff.mpr ⟨tu_, tu_⟩, chk_tr]
      by_cases c1668 : (g32 o0 1 (Int32.toNatClampNeg x1)) = 0
      · rw [if_pos c1668]
        (try simp (disch := (first | omega | (simp only [Int32.reduceToInt]; omega) | (simp (disch := first | omega | (simp only [Int32.reduceToInt]; omega)) only [tadd, tsub, mul6, neg1, Int32.reduceToInt]; omega))) only [neg1, mul6, g_s, g_l, tadd, tsub, inb_iff, Int32.lt_iff_toInt_lt, Int32.le_iff_toInt_le, i32_eq, b2i_0, Int32.reduceToInt, reduceIte, Nat.reduceEqDiff] at c1668)
        rw [show (inb (g32 o1 1 0) 400) = true from inb_iff.mpr ⟨tu_, tu_⟩, chk_tr]
        have a1669 := f1656 (Int32.toNatClampNeg x1)
        obtain ⟨y1670, e1673, p1671, p1672⟩ := ih (x1 + (1 : Int32)) (s32 (s32 o1 0 (Int32.toNatClampNeg (g32 o1 1 0)) (vp_nar .char (g32 o0 0 (Int32.toNatClampNeg x1)))) 1 0 ((g32 o1 1 0) + (1 : Int32))) (ok4_) (ok9_) (tu_) (tu_) (tu_) (oc_) tu_
        obtain ⟨f1674, f1675, f1676, f1677, f1678, f1679, f1680, f1681, f1682⟩ := id p1671
        refine ⟨y1670, e1673, ok9_, oc_⟩
      · rw [if_neg c1668]
        (try simp (disch := (first | omega | (simp only [Int32.reduceToInt]; omega) | (simp (disch := first | omega | (simp only [Int32.reduceToInt]; omega)) only [tadd, tsub, mul6, neg1, Int32.reduceToInt]; omega))) only [neg1, mul6, g_s, g_l, tadd, tsub, inb_iff, Int32.lt_iff_toInt_lt, Int32.le_iff_toInt_le, i32_eq, b2i_0, Int32.reduceToInt, reduceIte, Nat.reduceEqDiff] at c1668)
        obtain ⟨y1683, e1686, p1684, p1685⟩ := ih (x1 + (1 : Int32)) o1 (ok4_) (ok9_) (tu_) (tu_) (tu_) (oc_) tu_
        obtain ⟨f1687, f1688, f1689, f1690, f1691, f1692, f1693, f1694, f1695⟩ := id p1684
        refine ⟨y1683, e1686, ok9_, oc_⟩
set_option maxHeartbeats 1000000 in
theorem t_Reader_print (o0 : Ob) (o1 : Ob) (g0 : okReader o0) (g1 : okText o1) (g2 : (g32 o1 1 0).toInt = 0) (g3 : OC o1) : ∃ (n1 : Ob), F_Reader_print o0 o1 = some n1 ∧ (okText n1) ∧ (OC n1) := by
  obtain ⟨f1696, f1697, f1698, f1699⟩ := id g0
  obtain ⟨f1700, f1701, f1702, f1703, f1704, f1705, f1706, f1707, f1708⟩ := id g1
  rw [F_Reader_print]
  obtain ⟨y1709, e1712, p1710, p1711⟩ := t_Reader_print_2 o0 fuel (0 : Int32) o1 (ok4_) (ok9_) (tu_) (tu_) (tu_) (oc_) tu_
  obtain ⟨f1713, f1714, f1715, f1716, f1717, f1718, f1719, f1720, f1721⟩ := id p1710
  refine ⟨y1709, e1712, ok9_, oc_⟩
theorem cellno {p m : Int32} (h0 : 0 ≤ p.toInt) (h1 : p.toInt < 10) (h2 : 0 ≤ m.toInt) (h3 : m.toInt < 6) : (((6 : Int32) * p) + m).toInt = 6 * p.toInt + m.toInt := by
  have e6 : (6 : Int32).toInt = 6 := rfl
  have e : ((6 : Int32) * p).toInt = 6 * p.toInt := by
    have q := tmul (a := (6 : Int32)) (b := p) (by rw [e6]; omega) (by rw [e6]; omega)
    rw [q, e6]
  rw [tadd (by omega) (by omega), e]
theorem idxB_rg (c : Int32) : -1 ≤ (idxB c).toInt ∧ (idxB c).toInt < 6 := by
  unfold idxB
  split
  · decide
  split
  · decide
  split
  · decide
  split
  · decide
  split
  · decide
  split
  · decide
  decide
theorem idxOf_rg (x : Int32) : -1 ≤ (idxOf x).toInt ∧ (idxOf x).toInt < 6 ∧ (0 ≤ (idxOf x).toInt → 1 ≤ x.toInt) := by
  unfold idxOf
  by_cases c1 : x < 0
  · rw [if_pos c1]; exact ⟨by decide, by decide, fun h => absurd h (by decide)⟩
  rw [if_neg c1]
  by_cases c2 : 255 < x
  · rw [if_pos c2]; exact ⟨by decide, by decide, fun h => absurd h (by decide)⟩
  rw [if_neg c2]
  have b := idxB_rg (i2b x)
  refine ⟨b.1, b.2, fun h => ?_⟩
  by_cases c3 : x = 0
  · rw [c3] at h; exact absurd h (by decide)
  · have c4 : ¬ x.toInt = 0 := fun z => c3 (Int32.toInt_inj.mp z)
    have c5 : ¬ x.toInt < 0 := fun z => c1 (Int32.lt_iff_toInt_lt.mpr z)
    omega
theorem t_Reader_readCellName (o0 : Ob) (g0 : okReader o0) (g1 : 0 ≤ (g32 o0 3 0).toInt) (g2 : (g32 o0 3 0).toInt ≤ (g32 o0 2 0).toInt) : ∃ (r : Int32) (n0 : Ob), F_Reader_readCellName o0 = some (r, n0) ∧ (okReader n0) ∧ (0 ≤ (g32 n0 3 0).toInt) ∧ ((g32 n0 3 0).toInt ≤ (g32 n0 2 0).toInt) ∧ (KE 3 o0 n0) ∧ ((g32 o0 3 0).toInt ≤ (g32 n0 3 0).toInt) ∧ (-1 ≤ r.toInt) ∧ (r.toInt < 60) := by
  obtain ⟨f1, f2, f3, f4⟩ := id g0
  rw [F_Reader_readCellName]
  obtain ⟨v2, e2, p1, p2, p3⟩ := t_Reader_next o0 g0 g1
  rw [e2, bind1_s]
  have e65 : (65 : Int32).toInt = 65 := rfl
  have ev : (v2 - (65 : Int32)).toInt = v2.toInt - 65 := by
    rw [tsub (by omega) (by omega), e65]
  have z0 : (0 : Int32).toInt = 0 := rfl
  have z10 : (10 : Int32).toInt = 10 := rfl
  have m1 : (-1 : Int32).toInt = -1 := rfl
  by_cases c : (v2 - (65 : Int32)) < 0
  · rw [if_pos c]; exact ⟨_, o0, rfl, g0, g1, g2, KE.refl, Int.le_refl _, by omega, by omega⟩
  · rw [if_neg c]
    have c : ¬ (v2 - (65 : Int32)).toInt < 0 := fun z => c (Int32.lt_iff_toInt_lt.mpr (by omega))
    by_cases d : (v2 - (65 : Int32)) < (10 : Int32)
    · rw [if_pos d]
      have d := Int32.lt_iff_toInt_lt.mp d
      have hl : (g32 o0 3 0).toInt < (g32 o0 2 0).toInt := by omega
      have ea := add1 (x := g32 o0 3 0) (by omega)
      have h0a : okReader (s32 o0 3 0 ((g32 o0 3 0) + (1 : Int32))) := okReader.ne g0 (by decide) (by decide) (by decide)
      obtain ⟨v6, e6, q1, q2, q3⟩ := t_Reader_next (s32 o0 3 0 ((g32 o0 3 0) + (1 : Int32))) h0a (by show 0 ≤ ((g32 o0 3 0) + (1 : Int32)).toInt; omega)
      have q3 : v6.toInt = 0 ∨ ((g32 o0 3 0) + (1 : Int32)).toInt < (g32 o0 2 0).toInt := q3
      rw [e6, bind1_s]
      have ix := idxOf_rg v6
      by_cases w : 0 ≤ idxOf v6
      · rw [if_pos w]
        have w := Int32.le_iff_toInt_le.mp w
        have eb := add1 (x := (g32 o0 3 0) + (1 : Int32)) (by omega)
        have ec := cellno (p := v2 - (65 : Int32)) (m := idxOf v6) (by omega) (by omega) (by omega) (by omega)
        exact ⟨_, _, rfl, okReader.ne h0a (by decide) (by decide) (by decide), by show 0 ≤ (((g32 o0 3 0) + (1 : Int32)) + (1 : Int32)).toInt; omega, by show (((g32 o0 3 0) + (1 : Int32)) + (1 : Int32)).toInt ≤ (g32 o0 2 0).toInt; omega, KE.s (KE.s KE.refl), by show (g32 o0 3 0).toInt ≤ (((g32 o0 3 0) + (1 : Int32)) + (1 : Int32)).toInt; omega, by omega, by omega⟩
      · rw [if_neg w]
        exact ⟨_, _, rfl, h0a, by show 0 ≤ ((g32 o0 3 0) + (1 : Int32)).toInt; omega, by show ((g32 o0 3 0) + (1 : Int32)).toInt ≤ (g32 o0 2 0).toInt; omega, KE.s KE.refl, by show (g32 o0 3 0).toInt ≤ ((g32 o0 3 0) + (1 : Int32)).toInt; omega, by omega, by omega⟩
    · rw [if_neg d]; exact ⟨_, o0, rfl, g0, g1, g2, KE.refl, Int.le_refl _, by omega, by omega⟩
set_option maxHeartbeats 1000000 in
theorem t_Reader_readFactor_146 (o0 : Ob) (o1 : Ob) (o2 : Ob) (g0 : okReader o0) (g1 : okText o1) (g2 : okSteps o2) (g3 : WI 0 o0) : ∃ (r : Bool) (n0 : Ob) (n1 : Ob) (n2 : Ob), F_Reader_readFactor_146 o0 o1 o2 = some (r, n0, n1, n2) ∧ (okReader n0) ∧ (okText n1) ∧ (okSteps n2) ∧ (WI 0 n0) ∧ (TK o1 n1) := by
  obtain ⟨f1722, f1723, f1724, f1725⟩ := id g0
  obtain ⟨f1726, f1727, f1728, f1729, f1730, f1731, f1732, f1733, f1734⟩ := id g1
  obtain ⟨f1735, f1736, f1737, f1738, f1739, f1740⟩ := id g2
  obtain ⟨f1741, f1742, f1743, f1744, f1745, f1746, f1747, f1748⟩ := WI.rg g3
  rw [F_Reader_readFactor_146]
  obtain ⟨v37, o_38, e1756, p1749, p1750, p1751, p1752, p1753, p1754, p1755⟩ := t_Reader_readCellName o0 (ok4_) (tu_) (tu_)
  rw [e1756, bind2_s]
  obtain ⟨f1757, f1758, f1759, f1760⟩ := id p1749
  have f1761 := congrArg Int32.toInt (p1752 2 0 (by decide))
  have f1762 := congrArg Int32.toInt (p1752 6 0 (by decide))
  have f1763 := congrArg Int32.toInt (p1752 10 0 (by decide))
  have f1764 := congrArg Int32.toInt (p1752 11 0 (by decide))
  by_cases c1765 : v37 = (-1 : Int32)
  · rw [if_pos c1765]
    (try simp (disch := (first | omega | (simp only [Int32.reduceToInt]; omega) | (simp (disch := first | omega | (simp only [Int32.reduceToInt]; omega)) only [tadd, tsub, mul6, neg1, Int32.reduceToInt]; omega))) only [neg1, mul6, g_s, g_l, tadd, tsub, inb_iff, Int32.lt_iff_toInt_lt, Int32.le_iff_toInt_le, i32_eq, b2i_0, Int32.reduceToInt, reduceIte, Nat.reduceEqDiff] at c1765)
    refine ⟨_, _, _, _, rfl, ok4_, ok9_, ok6_, wi_, tk_⟩
  · rw [if_neg c1765]
    (try simp (disch := (first | omega | (simp only [Int32.reduceToInt]; omega) | (simp (disch := first | omega | (simp only [Int32.reduceToInt]; omega)) only [tadd, tsub, mul6, neg1, Int32.reduceToInt]; omega))) only [neg1, mul6, g_s, g_l, tadd, tsub, inb_iff, Int32.lt_iff_toInt_lt, Int32.le_iff_toInt_le, i32_eq, b2i_0, Int32.reduceToInt, reduceIte, Nat.reduceEqDiff] at c1765)
    obtain ⟨o_41, o_42, e1769, p1766, p1767, p1768⟩ := t_Text_mentionCell v37 o1 o2 (ok9_) (ok6_) (tu_) (tu_)
    rw [e1769, bind2_s]
    obtain ⟨f1770, f1771, f1772, f1773, f1774, f1775, f1776, f1777, f1778⟩ := id p1766
    obtain ⟨f1779, f1780, f1781, f1782, f1783, f1784⟩ := id p1767
    have f1785 := congrArg Int32.toInt p1768.1
    have f1786 := congrArg Int32.toInt p1768.2.1
    have f1787 := congrArg Int32.toInt p1768.2.2.1
    have f1788 := TK.cd p1768
    obtain ⟨o_44, o_45, e1793, p1789, p1790, p1791, p1792⟩ := t_Reader_releaseNegations o_38 o_41 o_42 (ok4_) (ok9_) (ok6_) (wi_)
    rw [e1793, bind2_s]
    obtain ⟨f1794, f1795, f1796, f1797⟩ := id p1789
    obtain ⟨f1798, f1799, f1800, f1801, f1802, f1803⟩ := id p1790
    obtain ⟨f1804, f1805, f1806, f1807, f1808, f1809, f1810, f1811⟩ := WI.rg p1791
    refine ⟨_, _, _, _, rfl, ok4_, ok9_, ok6_, wi_, tk_⟩
set_option maxHeartbeats 1000000 in
theorem t_Reader_readFactor_107 (x1 : Int32) (o0 : Ob) (o1 : Ob) (o2 : Ob) (g0 : okReader o0) (g1 : okText o1) (g2 : okSteps o2) (g3 : WI 0 o0) (g4 : 0 ≤ x1.toInt) (g5 : x1.toInt ≤ 65535) (g6 : x1.toInt = 0 ∨ (g32 o0 3 0).toInt < (g32 o0 2 0).toInt) : ∃ (r : Bool) (n0 : Ob) (n1 : Ob) (n2 : Ob), F_Reader_readFactor_107 x1 o0 o1 o2 = some (r, n0, n1, n2) ∧ (okReader n0) ∧ (okText n1) ∧ (okSteps n2) ∧ (WI 0 n0) ∧ (TK o1 n1) := by
  obtain ⟨f1812, f1813, f1814, f1815⟩ := id g0
  obtain ⟨f1816, f1817, f1818, f1819, f1820, f1821, f1822, f1823, f1824⟩ := id g1
  obtain ⟨f1825, f1826, f1827, f1828, f1829, f1830⟩ := id g2
  obtain ⟨f1831, f1832, f1833, f1834, f1835, f1836, f1837, f1838⟩ := WI.rg g3
  rw [F_Reader_readFactor_107]
  by_cases c1839 : x1 < (97 : Int32)
  · rw [if_pos c1839]
    (try simp (disch := (first | omega | (simp only [Int32.reduceToInt]; omega) | (simp (disch := first | omega | (simp only [Int32.reduceToInt]; omega)) only [tadd, tsub, mul6, neg1, Int32.reduceToInt]; omega))) only [neg1, mul6, g_s, g_l, tadd, tsub, inb_iff, Int32.lt_iff_toInt_lt, Int32.le_iff_toInt_le, i32_eq, b2i_0, Int32.reduceToInt, reduceIte, Nat.reduceEqDiff] at c1839)
    obtain ⟨y1840, y1841, y1842, y1843, e1849, p1844, p1845, p1846, p1847, p1848⟩ := t_Reader_readFactor_146 o0 o1 o2 (ok4_) (ok9_) (ok6_) (wi_)
    obtain ⟨f1850, f1851, f1852, f1853⟩ := id p1844
    obtain ⟨f1854, f1855, f1856, f1857, f1858, f1859, f1860, f1861, f1862⟩ := id p1845
    obtain ⟨f1863, f1864, f1865, f1866, f1867, f1868⟩ := id p1846
    obtain ⟨f1869, f1870, f1871, f1872, f1873, f1874, f1875, f1876⟩ := WI.rg p1847
    have f1877 := congrArg Int32.toInt p1848.1
    have f1878 := congrArg Int32.toInt p1848.2.1
    have f1879 := congrArg Int32.toInt p1848.2.2.1
    have f1880 := TK.cd p1848
    refine ⟨y1840, y1841, y1842, y1843, e1849, ok4_, ok9_, ok6_, wi_, tk_⟩
  · rw [if_neg c1839]
    (try simp (disch := (first | omega | (simp only [Int32.reduceToInt]; omega) | (simp (disch := first | omega | (simp only [Int32.reduceToInt]; omega)) only [tadd, tsub, mul6, neg1, Int32.reduceToInt]; omega))) only [neg1, mul6, g_s, g_l, tadd, tsub, inb_iff, Int32.lt_iff_toInt_lt, Int32.le_iff_toInt_le, i32_eq, b2i_0, Int32.reduceToInt, reduceIte, Nat.reduceEqDiff] at c1839)
    by_cases c1881 : (8 : Int32) ≤ (x1 - (97 : Int32))
    · rw [if_pos c1881]
      (try simp (disch := (first | omega | (simp only [Int32.reduceToInt]; omega) | (simp (disch := first | omega | (simp only [Int32.reduceToInt]; omega)) only [tadd, tsub, mul6, neg1, Int32.reduceToInt]; omega))) only [neg1, mul6, g_s, g_l, tadd, tsub, inb_iff, Int32.lt_iff_toInt_lt, Int32.le_iff_toInt_le, i32_eq, b2i_0, Int32.reduceToInt, reduceIte, Nat.reduceEqDiff] at c1881)
      obtain ⟨y1882, y1883, y1884, y1885, e1891, p1886, p1887, p1888, p1889, p1890⟩ := t_Reader_readFactor_146 o0 o1 o2 (ok4_) (ok9_) (ok6_) (wi_)
      obtain ⟨f1892, f1893, f1894, f1895⟩ := id p1886
      obtain ⟨f1896, f1897, f1898, f1899, f1900, f1901, f1902, f1903, f1904⟩ := id p1887
      obtain ⟨f1905, f1906, f1907, f1908, f1909, f1910⟩ := id p1888
      obtain ⟨f1911, f1912, f1913, f1914, f1915, f1916, f1917, f1918⟩ := WI.rg p1889
      have f1919 := congrArg Int32.toInt p1890.1
      have f1920 := congrArg Int32.toInt p1890.2.1
      have f1921 := congrArg Int32.toInt p1890.2.2.1
      have f1922 := TK.cd p1890
      refine ⟨y1882, y1883, y1884, y1885, e1891, ok4_, ok9_, ok6_, wi_, tk_⟩
    · rw [if_neg c1881]
      (try simp (disch := (first | omega | (simp only [Int32.reduceToInt]; omega) | (simp (disch := first | omega | (simp only [Int32.reduceToInt]; omega)) only [tadd, tsub, mul6, neg1, Int32.reduceToInt]; omega))) only [neg1, mul6, g_s, g_l, tadd, tsub, inb_iff, Int32.lt_iff_toInt_lt, Int32.le_iff_toInt_le, i32_eq, b2i_0, Int32.reduceToInt, reduceIte, Nat.reduceEqDiff] at c1881)
      obtain ⟨o_31, o_32, e1926, p1923, p1924, p1925⟩ := t_Text_mentionOption (x1 - (97 : Int32)) o1 o2 (ok9_) (ok6_) (tu_) (tu_)
      rw [e1926, bind2_s]
      obtain ⟨f1927, f1928, f1929, f1930, f1931, f1932, f1933, f1934, f1935⟩ := id p1923
      obtain ⟨f1936, f1937, f1938, f1939, f1940, f1941⟩ := id p1924
      have f1942 := congrArg Int32.toInt p1925.1
      have f1943 := congrArg Int32.toInt p1925.2.1
      have f1944 := congrArg Int32.toInt p1925.2.2.1
      have f1945 := TK.cd p1925
      obtain ⟨o_34, o_35, e1950, p1946, p1947, p1948, p1949⟩ := t_Reader_releaseNegations (s32 o0 3 0 ((g32 o0 3 0) + (1 : Int32))) o_31 o_32 (ok4_) (ok9_) (ok6_) (wi_)
      rw [e1950, bind2_s]
      obtain ⟨f1951, f1952, f1953, f1954⟩ := id p1946
      obtain ⟨f1955, f1956, f1957, f1958, f1959, f1960⟩ := id p1947
      obtain ⟨f1961, f1962, f1963, f1964, f1965, f1966, f1967, f1968⟩ := WI.rg p1948
      (try simp (disch := (first | omega | (simp only [Int32.reduceToInt]; omega) | (simp (disch := first | omega | (simp only [Int32.reduceToInt]; omega)) only [tadd, tsub, mul6, neg1, Int32.reduceToInt]; omega))) only [neg1, mul6, g_s, g_l, tadd, tsub, inb_iff, Int32.lt_iff_toInt_lt, Int32.le_iff_toInt_le, i32_eq, b2i_0, Int32.reduceToInt, reduceIte, Nat.reduceEqDiff] at p1949)
      refine ⟨_, _, _, _, rfl, ok4_, ok9_, ok6_, wi_, tk_⟩
set_option maxHeartbeats 1000000 in
theorem t_Reader_readFactor_71 (o0 : Ob) (o1 : Ob) (o2 : Ob) (g0 : okReader o0) (g1 : okText o1) (g2 : okSteps o2) (g3 : WI 0 o0) : ∃ (r : Bool) (n0 : Ob) (n1 : Ob) (n2 : Ob), F_Reader_readFactor_71 o0 o1 o2 = some (r, n0, n1, n2) ∧ (okReader n0) ∧ (okText n1) ∧ (okSteps n2) ∧ (WI 0 n0) ∧ (TK o1 n1) := by
  obtain ⟨f1969, f1970, f1971, f1972⟩ := id g0
  obtain ⟨f1973, f1974, f1975, f1976, f1977, f1978, f1979, f1980, f1981⟩ := id g1
  obtain ⟨f1982, f1983, f1984, f1985, f1986, f1987⟩ := id g2
  obtain ⟨f1988, f1989, f1990, f1991, f1992, f1993, f1994, f1995⟩ := WI.rg g3
  rw [F_Reader_readFactor_71]
  rw [show (inb (g32 o0 10 0) 9) = true from inb_iff.mpr ⟨tu_, tu_⟩, chk_tr]
  obtain ⟨v10, e1999, p1996, p1997, p1998⟩ := t_Reader_next (s32 o0 9 (Int32.toNatClampNeg (g32 o0 10 0)) (0 : Int32)) (ok4_) (tu_)
  rw [e1999, bind1_s]
  (try simp (disch := (first | omega | (simp only [Int32.reduceToInt]; omega) | (simp (disch := first | omega | (simp only [Int32.reduceToInt]; omega)) only [tadd, tsub, mul6, neg1, Int32.reduceToInt]; omega))) only [neg1, mul6, g_s, g_l, tadd, tsub, inb_iff, Int32.lt_iff_toInt_lt, Int32.le_iff_toInt_le, i32_eq, b2i_0, Int32.reduceToInt, reduceIte, Nat.reduceEqDiff] at p1998)
  by_cases c2000 : v10 < (48 : Int32)
  · rw [if_pos c2000]
    (try simp (disch := (first | omega | (simp only [Int32.reduceToInt]; omega) | (simp (disch := first | omega | (simp only [Int32.reduceToInt]; omega)) only [tadd, tsub, mul6, neg1, Int32.reduceToInt]; omega))) only [neg1, mul6, g_s, g_l, tadd, tsub, inb_iff, Int32.lt_iff_toInt_lt, Int32.le_iff_toInt_le, i32_eq, b2i_0, Int32.reduceToInt, reduceIte, Nat.reduceEqDiff] at c2000)
    obtain ⟨y2001, y2002, y2003, y2004, e2010, p2005, p2006, p2007, p2008, p2009⟩ := t_Reader_readFactor_107 v10 (s32 o0 9 (Int32.toNatClampNeg (g32 o0 10 0)) (0 : Int32)) o1 o2 (ok4_) (ok9_) (ok6_) (wi_) (tu_) (tu_) (tu_)
    obtain ⟨f2011, f2012, f2013, f2014⟩ := id p2005
    obtain ⟨f2015, f2016, f2017, f2018, f2019, f2020, f2021, f2022, f2023⟩ := id p2006
    obtain ⟨f2024, f2025, f2026, f2027, f2028, f2029⟩ := id p2007
    obtain ⟨f2030, f2031, f2032, f2033, f2034, f2035, f2036, f2037⟩ := WI.rg p2008
    have f2038 := congrArg Int32.toInt p2009.1
    have f2039 := congrArg Int32.toInt p2009.2.1
    have f2040 := congrArg Int32.toInt p2009.2.2.1
    have f2041 := TK.cd p2009
    refine ⟨y2001, y2002, y2003, y2004, e2010, ok4_, ok9_, ok6_, wi_, tk_⟩
  · rw [if_neg c2000]
    (try simp (disch := (first | omega | (simp only [Int32.reduceToInt]; omega) | (simp (disch := first | omega | (simp only [Int32.reduceToInt]; omega)) only [tadd, tsub, mul6, neg1, Int32.reduceToInt]; omega))) only [neg1, mul6, g_s, g_l, tadd, tsub, inb_iff, Int32.lt_iff_toInt_lt, Int32.le_iff_toInt_le, i32_eq, b2i_0, Int32.reduceToInt, reduceIte, Nat.reduceEqDiff] at c2000)
    by_cases c2042 : (57 : Int32) < v10
    · rw [if_pos c2042]
      (try simp (disch := (first | omega | (simp only [Int32.reduceToInt]; omega) | (simp (disch := first | omega | (simp only [Int32.reduceToInt]; omega)) only [tadd, tsub, mul6, neg1, Int32.reduceToInt]; omega))) only [neg1, mul6, g_s, g_l, tadd, tsub, inb_iff, Int32.lt_iff_toInt_lt, Int32.le_iff_toInt_le, i32_eq, b2i_0, Int32.reduceToInt, reduceIte, Nat.reduceEqDiff] at c2042)
      obtain ⟨y2043, y2044, y2045, y2046, e2052, p2047, p2048, p2049, p2050, p2051⟩ := t_Reader_readFactor_107 v10 (s32 o0 9 (Int32.toNatClampNeg (g32 o0 10 0)) (0 : Int32)) o1 o2 (ok4_) (ok9_) (ok6_) (wi_) (tu_) (tu_) (tu_)
      obtain ⟨f2053, f2054, f2055, f2056⟩ := id p2047
      obtain ⟨f2057, f2058, f2059, f2060, f2061, f2062, f2063, f2064, f2065⟩ := id p2048
      obtain ⟨f2066, f2067, f2068, f2069, f2070, f2071⟩ := id p2049
      obtain ⟨f2072, f2073, f2074, f2075, f2076, f2077, f2078, f2079⟩ := WI.rg p2050
      have f2080 := congrArg Int32.toInt p2051.1
      have f2081 := congrArg Int32.toInt p2051.2.1
      have f2082 := congrArg Int32.toInt p2051.2.2.1
      have f2083 := TK.cd p2051
      refine ⟨y2043, y2044, y2045, y2046, e2052, ok4_, ok9_, ok6_, wi_, tk_⟩
    · rw [if_neg c2042]
      (try simp (disch := (first | omega | (simp only [Int32.reduceToInt]; omega) | (simp (disch := first | omega | (simp only [Int32.reduceToInt]; omega)) only [tadd, tsub, mul6, neg1, Int32.reduceToInt]; omega))) only [neg1, mul6, g_s, g_l, tadd, tsub, inb_iff, Int32.lt_iff_toInt_lt, Int32.le_iff_toInt_le, i32_eq, b2i_0, Int32.reduceToInt, reduceIte, Nat.reduceEqDiff] at c2042)
      obtain ⟨v14, o_15, o_16, e2087, p2084, p2085, p2086⟩ := t_Reader_readNumber (s32 o0 9 (Int32.toNatClampNeg (g32 o0 10 0)) (0 : Int32)) o1 o2 (ok4_) (ok9_) (ok6_) (wi_)
      rw [e2087, bind3_s]
      obtain ⟨f2088, f2089, f2090, f2091⟩ := id p2084
      obtain ⟨f2092, f2093, f2094, f2095, f2096, f2097⟩ := id p2085
      obtain ⟨f2098, f2099, f2100, f2101, f2102, f2103, f2104, f2105⟩ := WI.rg p2086
      by_cases c2106 : (b2i v14) = 0
      · rw [if_pos c2106]
        have c2106 := b2i_0.mp c2106
        subst c2106
        refine ⟨_, _, _, _, rfl, ok4_, ok9_, ok6_, wi_, tk_⟩
      · rw [if_neg c2106]
        have c2106 := b2i_1 c2106
        subst c2106
        obtain ⟨o_19, o_20, e2111, p2107, p2108, p2109, p2110⟩ := t_Reader_releaseNegations o_15 o1 o_16 (ok4_) (ok9_) (ok6_) (wi_)
        rw [e2111, bind2_s]
        obtain ⟨f2112, f2113, f2114, f2115⟩ := id p2107
        obtain ⟨f2116, f2117, f2118, f2119, f2120, f2121⟩ := id p2108
        obtain ⟨f2122, f2123, f2124, f2125, f2126, f2127, f2128, f2129⟩ := WI.rg p2109
        refine ⟨_, _, _, _, rfl, ok4_, ok9_, ok6_, wi_, tk_⟩
theorem t_Reader_readFactor_27 (o0 o1 o2 : Ob) (M0 : Int) (k0 : Ob → Ob → Ob → Option (Bool × Ob × Ob × Ob)) (hk0 : ∀ (o0 : Ob) (o1 : Ob) (o2 : Ob), (okReader o0) → (okText o1) → (okSteps o2) → (WI 0 o0) → (8 - (g32 o0 11 0).toInt < M0) → ∃ (r : Bool) (n0 : Ob) (n1 : Ob) (n2 : Ob), k0 o0 o1 o2 = some (r, n0, n1, n2) ∧ (okReader n0) ∧ (okText n1) ∧ (okSteps n2) ∧ (WI 0 n0) ∧ (TK o1 n1)) (g0 : okReader o0) (g1 : okText o1) (g2 : okSteps o2) (g3 : WI 0 o0) (g4 : (g32 o0 3 0).toInt < (g32 o0 2 0).toInt) (g5 : (g32 o0 11 0).toInt < 8) (g6 : 8 - (g32 o0 11 0).toInt - 1 < M0) : ∃ (r : Bool) (n0 : Ob) (n1 : Ob) (n2 : Ob), F_Reader_readFactor_27 k0 o0 o1 o2 = some (r, n0, n1, n2) ∧ (okReader n0) ∧ (okText n1) ∧ (okSteps n2) ∧ (WI 0 n0) ∧ (TK o1 n1) := by
  have rg := g3.rg
  obtain ⟨f1, f2, f3, f4⟩ := id g0
  rw [F_Reader_readFactor_27]
  obtain ⟨v, e, _⟩ := t_Reader_next o0 g0 (by omega)
  have e11 := add1 (x := g32 o0 11 0) (by omega)
  have e10 := add1 (x := g32 o0 10 0) (by omega)
  rw [e, bind1_s]
  by_cases c : v = (45 : Int32)
  · rw [if_pos c]
    obtain ⟨m, em, rfl⟩ := t_Reader_hold 4 o0 g0 (by omega) (by omega)
    rw [em, bind1_s]
    exact hk0 _ o1 o2 (okReader.ne (okReader.ne (okReader.ne (okReader.ne g0 (by decide) (by decide) (by decide)) (by decide) (by decide) (by decide)) (by decide) (by decide) (by decide)) (by decide) (by decide) (by decide)) g1 g2 (WI.neg g3 g4 g5) (by show 8 - ((g32 o0 11 0) + (1 : Int32)).toInt < M0; omega)
  · rw [if_neg c, F_Reader_openGroup]
    obtain ⟨m, em, rfl⟩ := t_Reader_hold 9 o0 g0 (by omega) (by omega)
    rw [em, bind1_s, show (inb ((g32 (s32 (s32 o0 5 (Int32.toNatClampNeg (g32 o0 6 0)) 9) 6 0 ((g32 o0 6 0) + (1 : Int32))) 10 0) + (1 : Int32)) 9) = true from inb_iff.mpr ⟨by show 0 ≤ ((g32 o0 10 0) + (1 : Int32)).toInt; omega, by show ((g32 o0 10 0) + (1 : Int32)).toInt < _; omega⟩, chk_tr, bind1_s]
    have h7 : okReader (s32 (s32 (s32 o0 5 (Int32.toNatClampNeg (g32 o0 6 0)) 9) 6 0 ((g32 o0 6 0) + (1 : Int32))) 10 0 ((g32 o0 10 0) + (1 : Int32))) := okReader.ne (okReader.ne (okReader.ne g0 (by decide) (by decide) (by decide)) (by decide) (by decide) (by decide)) (by decide) (by decide) (by decide)
    have h8 : okReader (s32 (s32 (s32 (s32 o0 5 (Int32.toNatClampNeg (g32 o0 6 0)) 9) 6 0 ((g32 o0 6 0) + (1 : Int32))) 10 0 ((g32 o0 10 0) + (1 : Int32))) 7 (Int32.toNatClampNeg ((g32 o0 10 0) + (1 : Int32))) (g32 o0 3 0)) := ⟨h7.1, h7.2.1, AR.ne (by decide) h7.2.2.1, AR.eq (by omega) (by omega) h7.2.2.2⟩
    exact hk0 _ o1 o2 (okReader.ne (okReader.ne (okReader.ne h8 (by decide) (by decide) (by decide)) (by decide) (by decide) (by decide)) (by decide) (by decide) (by decide)) g1 g2 (WI.grp g3 g4 g5) (by show 8 - ((g32 o0 11 0) + (1 : Int32)).toInt < M0; omega)
set_option maxHeartbeats 1000000 in
theorem t_Reader_readFactor_0  : ∀ (n : Nat) (o0 : Ob) (o1 : Ob) (o2 : Ob), (okReader o0) → (okText o1) → (okSteps o2) → (WI 0 o0) → (8 - (g32 o0 11 0).toInt < (n : Int)) → ∃ (r : Bool) (n0 : Ob) (n1 : Ob) (n2 : Ob), F_Reader_readFactor_0 n o0 o1 o2 = some (r, n0, n1, n2) ∧ (okReader n0) ∧ (okText n1) ∧ (okSteps n2) ∧ (WI 0 n0) ∧ (TK o1 n1) := by
  intro n
  induction n with
  | zero =>
    intro o0 o1 o2 g0 g1 g2 g3 g4
    obtain ⟨f2130, f2131, f2132, f2133⟩ := id g0
    obtain ⟨f2134, f2135, f2136, f2137, f2138, f2139, f2140, f2141, f2142⟩ := id g1
    obtain ⟨f2143, f2144, f2145, f2146, f2147, f2148⟩ := id g2
    obtain ⟨f2149, f2150, f2151, f2152, f2153, f2154, f2155, f2156⟩ := WI.rg g3
    exfalso
    (try simp (disch := (first | omega | (simp only [Int32.reduceToInt]; omega) | (simp (disch := first | omega | (simp only [Int32.reduceToInt]; omega)) only [tadd, tsub, mul6, neg1, Int32.reduceToInt]; omega))) only [neg1, mul6, g_s, g_l, tadd, tsub, inb_iff, Int32.lt_iff_toInt_lt, Int32.le_iff_toInt_le, i32_eq, b2i_0, Int32.reduceToInt, reduceIte, Nat.reduceEqDiff] at g4)
    exact ari_
  | succ n ih =>
    intro o0 o1 o2 g0 g1 g2 g3 g4
    obtain ⟨f2157, f2158, f2159, f2160⟩ := id g0
    obtain ⟨f2161, f2162, f2163, f2164, f2165, f2166, f2167, f2168, f2169⟩ := id g1
    obtain ⟨f2170, f2171, f2172, f2173, f2174, f2175⟩ := id g2
    obtain ⟨f2176, f2177, f2178, f2179, f2180, f2181, f2182, f2183⟩ := WI.rg g3
    rw [F_Reader_readFactor_0]
    (try simp (disch := (first | omega | (simp only [Int32.reduceToInt]; omega) | (simp (disch := first | omega | (simp only [Int32.reduceToInt]; omega)) only [tadd, tsub, mul6, neg1, Int32.reduceToInt]; omega))) only [neg1, mul6, g_s, g_l, tadd, tsub, inb_iff, Int32.lt_iff_toInt_lt, Int32.le_iff_toInt_le, i32_eq, b2i_0, Int32.reduceToInt, reduceIte, Nat.reduceEqDiff] at g4)
    by_cases c2184 : (8 : Int32) ≤ (g32 o0 11 0)
    · rw [if_pos c2184]
      (try simp (disch := (first | omega | (simp only [Int32.reduceToInt]; omega) | (simp (disch := first | omega | (simp only [Int32.reduceToInt]; omega)) only [tadd, tsub, mul6, neg1, Int32.reduceToInt]; omega))) only [neg1, mul6, g_s, g_l, tadd, tsub, inb_iff, Int32.lt_iff_toInt_lt, Int32.le_iff_toInt_le, i32_eq, b2i_0, Int32.reduceToInt, reduceIte, Nat.reduceEqDiff] at c2184)
      obtain ⟨y2185, y2186, y2187, y2188, e2194, p2189, p2190, p2191, p2192, p2193⟩ := t_Reader_readFactor_71 o0 o1 o2 (ok4_) (ok9_) (ok6_) (wi_)
      obtain ⟨f2195, f2196, f2197, f2198⟩ := id p2189
      obtain ⟨f2199, f2200, f2201, f2202, f2203, f2204, f2205, f2206, f2207⟩ := id p2190
      obtain ⟨f2208, f2209, f2210, f2211, f2212, f2213⟩ := id p2191
      obtain ⟨f2214, f2215, f2216, f2217, f2218, f2219, f2220, f2221⟩ := WI.rg p2192
      have f2222 := congrArg Int32.toInt p2193.1
      have f2223 := congrArg Int32.toInt p2193.2.1
      have f2224 := congrArg Int32.toInt p2193.2.2.1
      have f2225 := TK.cd p2193
      refine ⟨y2185, y2186, y2187, y2188, e2194, ok4_, ok9_, ok6_, wi_, tk_⟩
    · rw [if_neg c2184]
      (try simp (disch := (first | omega | (simp only [Int32.reduceToInt]; omega) | (simp (disch := first | omega | (simp only [Int32.reduceToInt]; omega)) only [tadd, tsub, mul6, neg1, Int32.reduceToInt]; omega))) only [neg1, mul6, g_s, g_l, tadd, tsub, inb_iff, Int32.lt_iff_toInt_lt, Int32.le_iff_toInt_le, i32_eq, b2i_0, Int32.reduceToInt, reduceIte, Nat.reduceEqDiff] at c2184)
      obtain ⟨v3, e2229, p2226, p2227, p2228⟩ := t_Reader_next o0 (ok4_) (tu_)
      rw [e2229, bind1_s]
      by_cases c2230 : v3 = (45 : Int32)
      · rw [if_pos c2230]
        (try simp (disch := (first | omega | (simp only [Int32.reduceToInt]; omega) | (simp (disch := first | omega | (simp only [Int32.reduceToInt]; omega)) only [tadd, tsub, mul6, neg1, Int32.reduceToInt]; omega))) only [neg1, mul6, g_s, g_l, tadd, tsub, inb_iff, Int32.lt_iff_toInt_lt, Int32.le_iff_toInt_le, i32_eq, b2i_0, Int32.reduceToInt, reduceIte, Nat.reduceEqDiff] at c2230)
        obtain ⟨y2231, y2232, y2233, y2234, e2240, p2235, p2236, p2237, p2238, p2239⟩ := t_Reader_readFactor_27 o0 o1 o2 (n : Int) _ ih (ok4_) (ok9_) (ok6_) (wi_) (tu_) (tu_) (tu_)
        obtain ⟨f2241, f2242, f2243, f2244⟩ := id p2235
        obtain ⟨f2245, f2246, f2247, f2248, f2249, f2250, f2251, f2252, f2253⟩ := id p2236
        obtain ⟨f2254, f2255, f2256, f2257, f2258, f2259⟩ := id p2237
        obtain ⟨f2260, f2261, f2262, f2263, f2264, f2265, f2266, f2267⟩ := WI.rg p2238
        have f2268 := congrArg Int32.toInt p2239.1
        have f2269 := congrArg Int32.toInt p2239.2.1
        have f2270 := congrArg Int32.toInt p2239.2.2.1
        have f2271 := TK.cd p2239
        refine ⟨y2231, y2232, y2233, y2234, e2240, ok4_, ok9_, ok6_, wi_, tk_⟩
      · rw [if_neg c2230]
        (try simp (disch := (first | omega | (simp only [Int32.reduceToInt]; omega) | (simp (disch := first | omega | (simp only [Int32.reduceToInt]; omega)) only [tadd, tsub, mul6, neg1, Int32.reduceToInt]; omega))) only [neg1, mul6, g_s, g_l, tadd, tsub, inb_iff, Int32.lt_iff_toInt_lt, Int32.le_iff_toInt_le, i32_eq, b2i_0, Int32.reduceToInt, reduceIte, Nat.reduceEqDiff] at c2230)
        rw [bind1_s]
        by_cases c2272 : v3 = (40 : Int32)
        · rw [if_pos c2272]
          (try simp (disch := (first | omega | (simp only [Int32.reduceToInt]; omega) | (simp (disch := first | omega | (simp only [Int32.reduceToInt]; omega)) only [tadd, tsub, mul6, neg1, Int32.reduceToInt]; omega))) only [neg1, mul6, g_s, g_l, tadd, tsub, inb_iff, Int32.lt_iff_toInt_lt, Int32.le_iff_toInt_le, i32_eq, b2i_0, Int32.reduceToInt, reduceIte, Nat.reduceEqDiff] at c2272)
          obtain ⟨y2273, y2274, y2275, y2276, e2282, p2277, p2278, p2279, p2280, p2281⟩ := t_Reader_readFactor_27 o0 o1 o2 (n : Int) _ ih (ok4_) (ok9_) (ok6_) (wi_) (tu_) (tu_) (tu_)
          obtain ⟨f2283, f2284, f2285, f2286⟩ := id p2277
          obtain ⟨f2287, f2288, f2289, f2290, f2291, f2292, f2293, f2294, f2295⟩ := id p2278
          obtain ⟨f2296, f2297, f2298, f2299, f2300, f2301⟩ := id p2279
          obtain ⟨f2302, f2303, f2304, f2305, f2306, f2307, f2308, f2309⟩ := WI.rg p2280
          have f2310 := congrArg Int32.toInt p2281.1
          have f2311 := congrArg Int32.toInt p2281.2.1
          have f2312 := congrArg Int32.toInt p2281.2.2.1
          have f2313 := TK.cd p2281
          refine ⟨y2273, y2274, y2275, y2276, e2282, ok4_, ok9_, ok6_, wi_, tk_⟩
        · rw [if_neg c2272]
          (try simp (disch := (first | omega | (simp only [Int32.reduceToInt]; omega) | (simp (disch := first | omega | (simp only [Int32.reduceToInt]; omega)) only [tadd, tsub, mul6, neg1, Int32.reduceToInt]; omega))) only [neg1, mul6, g_s, g_l, tadd, tsub, inb_iff, Int32.lt_iff_toInt_lt, Int32.le_iff_toInt_le, i32_eq, b2i_0, Int32.reduceToInt, reduceIte, Nat.reduceEqDiff] at c2272)
          obtain ⟨y2314, y2315, y2316, y2317, e2323, p2318, p2319, p2320, p2321, p2322⟩ := t_Reader_readFactor_71 o0 o1 o2 (ok4_) (ok9_) (ok6_) (wi_)
          obtain ⟨f2324, f2325, f2326, f2327⟩ := id p2318
          obtain ⟨f2328, f2329, f2330, f2331, f2332, f2333, f2334, f2335, f2336⟩ := id p2319
          obtain ⟨f2337, f2338, f2339, f2340, f2341, f2342⟩ := id p2320
          obtain ⟨f2343, f2344, f2345, f2346, f2347, f2348, f2349, f2350⟩ := WI.rg p2321
          have f2351 := congrArg Int32.toInt p2322.1
          have f2352 := congrArg Int32.toInt p2322.2.1
          have f2353 := congrArg Int32.toInt p2322.2.2.1
          have f2354 := TK.cd p2322
          refine ⟨y2314, y2315, y2316, y2317, e2323, ok4_, ok9_, ok6_, wi_, tk_⟩
set_option maxHeartbeats 1000000 in
theorem t_Reader_readFactor (o0 : Ob) (o1 : Ob) (o2 : Ob) (g0 : okReader o0) (g1 : okText o1) (g2 : okSteps o2) (g3 : WI 0 o0) : ∃ (r : Bool) (n0 : Ob) (n1 : Ob) (n2 : Ob), F_Reader_readFactor o0 o1 o2 = some (r, n0, n1, n2) ∧ (okReader n0) ∧ (okText n1) ∧ (okSteps n2) ∧ (WI 0 n0) ∧ (TK o1 n1) := by
  obtain ⟨f2355, f2356, f2357, f2358⟩ := id g0
  obtain ⟨f2359, f2360, f2361, f2362, f2363, f2364, f2365, f2366, f2367⟩ := id g1
  obtain ⟨f2368, f2369, f2370, f2371, f2372, f2373⟩ := id g2
  obtain ⟨f2374, f2375, f2376, f2377, f2378, f2379, f2380, f2381⟩ := WI.rg g3
  rw [F_Reader_readFactor]
  obtain ⟨y2382, y2383, y2384, y2385, e2391, p2386, p2387, p2388, p2389, p2390⟩ := t_Reader_readFactor_0 fuel o0 o1 o2 (ok4_) (ok9_) (ok6_) (wi_) tu_
  obtain ⟨f2392, f2393, f2394, f2395⟩ := id p2386
  obtain ⟨f2396, f2397, f2398, f2399, f2400, f2401, f2402, f2403, f2404⟩ := id p2387
  obtain ⟨f2405, f2406, f2407, f2408, f2409, f2410⟩ := id p2388
  obtain ⟨f2411, f2412, f2413, f2414, f2415, f2416, f2417, f2418⟩ := WI.rg p2389
  have f2419 := congrArg Int32.toInt p2390.1
  have f2420 := congrArg Int32.toInt p2390.2.1
  have f2421 := congrArg Int32.toInt p2390.2.2.1
  have f2422 := TK.cd p2390
  refine ⟨y2382, y2383, y2384, y2385, e2391, ok4_, ok9_, ok6_, wi_, tk_⟩
set_option maxHeartbeats 1000000 in
theorem t_Reader_readExpression_61 (o0 : Ob) (o1 : Ob) (o2 : Ob) (g0 : okReader o0) (g1 : okText o1) (g2 : okSteps o2) (g3 : WI 0 o0) : ∃ (r : Bool) (n0 : Ob) (n1 : Ob) (n2 : Ob), F_Reader_readExpression_61 o0 o1 o2 = some (r, n0, n1, n2) ∧ (okReader n0) ∧ (okText n1) ∧ (okSteps n2) ∧ (0 ≤ (g32 n0 3 0).toInt) ∧ ((g32 n0 3 0).toInt ≤ (g32 n0 2 0).toInt) ∧ (TK o1 n1) := by
  obtain ⟨f2423, f2424, f2425, f2426⟩ := id g0
  obtain ⟨f2427, f2428, f2429, f2430, f2431, f2432, f2433, f2434, f2435⟩ := id g1
  obtain ⟨f2436, f2437, f2438, f2439, f2440, f2441⟩ := id g2
  obtain ⟨f2442, f2443, f2444, f2445, f2446, f2447, f2448, f2449⟩ := WI.rg g3
  rw [F_Reader_readExpression_61]
  by_cases c2450 : (g32 o0 10 0) ≤ 0
  · rw [if_pos c2450]
    (try simp (disch := (first | omega | (simp only [Int32.reduceToInt]; omega) | (simp (disch := first | omega | (simp only [Int32.reduceToInt]; omega)) only [tadd, tsub, mul6, neg1, Int32.reduceToInt]; omega))) only [neg1, mul6, g_s, g_l, tadd, tsub, inb_iff, Int32.lt_iff_toInt_lt, Int32.le_iff_toInt_le, i32_eq, b2i_0, Int32.reduceToInt, reduceIte, Nat.reduceEqDiff] at c2450)
    obtain ⟨o_19, o_20, e2456, p2451, p2452, p2453, p2454, p2455⟩ := t_Reader_releaseWaiting (0 : Int32) o0 o1 o2 (ok4_) (ok9_) (ok6_) (wi_)
    rw [e2456, bind2_s]
    obtain ⟨f2457, f2458, f2459, f2460⟩ := id p2451
    obtain ⟨f2461, f2462, f2463, f2464, f2465, f2466⟩ := id p2452
    obtain ⟨f2467, f2468, f2469, f2470, f2471, f2472, f2473, f2474⟩ := WI.rg p2453
    have f2475 := congrArg Int32.toInt (p2454 2 0 (by decide))
    have f2476 := congrArg Int32.toInt (p2454 3 0 (by decide))
    have f2477 := congrArg Int32.toInt (p2454 10 0 (by decide))
    have f2478 := congrArg Int32.toInt (p2454 11 0 (by decide))
    obtain ⟨v22, e2482, p2479, p2480, p2481⟩ := t_Reader_next o_19 (ok4_) (tu_)
    rw [e2482, bind1_s]
    obtain ⟨o_24, e2484, p2483⟩ := t_Steps_endExpression v22 o_20 (ok6_)
    rw [e2484, bind1_s]
    obtain ⟨f2485, f2486, f2487, f2488, f2489, f2490⟩ := id p2483
    refine ⟨_, _, _, _, rfl, ok4_, ok9_, ok6_, tu_, tu_, tk_⟩
  · rw [if_neg c2450]
    (try simp (disch := (first | omega | (simp only [Int32.reduceToInt]; omega) | (simp (disch := first | omega | (simp only [Int32.reduceToInt]; omega)) only [tadd, tsub, mul6, neg1, Int32.reduceToInt]; omega))) only [neg1, mul6, g_s, g_l, tadd, tsub, inb_iff, Int32.lt_iff_toInt_lt, Int32.le_iff_toInt_le, i32_eq, b2i_0, Int32.reduceToInt, reduceIte, Nat.reduceEqDiff] at c2450)
    refine ⟨_, _, _, _, rfl, ok4_, ok9_, ok6_, tu_, tu_, tk_⟩
set_option maxHeartbeats 1000000 in
theorem t_Reader_readExpression_26  : ∀ (n : Nat) (x1 : Int32) (x2 : Int32) (o0 : Ob) (o1 : Ob) (o2 : Ob), (okReader o0) → (okText o1) → (okSteps o2) → (WI 0 o0) → (0 ≤ x2.toInt) → (x2.toInt ≤ 400) → (400 - x2.toInt < (n : Int)) → ∃ (r : Bool) (n0 : Ob) (n1 : Ob) (n2 : Ob), F_Reader_readExpression_26 n x1 x2 o0 o1 o2 = some (r, n0, n1, n2) ∧ (okReader n0) ∧ (okText n1) ∧ (okSteps n2) ∧ (0 ≤ (g32 n0 3 0).toInt) ∧ ((g32 n0 3 0).toInt ≤ (g32 n0 2 0).toInt) ∧ (TK o1 n1) := by
  intro n
  induction n with
  | zero =>
    intro x1 x2 o0 o1 o2 g0 g1 g2 g3 g4 g5 g6
    obtain ⟨f2491, f2492, f2493, f2494⟩ := id g0
    obtain ⟨f2495, f2496, f2497, f2498, f2499, f2500, f2501, f2502, f2503⟩ := id g1
    obtain ⟨f2504, f2505, f2506, f2507, f2508, f2509⟩ := id g2
    obtain ⟨f2510, f2511, f2512, f2513, f2514, f2515, f2516, f2517⟩ := WI.rg g3
    exfalso
    (try simp (disch := (first | omega | (simp only [Int32.reduceToInt]; omega) | (simp (disch := first | omega | (simp only [Int32.reduceToInt]; omega)) only [tadd, tsub, mul6, neg1, Int32.reduceToInt]; omega))) only [neg1, mul6, g_s, g_l, tadd, tsub, inb_iff, Int32.lt_iff_toInt_lt, Int32.le_iff_toInt_le, i32_eq, b2i_0, Int32.reduceToInt, reduceIte, Nat.reduceEqDiff] at g6)
    exact ari_
  | succ n ih =>
    intro x1 x2 o0 o1 o2 g0 g1 g2 g3 g4 g5 g6
    obtain ⟨f2518, f2519, f2520, f2521⟩ := id g0
    obtain ⟨f2522, f2523, f2524, f2525, f2526, f2527, f2528, f2529, f2530⟩ := id g1
    obtain ⟨f2531, f2532, f2533, f2534, f2535, f2536⟩ := id g2
    obtain ⟨f2537, f2538, f2539, f2540, f2541, f2542, f2543, f2544⟩ := WI.rg g3
    rw [F_Reader_readExpression_26]
    (try simp (disch := (first | omega | (simp only [Int32.reduceToInt]; omega) | (simp (disch := first | omega | (simp only [Int32.reduceToInt]; omega)) only [tadd, tsub, mul6, neg1, Int32.reduceToInt]; omega))) only [neg1, mul6, g_s, g_l, tadd, tsub, inb_iff, Int32.lt_iff_toInt_lt, Int32.le_iff_toInt_le, i32_eq, b2i_0, Int32.reduceToInt, reduceIte, Nat.reduceEqDiff] at g6)
    by_cases c2545 : (400 : Int32) ≤ x2
    · rw [if_pos c2545]
      (try simp (disch := (first | omega | (simp only [Int32.reduceToInt]; omega) | (simp (disch := first | omega | (simp only [Int32.reduceToInt]; omega)) only [tadd, tsub, mul6, neg1, Int32.reduceToInt]; omega))) only [neg1, mul6, g_s, g_l, tadd, tsub, inb_iff, Int32.lt_iff_toInt_lt, Int32.le_iff_toInt_le, i32_eq, b2i_0, Int32.reduceToInt, reduceIte, Nat.reduceEqDiff] at c2545)
      obtain ⟨y2546, y2547, y2548, y2549, e2556, p2550, p2551, p2552, p2553, p2554, p2555⟩ := t_Reader_readExpression_61 o0 o1 o2 (ok4_) (ok9_) (ok6_) (wi_)
      obtain ⟨f2557, f2558, f2559, f2560⟩ := id p2550
      obtain ⟨f2561, f2562, f2563, f2564, f2565, f2566, f2567, f2568, f2569⟩ := id p2551
      obtain ⟨f2570, f2571, f2572, f2573, f2574, f2575⟩ := id p2552
      have f2576 := congrArg Int32.toInt p2555.1
      have f2577 := congrArg Int32.toInt p2555.2.1
      have f2578 := congrArg Int32.toInt p2555.2.2.1
      have f2579 := TK.cd p2555
      refine ⟨y2546, y2547, y2548, y2549, e2556, ok4_, ok9_, ok6_, tu_, tu_, tk_⟩
    · rw [if_neg c2545]
      (try simp (disch := (first | omega | (simp only [Int32.reduceToInt]; omega) | (simp (disch := first | omega | (simp only [Int32.reduceToInt]; omega)) only [tadd, tsub, mul6, neg1, Int32.reduceToInt]; omega))) only [neg1, mul6, g_s, g_l, tadd, tsub, inb_iff, Int32.lt_iff_toInt_lt, Int32.le_iff_toInt_le, i32_eq, b2i_0, Int32.reduceToInt, reduceIte, Nat.reduceEqDiff] at c2545)
      by_cases c2580 : x1 = 0
      · rw [if_pos c2580]
        (try simp (disch := (first | omega | (simp only [Int32.reduceToInt]; omega) | (simp (disch := first | omega | (simp only [Int32.reduceToInt]; omega)) only [tadd, tsub, mul6, neg1, Int32.reduceToInt]; omega))) only [neg1, mul6, g_s, g_l, tadd, tsub, inb_iff, Int32.lt_iff_toInt_lt, Int32.le_iff_toInt_le, i32_eq, b2i_0, Int32.reduceToInt, reduceIte, Nat.reduceEqDiff] at c2580)
        obtain ⟨y2581, y2582, y2583, y2584, e2591, p2585, p2586, p2587, p2588, p2589, p2590⟩ := t_Reader_readExpression_61 o0 o1 o2 (ok4_) (ok9_) (ok6_) (wi_)
        obtain ⟨f2592, f2593, f2594, f2595⟩ := id p2585
        obtain ⟨f2596, f2597, f2598, f2599, f2600, f2601, f2602, f2603, f2604⟩ := id p2586
        obtain ⟨f2605, f2606, f2607, f2608, f2609, f2610⟩ := id p2587
        have f2611 := congrArg Int32.toInt p2590.1
        have f2612 := congrArg Int32.toInt p2590.2.1
        have f2613 := congrArg Int32.toInt p2590.2.2.1
        have f2614 := TK.cd p2590
        refine ⟨y2581, y2582, y2583, y2584, e2591, ok4_, ok9_, ok6_, tu_, tu_, tk_⟩
      · rw [if_neg c2580]
        (try simp (disch := (first | omega | (simp only [Int32.reduceToInt]; omega) | (simp (disch := first | omega | (simp only [Int32.reduceToInt]; omega)) only [tadd, tsub, mul6, neg1, Int32.reduceToInt]; omega))) only [neg1, mul6, g_s, g_l, tadd, tsub, inb_iff, Int32.lt_iff_toInt_lt, Int32.le_iff_toInt_le, i32_eq, b2i_0, Int32.reduceToInt, reduceIte, Nat.reduceEqDiff] at c2580)
        obtain ⟨v5, o_6, o_7, o_8, e2620, p2615, p2616, p2617, p2618, p2619⟩ := t_Reader_readFactor o0 o1 o2 (ok4_) (ok9_) (ok6_) (wi_)
        rw [e2620, bind4_s]
        obtain ⟨f2621, f2622, f2623, f2624⟩ := id p2615
        obtain ⟨f2625, f2626, f2627, f2628, f2629, f2630, f2631, f2632, f2633⟩ := id p2616
        obtain ⟨f2634, f2635, f2636, f2637, f2638, f2639⟩ := id p2617
        obtain ⟨f2640, f2641, f2642, f2643, f2644, f2645, f2646, f2647⟩ := WI.rg p2618
        have f2648 := congrArg Int32.toInt p2619.1
        have f2649 := congrArg Int32.toInt p2619.2.1
        have f2650 := congrArg Int32.toInt p2619.2.2.1
        have f2651 := TK.cd p2619
        by_cases c2652 : (b2i v5) = 0
        · rw [if_pos c2652]
          have c2652 := b2i_0.mp c2652
          subst c2652
          refine ⟨_, _, _, _, rfl, ok4_, ok9_, ok6_, tu_, tu_, tk_⟩
        · rw [if_neg c2652]
          have c2652 := b2i_1 c2652
          subst c2652
          obtain ⟨o_11, o_12, e2656, p2653, p2654, p2655⟩ := t_Reader_closeGroups o_6 o_7 o_8 (ok4_) (ok9_) (ok6_) (wi_)
          rw [e2656, bind2_s]
          obtain ⟨f2657, f2658, f2659, f2660⟩ := id p2653
          obtain ⟨f2661, f2662, f2663, f2664, f2665, f2666⟩ := id p2654
          obtain ⟨f2667, f2668, f2669, f2670, f2671, f2672, f2673, f2674⟩ := WI.rg p2655
          obtain ⟨v14, o_15, o_16, e2678, p2675, p2676, p2677⟩ := t_Reader_readOperator o_11 o_7 o_12 (ok4_) (ok9_) (ok6_) (wi_)
          rw [e2678, bind3_s]
          obtain ⟨f2679, f2680, f2681, f2682⟩ := id p2675
          obtain ⟨f2683, f2684, f2685, f2686, f2687, f2688⟩ := id p2676
          obtain ⟨f2689, f2690, f2691, f2692, f2693, f2694, f2695, f2696⟩ := WI.rg p2677
          obtain ⟨y2697, y2698, y2699, y2700, e2707, p2701, p2702, p2703, p2704, p2705, p2706⟩ := ih (b2i v14) (x2 + (1 : Int32)) o_15 o_7 o_16 (ok4_) (ok9_) (ok6_) (wi_) (tu_) (tu_) tu_
          obtain ⟨f2708, f2709, f2710, f2711⟩ := id p2701
          obtain ⟨f2712, f2713, f2714, f2715, f2716, f2717, f2718, f2719, f2720⟩ := id p2702
          obtain ⟨f2721, f2722, f2723, f2724, f2725, f2726⟩ := id p2703
          have f2727 := congrArg Int32.toInt p2706.1
          have f2728 := congrArg Int32.toInt p2706.2.1
          have f2729 := congrArg Int32.toInt p2706.2.2.1
          have f2730 := TK.cd p2706
          refine ⟨y2697, y2698, y2699, y2700, e2707, ok4_, ok9_, ok6_, tu_, tu_, tk_⟩
set_option maxHeartbeats 1000000 in
theorem t_Reader_readExpression (o0 : Ob) (o1 : Ob) (o2 : Ob) (g0 : okReader o0) (g1 : okText o1) (g2 : okSteps o2) (g3 : 0 ≤ (g32 o0 3 0).toInt) (g4 : (g32 o0 3 0).toInt ≤ (g32 o0 2 0).toInt) : ∃ (r : Bool) (n0 : Ob) (n1 : Ob) (n2 : Ob), F_Reader_readExpression o0 o1 o2 = some (r, n0, n1, n2) ∧ (okReader n0) ∧ (okText n1) ∧ (okSteps n2) ∧ (0 ≤ (g32 n0 3 0).toInt) ∧ ((g32 n0 3 0).toInt ≤ (g32 n0 2 0).toInt) ∧ (TK o1 n1) := by
  obtain ⟨f2731, f2732, f2733, f2734⟩ := id g0
  obtain ⟨f2735, f2736, f2737, f2738, f2739, f2740, f2741, f2742, f2743⟩ := id g1
  obtain ⟨f2744, f2745, f2746, f2747, f2748, f2749⟩ := id g2
  rw [F_Reader_readExpression]
  rw [show (inb (0 : Int32) 9) = true from inb_iff.mpr ⟨tu_, tu_⟩, chk_tr]
  obtain ⟨y2750, y2751, y2752, y2753, e2760, p2754, p2755, p2756, p2757, p2758, p2759⟩ := t_Reader_readExpression_26 fuel (1 : Int32) (0 : Int32) (s32 (s32 (s32 (s32 o0 6 0 (0 : Int32)) 10 0 (0 : Int32)) 11 0 (0 : Int32)) 8 (Int32.toNatClampNeg (0 : Int32)) (0 : Int32)) o1 o2 (ok4_) (ok9_) (ok6_) (WI.new tu_ tu_ tu_) (tu_) (tu_) tu_
  obtain ⟨f2761, f2762, f2763, f2764⟩ := id p2754
  obtain ⟨f2765, f2766, f2767, f2768, f2769, f2770, f2771, f2772, f2773⟩ := id p2755
  obtain ⟨f2774, f2775, f2776, f2777, f2778, f2779⟩ := id p2756
  have f2780 := congrArg Int32.toInt p2759.1
  have f2781 := congrArg Int32.toInt p2759.2.1
  have f2782 := congrArg Int32.toInt p2759.2.2.1
  have f2783 := TK.cd p2759
  refine ⟨y2750, y2751, y2752, y2753, e2760, ok4_, ok9_, ok6_, tu_, tu_, tk_⟩
set_option maxHeartbeats 1000000 in
theorem t_Reader_readCondition (o0 : Ob) (o1 : Ob) (o2 : Ob) (g0 : okReader o0) (g1 : okText o1) (g2 : okSteps o2) (g3 : 0 ≤ (g32 o0 3 0).toInt) (g4 : (g32 o0 3 0).toInt ≤ (g32 o0 2 0).toInt) (g5 : cdn o1 ≤ 0) : ∃ (r : Bool) (n0 : Ob) (n1 : Ob) (n2 : Ob), F_Reader_readCondition o0 o1 o2 = some (r, n0, n1, n2) ∧ (okReader n0) ∧ (okText n1) ∧ (okSteps n2) ∧ (0 ≤ (g32 n0 3 0).toInt) ∧ ((g32 n0 3 0).toInt ≤ (g32 n0 2 0).toInt) ∧ ((g32 n1 1 0).toInt = (g32 o1 1 0).toInt) ∧ ((g32 n1 3 0).toInt = (g32 o1 3 0).toInt) ∧ ((g32 n1 11 0).toInt = (g32 o1 11 0).toInt) := by
  obtain ⟨f2784, f2785, f2786, f2787⟩ := id g0
  obtain ⟨f2788, f2789, f2790, f2791, f2792, f2793, f2794, f2795, f2796⟩ := id g1
  obtain ⟨f2797, f2798, f2799, f2800, f2801, f2802⟩ := id g2
  rw [F_Reader_readCondition]
  obtain ⟨v2, o_3, o_4, o_5, e2809, p2803, p2804, p2805, p2806, p2807, p2808⟩ := t_Reader_readExpression o0 o1 o2 (ok4_) (ok9_) (ok6_) (tu_) (tu_)
  rw [e2809, bind4_s]
  obtain ⟨f2810, f2811, f2812, f2813⟩ := id p2803
  obtain ⟨f2814, f2815, f2816, f2817, f2818, f2819, f2820, f2821, f2822⟩ := id p2804
  obtain ⟨f2823, f2824, f2825, f2826, f2827, f2828⟩ := id p2805
  have f2829 := congrArg Int32.toInt p2808.1
  have f2830 := congrArg Int32.toInt p2808.2.1
  have f2831 := congrArg Int32.toInt p2808.2.2.1
  have f2832 := TK.cd p2808
  by_cases c2833 : (b2i v2) = 0
  · rw [if_pos c2833]
    have c2833 := b2i_0.mp c2833
    subst c2833
    refine ⟨_, _, _, _, rfl, ok4_, ok9_, ok6_, tu_, tu_, tu_, tu_, tu_⟩
  · rw [if_neg c2833]
    have c2833 := b2i_1 c2833
    subst c2833
    obtain ⟨v8, o_9, o_10, e2842, p2834, p2835, p2836, p2837, p2838, p2839, p2840, p2841⟩ := t_Reader_passSign o_3 o_4 (ok4_) (ok9_) (tu_) (tu_) (tu_)
    rw [e2842, bind3_s]
    obtain ⟨f2843, f2844, f2845, f2846⟩ := id p2834
    obtain ⟨f2847, f2848, f2849, f2850, f2851, f2852, f2853, f2854, f2855⟩ := id p2835
    by_cases c2856 : (b2i v8) = 0
    · rw [if_pos c2856]
      have c2856 := b2i_0.mp c2856
      subst c2856
      refine ⟨_, _, _, _, rfl, ok4_, ok9_, ok6_, tu_, tu_, tu_, tu_, tu_⟩
    · rw [if_neg c2856]
      have c2856 := b2i_1 c2856
      subst c2856
      obtain ⟨v13, o_14, o_15, o_16, e2863, p2857, p2858, p2859, p2860, p2861, p2862⟩ := t_Reader_readExpression o_9 o_10 o_5 (ok4_) (ok9_) (ok6_) (tu_) (tu_)
      rw [e2863, bind4_s]
      obtain ⟨f2864, f2865, f2866, f2867⟩ := id p2857
      obtain ⟨f2868, f2869, f2870, f2871, f2872, f2873, f2874, f2875, f2876⟩ := id p2858
      obtain ⟨f2877, f2878, f2879, f2880, f2881, f2882⟩ := id p2859
      have f2883 := congrArg Int32.toInt p2862.1
      have f2884 := congrArg Int32.toInt p2862.2.1
      have f2885 := congrArg Int32.toInt p2862.2.2.1
      have f2886 := TK.cd p2862
      by_cases c2887 : (b2i v13) = 0
      · rw [if_pos c2887]
        have c2887 := b2i_0.mp c2887
        subst c2887
        refine ⟨_, _, _, _, rfl, ok4_, ok9_, ok6_, tu_, tu_, tu_, tu_, tu_⟩
      · rw [if_neg c2887]
        have c2887 := b2i_1 c2887
        subst c2887
        refine ⟨_, _, _, _, rfl, ok4_, ok9_, ok6_, tu_, tu_, tu_, tu_, tu_⟩
set_option maxHeartbeats 1000000 in
theorem t_Reader_readChoice_2  : ∀ (n : Nat) (x1 : Int32) (o0 : Ob) (o1 : Ob) (o2 : Ob), (okReader o0) → (okText o1) → (okSteps o2) → (0 ≤ (g32 o0 3 0).toInt) → ((g32 o0 3 0).toInt ≤ (g32 o0 2 0).toInt) → (0 ≤ x1.toInt) → (x1.toInt ≤ 4) → (cdn o1 ≤ x1.toInt) → (4 - x1.toInt < (n : Int)) → ∃ (r : Bool) (n0 : Ob) (n1 : Ob) (n2 : Ob), F_Reader_readChoice_2 n x1 o0 o1 o2 = some (r, n0, n1, n2) ∧ (okReader n0) ∧ (okText n1) ∧ (okSteps n2) ∧ (0 ≤ (g32 n0 3 0).toInt) ∧ ((g32 n0 3 0).toInt ≤ (g32 n0 2 0).toInt) ∧ ((g32 n1 1 0).toInt = (g32 o1 1 0).toInt) ∧ ((g32 n1 3 0).toInt = (g32 o1 3 0).toInt) ∧ ((g32 n1 11 0).toInt = (g32 o1 11 0).toInt) := by
  intro n
  induction n with
  | zero =>
    intro x1 o0 o1 o2 g0 g1 g2 g3 g4 g5 g6 g7 g8
    obtain ⟨f2888, f2889, f2890, f2891⟩ := id g0
    obtain ⟨f2892, f2893, f2894, f2895, f2896, f2897, f2898, f2899, f2900⟩ := id g1
    obtain ⟨f2901, f2902, f2903, f2904, f2905, f2906⟩ := id g2
    exfalso
    (try simp (disch := (first | omega | (simp only [Int32.reduceToInt]; omega) | (simp (disch := first | omega | (simp only [Int32.reduceToInt]; omega)) only [tadd, tsub, mul6, neg1, Int32.reduceToInt]; omega))) only [neg1, mul6, g_s, g_l, tadd, tsub, inb_iff, Int32.lt_iff_toInt_lt, Int32.le_iff_toInt_le, i32_eq, b2i_0, Int32.reduceToInt, reduceIte, Nat.reduceEqDiff] at g8)
    exact ari_
  | succ n ih =>
    intro x1 o0 o1 o2 g0 g1 g2 g3 g4 g5 g6 g7 g8
    obtain ⟨f2907, f2908, f2909, f2910⟩ := id g0
    obtain ⟨f2911, f2912, f2913, f2914, f2915, f2916, f2917, f2918, f2919⟩ := id g1
    obtain ⟨f2920, f2921, f2922, f2923, f2924, f2925⟩ := id g2
    rw [F_Reader_readChoice_2]
    (try simp (disch := (first | omega | (simp only [Int32.reduceToInt]; omega) | (simp (disch := first | omega | (simp only [Int32.reduceToInt]; omega)) only [tadd, tsub, mul6, neg1, Int32.reduceToInt]; omega))) only [neg1, mul6, g_s, g_l, tadd, tsub, inb_iff, Int32.lt_iff_toInt_lt, Int32.le_iff_toInt_le, i32_eq, b2i_0, Int32.reduceToInt, reduceIte, Nat.reduceEqDiff] at g8)
    by_cases c2926 : (4 : Int32) ≤ x1
    · rw [if_pos c2926]
      (try simp (disch := (first | omega | (simp only [Int32.reduceToInt]; omega) | (simp (disch := first | omega | (simp only [Int32.reduceToInt]; omega)) only [tadd, tsub, mul6, neg1, Int32.reduceToInt]; omega))) only [neg1, mul6, g_s, g_l, tadd, tsub, inb_iff, Int32.lt_iff_toInt_lt, Int32.le_iff_toInt_le, i32_eq, b2i_0, Int32.reduceToInt, reduceIte, Nat.reduceEqDiff] at c2926)
      obtain ⟨v3, o_4, o_5, o_6, e2933, p2927, p2928, p2929, p2930, p2931, p2932⟩ := t_Reader_readExpression o0 o1 o2 (ok4_) (ok9_) (ok6_) (tu_) (tu_)
      rw [e2933, bind4_s]
      obtain ⟨f2934, f2935, f2936, f2937⟩ := id p2927
      obtain ⟨f2938, f2939, f2940, f2941, f2942, f2943, f2944, f2945, f2946⟩ := id p2928
      obtain ⟨f2947, f2948, f2949, f2950, f2951, f2952⟩ := id p2929
      have f2953 := congrArg Int32.toInt p2932.1
      have f2954 := congrArg Int32.toInt p2932.2.1
      have f2955 := congrArg Int32.toInt p2932.2.2.1
      have f2956 := TK.cd p2932
      refine ⟨_, _, _, _, rfl, ok4_, ok9_, ok6_, tu_, tu_, tu_, tu_, tu_⟩
    · rw [if_neg c2926]
      (try simp (disch := (first | omega | (simp only [Int32.reduceToInt]; omega) | (simp (disch := first | omega | (simp only [Int32.reduceToInt]; omega)) only [tadd, tsub, mul6, neg1, Int32.reduceToInt]; omega))) only [neg1, mul6, g_s, g_l, tadd, tsub, inb_iff, Int32.lt_iff_toInt_lt, Int32.le_iff_toInt_le, i32_eq, b2i_0, Int32.reduceToInt, reduceIte, Nat.reduceEqDiff] at c2926)
      obtain ⟨v8, o_9, o_10, o_11, e2963, p2957, p2958, p2959, p2960, p2961, p2962⟩ := t_Reader_readExpression o0 o1 o2 (ok4_) (ok9_) (ok6_) (tu_) (tu_)
      rw [e2963, bind4_s]
      obtain ⟨f2964, f2965, f2966, f2967⟩ := id p2957
      obtain ⟨f2968, f2969, f2970, f2971, f2972, f2973, f2974, f2975, f2976⟩ := id p2958
      obtain ⟨f2977, f2978, f2979, f2980, f2981, f2982⟩ := id p2959
      have f2983 := congrArg Int32.toInt p2962.1
      have f2984 := congrArg Int32.toInt p2962.2.1
      have f2985 := congrArg Int32.toInt p2962.2.2.1
      have f2986 := TK.cd p2962
      by_cases c2987 : (b2i v8) = 0
      · rw [if_pos c2987]
        have c2987 := b2i_0.mp c2987
        subst c2987
        refine ⟨_, _, _, _, rfl, ok4_, ok9_, ok6_, tu_, tu_, tu_, tu_, tu_⟩
      · rw [if_neg c2987]
        have c2987 := b2i_1 c2987
        subst c2987
        obtain ⟨v14, o_15, o_16, e2996, p2988, p2989, p2990, p2991, p2992, p2993, p2994, p2995⟩ := t_Reader_passSign o_9 o_10 (ok4_) (ok9_) (tu_) (tu_) (tu_)
        rw [e2996, bind3_s]
        obtain ⟨f2997, f2998, f2999, f3000⟩ := id p2988
        obtain ⟨f3001, f3002, f3003, f3004, f3005, f3006, f3007, f3008, f3009⟩ := id p2989
        by_cases c3010 : (b2i v14) = 0
        · rw [if_pos c3010]
          have c3010 := b2i_0.mp c3010
          subst c3010
          refine ⟨_, _, _, _, rfl, ok4_, ok9_, ok6_, tu_, tu_, tu_, tu_, tu_⟩
        · rw [if_neg c3010]
          have c3010 := b2i_1 c3010
          subst c3010
          obtain ⟨v19, o_20, o_21, o_22, e3017, p3011, p3012, p3013, p3014, p3015, p3016⟩ := t_Reader_readExpression o_15 o_16 o_11 (ok4_) (ok9_) (ok6_) (tu_) (tu_)
          rw [e3017, bind4_s]
          obtain ⟨f3018, f3019, f3020, f3021⟩ := id p3011
          obtain ⟨f3022, f3023, f3024, f3025, f3026, f3027, f3028, f3029, f3030⟩ := id p3012
          obtain ⟨f3031, f3032, f3033, f3034, f3035, f3036⟩ := id p3013
          have f3037 := congrArg Int32.toInt p3016.1
          have f3038 := congrArg Int32.toInt p3016.2.1
          have f3039 := congrArg Int32.toInt p3016.2.2.1
          have f3040 := TK.cd p3016
          by_cases c3041 : (b2i v19) = 0
          · rw [if_pos c3041]
            have c3041 := b2i_0.mp c3041
            subst c3041
            refine ⟨_, _, _, _, rfl, ok4_, ok9_, ok6_, tu_, tu_, tu_, tu_, tu_⟩
          · rw [if_neg c3041]
            have c3041 := b2i_1 c3041
            subst c3041
            obtain ⟨v25, o_26, e3047, p3042, p3043, p3044, p3045, p3046⟩ := t_Reader_pass (63 : Int32) o_20 (ok4_) (tu_) (tu_) (tu_)
            rw [e3047, bind2_s]
            obtain ⟨f3048, f3049, f3050, f3051⟩ := id p3042
            have f3052 := congrArg Int32.toInt (p3045 2 0 (by decide))
            have f3053 := congrArg Int32.toInt (p3045 6 0 (by decide))
            have f3054 := congrArg Int32.toInt (p3045 10 0 (by decide))
            have f3055 := congrArg Int32.toInt (p3045 11 0 (by decide))
            by_cases c3056 : (b2i v25) = 0
            · rw [if_pos c3056]
              have c3056 := b2i_0.mp c3056
              subst c3056
              refine ⟨_, _, _, _, rfl, ok4_, ok9_, ok6_, tu_, tu_, tu_, tu_, tu_⟩
            · rw [if_neg c3056]
              have c3056 := b2i_1 c3056
              subst c3056
              obtain ⟨v29, o_30, o_31, o_32, e3063, p3057, p3058, p3059, p3060, p3061, p3062⟩ := t_Reader_readExpression o_26 o_21 o_22 (ok4_) (ok9_) (ok6_) (tu_) (tu_)
              rw [e3063, bind4_s]
              obtain ⟨f3064, f3065, f3066, f3067⟩ := id p3057
              obtain ⟨f3068, f3069, f3070, f3071, f3072, f3073, f3074, f3075, f3076⟩ := id p3058
              obtain ⟨f3077, f3078, f3079, f3080, f3081, f3082⟩ := id p3059
              have f3083 := congrArg Int32.toInt p3062.1
              have f3084 := congrArg Int32.toInt p3062.2.1
              have f3085 := congrArg Int32.toInt p3062.2.2.1
              have f3086 := TK.cd p3062
              by_cases c3087 : (b2i v29) = 0
              · rw [if_pos c3087]
                have c3087 := b2i_0.mp c3087
                subst c3087
                refine ⟨_, _, _, _, rfl, ok4_, ok9_, ok6_, tu_, tu_, tu_, tu_, tu_⟩
              · rw [if_neg c3087]
                have c3087 := b2i_1 c3087
                subst c3087
                obtain ⟨v35, o_36, e3093, p3088, p3089, p3090, p3091, p3092⟩ := t_Reader_pass (58 : Int32) o_30 (ok4_) (tu_) (tu_) (tu_)
                rw [e3093, bind2_s]
                obtain ⟨f3094, f3095, f3096, f3097⟩ := id p3088
                have f3098 := congrArg Int32.toInt (p3091 2 0 (by decide))
                have f3099 := congrArg Int32.toInt (p3091 6 0 (by decide))
                have f3100 := congrArg Int32.toInt (p3091 10 0 (by decide))
                have f3101 := congrArg Int32.toInt (p3091 11 0 (by decide))
                by_cases c3102 : (b2i v35) = 0
                · rw [if_pos c3102]
                  have c3102 := b2i_0.mp c3102
                  subst c3102
                  refine ⟨_, _, _, _, rfl, ok4_, ok9_, ok6_, tu_, tu_, tu_, tu_, tu_⟩
                · rw [if_neg c3102]
                  have c3102 := b2i_1 c3102
                  subst c3102
                  obtain ⟨y3103, y3104, y3105, y3106, e3115, p3107, p3108, p3109, p3110, p3111, p3112, p3113, p3114⟩ := ih (x1 + (1 : Int32)) o_36 o_31 o_32 (ok4_) (ok9_) (ok6_) (tu_) (tu_) (tu_) (tu_) (tu_) tu_
                  obtain ⟨f3116, f3117, f3118, f3119⟩ := id p3107
                  obtain ⟨f3120, f3121, f3122, f3123, f3124, f3125, f3126, f3127, f3128⟩ := id p3108
                  obtain ⟨f3129, f3130, f3131, f3132, f3133, f3134⟩ := id p3109
                  refine ⟨y3103, y3104, y3105, y3106, e3115, ok4_, ok9_, ok6_, tu_, tu_, tu_, tu_, tu_⟩
set_option maxHeartbeats 1000000 in
theorem t_Reader_readChoice (o0 : Ob) (o1 : Ob) (o2 : Ob) (g0 : okReader o0) (g1 : okText o1) (g2 : okSteps o2) (g3 : 0 ≤ (g32 o0 3 0).toInt) (g4 : (g32 o0 3 0).toInt ≤ (g32 o0 2 0).toInt) (g5 : cdn o1 ≤ 0) : ∃ (r : Bool) (n0 : Ob) (n1 : Ob) (n2 : Ob), F_Reader_readChoice o0 o1 o2 = some (r, n0, n1, n2) ∧ (okReader n0) ∧ (okText n1) ∧ (okSteps n2) ∧ (0 ≤ (g32 n0 3 0).toInt) ∧ ((g32 n0 3 0).toInt ≤ (g32 n0 2 0).toInt) ∧ ((g32 n1 1 0).toInt = (g32 o1 1 0).toInt) ∧ ((g32 n1 3 0).toInt = (g32 o1 3 0).toInt) ∧ ((g32 n1 11 0).toInt = (g32 o1 11 0).toInt) := by
  obtain ⟨f3135, f3136, f3137, f3138⟩ := id g0
  obtain ⟨f3139, f3140, f3141, f3142, f3143, f3144, f3145, f3146, f3147⟩ := id g1
  obtain ⟨f3148, f3149, f3150, f3151, f3152, f3153⟩ := id g2
  rw [F_Reader_readChoice]
  obtain ⟨y3154, y3155, y3156, y3157, e3166, p3158, p3159, p3160, p3161, p3162, p3163, p3164, p3165⟩ := t_Reader_readChoice_2 fuel (0 : Int32) o0 o1 o2 (ok4_) (ok9_) (ok6_) (tu_) (tu_) (tu_) (tu_) (tu_) tu_
  obtain ⟨f3167, f3168, f3169, f3170⟩ := id p3158
  obtain ⟨f3171, f3172, f3173, f3174, f3175, f3176, f3177, f3178, f3179⟩ := id p3159
  obtain ⟨f3180, f3181, f3182, f3183, f3184, f3185⟩ := id p3160
  refine ⟨y3154, y3155, y3156, y3157, e3166, ok4_, ok9_, ok6_, tu_, tu_, tu_, tu_, tu_⟩
set_option maxHeartbeats 1000000 in
theorem t_Reader_readStatement (o0 : Ob) (o1 : Ob) (o2 : Ob) (g0 : okReader o0) (g1 : okText o1) (g2 : okSteps o2) (g3 : 0 ≤ (g32 o0 3 0).toInt) (g4 : (g32 o0 3 0).toInt ≤ (g32 o0 2 0).toInt) (g5 : (g32 o1 3 0).toInt < 24) : ∃ (r : Bool) (n0 : Ob) (n1 : Ob) (n2 : Ob), F_Reader_readStatement o0 o1 o2 = some (r, n0, n1, n2) ∧ (okReader n0) ∧ (okText n1) ∧ (okSteps n2) ∧ (0 ≤ (g32 n0 3 0).toInt) ∧ ((g32 n0 3 0).toInt ≤ (g32 n0 2 0).toInt) ∧ ((g32 n1 1 0).toInt = (g32 o1 1 0).toInt) ∧ ((g32 n1 11 0).toInt = (g32 o1 11 0).toInt) ∧ ((g32 n1 3 0).toInt ≤ (g32 o1 3 0).toInt + 1) := by
  obtain ⟨f3186, f3187, f3188, f3189⟩ := id g0
  obtain ⟨f3190, f3191, f3192, f3193, f3194, f3195, f3196, f3197, f3198⟩ := id g1
  obtain ⟨f3199, f3200, f3201, f3202, f3203, f3204⟩ := id g2
  rw [F_Reader_readStatement]
  obtain ⟨v2, o_3, e3210, p3205, p3206, p3207, p3208, p3209⟩ := t_Reader_pass (33 : Int32) o0 (ok4_) (tu_) (tu_) (tu_)
  rw [e3210, bind2_s]
  obtain ⟨f3211, f3212, f3213, f3214⟩ := id p3205
  have f3215 := congrArg Int32.toInt (p3208 2 0 (by decide))
  have f3216 := congrArg Int32.toInt (p3208 6 0 (by decide))
  have f3217 := congrArg Int32.toInt (p3208 10 0 (by decide))
  have f3218 := congrArg Int32.toInt (p3208 11 0 (by decide))
  by_cases c3219 : (b2i v2) = 0
  · rw [if_pos c3219]
    have c3219 := b2i_0.mp c3219
    subst c3219
    obtain ⟨v6, o_7, e3227, p3220, p3221, p3222, p3223, p3224, p3225, p3226⟩ := t_Reader_readCellName o_3 (ok4_) (tu_) (tu_)
    rw [e3227, bind2_s]
    obtain ⟨f3228, f3229, f3230, f3231⟩ := id p3220
    have f3232 := congrArg Int32.toInt (p3223 2 0 (by decide))
    have f3233 := congrArg Int32.toInt (p3223 6 0 (by decide))
    have f3234 := congrArg Int32.toInt (p3223 10 0 (by decide))
    have f3235 := congrArg Int32.toInt (p3223 11 0 (by decide))
    by_cases c3236 : v6 = (-1 : Int32)
    · rw [if_pos c3236]
      (try simp (disch := (first | omega | (simp only [Int32.reduceToInt]; omega) | (simp (disch := first | omega | (simp only [Int32.reduceToInt]; omega)) only [tadd, tsub, mul6, neg1, Int32.reduceToInt]; omega))) only [neg1, mul6, g_s, g_l, tadd, tsub, inb_iff, Int32.lt_iff_toInt_lt, Int32.le_iff_toInt_le, i32_eq, b2i_0, Int32.reduceToInt, reduceIte, Nat.reduceEqDiff] at c3236)
      refine ⟨_, _, _, _, rfl, ok4_, ok9_, ok6_, tu_, tu_, tu_, tu_, tu_⟩
    · rw [if_neg c3236]
      (try simp (disch := (first | omega | (simp only [Int32.reduceToInt]; omega) | (simp (disch := first | omega | (simp only [Int32.reduceToInt]; omega)) only [tadd, tsub, mul6, neg1, Int32.reduceToInt]; omega))) only [neg1, mul6, g_s, g_l, tadd, tsub, inb_iff, Int32.lt_iff_toInt_lt, Int32.le_iff_toInt_le, i32_eq, b2i_0, Int32.reduceToInt, reduceIte, Nat.reduceEqDiff] at c3236)
      rw [show (inb v6 60) = true from inb_iff.mpr ⟨tu_, tu_⟩, chk_tr]
      by_cases c3237 : (g32 o1 7 (Int32.toNatClampNeg v6)) = (-1 : Int32)
      · rw [if_pos c3237]
        (try simp (disch := (first | omega | (simp only [Int32.reduceToInt]; omega) | (simp (disch := first | omega | (simp only [Int32.reduceToInt]; omega)) only [tadd, tsub, mul6, neg1, Int32.reduceToInt]; omega))) only [neg1, mul6, g_s, g_l, tadd, tsub, inb_iff, Int32.lt_iff_toInt_lt, Int32.le_iff_toInt_le, i32_eq, b2i_0, Int32.reduceToInt, reduceIte, Nat.reduceEqDiff] at c3237)
        obtain ⟨v12, o_13, e3243, p3238, p3239, p3240, p3241, p3242⟩ := t_Reader_pass (61 : Int32) o_7 (ok4_) (tu_) (tu_) (tu_)
        rw [e3243, bind2_s]
        obtain ⟨f3244, f3245, f3246, f3247⟩ := id p3238
        have f3248 := congrArg Int32.toInt (p3241 2 0 (by decide))
        have f3249 := congrArg Int32.toInt (p3241 6 0 (by decide))
        have f3250 := congrArg Int32.toInt (p3241 10 0 (by decide))
        have f3251 := congrArg Int32.toInt (p3241 11 0 (by decide))
        by_cases c3252 : (b2i v12) = 0
        · rw [if_pos c3252]
          have c3252 := b2i_0.mp c3252
          subst c3252
          refine ⟨_, _, _, _, rfl, ok4_, ok9_, ok6_, tu_, tu_, tu_, tu_, tu_⟩
        · rw [if_neg c3252]
          have c3252 := b2i_1 c3252
          subst c3252
          obtain ⟨o_16, e3258, p3253, p3254, p3255, p3256, p3257⟩ := t_Text_openStatement v6 o1 o2 (ok9_) (ok6_) (tu_) (tu_) (tu_)
          rw [e3258, bind1_s]
          obtain ⟨f3259, f3260, f3261, f3262, f3263, f3264, f3265, f3266, f3267⟩ := id p3253
          obtain ⟨v18, o_19, o_20, o_21, e3276, p3268, p3269, p3270, p3271, p3272, p3273, p3274, p3275⟩ := t_Reader_readChoice o_13 o_16 o2 (ok4_) (ok9_) (ok6_) (tu_) (tu_) (tu_)
          rw [e3276, bind4_s]
          obtain ⟨f3277, f3278, f3279, f3280⟩ := id p3268
          obtain ⟨f3281, f3282, f3283, f3284, f3285, f3286, f3287, f3288, f3289⟩ := id p3269
          obtain ⟨f3290, f3291, f3292, f3293, f3294, f3295⟩ := id p3270
          refine ⟨_, _, _, _, rfl, ok4_, ok9_, ok6_, tu_, tu_, tu_, tu_, tu_⟩
      · rw [if_neg c3237]
        (try simp (disch := (first | omega | (simp only [Int32.reduceToInt]; omega) | (simp (disch := first | omega | (simp only [Int32.reduceToInt]; omega)) only [tadd, tsub, mul6, neg1, Int32.reduceToInt]; omega))) only [neg1, mul6, g_s, g_l, tadd, tsub, inb_iff, Int32.lt_iff_toInt_lt, Int32.le_iff_toInt_le, i32_eq, b2i_0, Int32.reduceToInt, reduceIte, Nat.reduceEqDiff] at c3237)
        refine ⟨_, _, _, _, rfl, ok4_, ok9_, ok6_, tu_, tu_, tu_, tu_, tu_⟩
  · rw [if_neg c3219]
    have c3219 := b2i_1 c3219
    subst c3219
    obtain ⟨o_23, e3301, p3296, p3297, p3298, p3299, p3300⟩ := t_Text_openStatement (-1 : Int32) o1 o2 (ok9_) (ok6_) (tu_) (tu_) (tu_)
    rw [e3301, bind1_s]
    obtain ⟨f3302, f3303, f3304, f3305, f3306, f3307, f3308, f3309, f3310⟩ := id p3296
    obtain ⟨v25, o_26, o_27, o_28, e3319, p3311, p3312, p3313, p3314, p3315, p3316, p3317, p3318⟩ := t_Reader_readCondition o_3 o_23 o2 (ok4_) (ok9_) (ok6_) (tu_) (tu_) (tu_)
    rw [e3319, bind4_s]
    obtain ⟨f3320, f3321, f3322, f3323⟩ := id p3311
    obtain ⟨f3324, f3325, f3326, f3327, f3328, f3329, f3330, f3331, f3332⟩ := id p3312
    obtain ⟨f3333, f3334, f3335, f3336, f3337, f3338⟩ := id p3313
    refine ⟨_, _, _, _, rfl, ok4_, ok9_, ok6_, tu_, tu_, tu_, tu_, tu_⟩
theorem t_Reader_readCollected_92 (x1 : Int32) (o0 o1 o2 : Ob) (g0 : okReader o0) (g1 : okText o1) (g2 : okSteps o2) (g3 : 0 ≤ (g32 o0 3 0).toInt) (g4 : (g32 o0 3 0).toInt ≤ (g32 o0 2 0).toInt) (g5 : ¬ x1.toInt = 0 → OC o1) : ∃ (r : Int32) (n0 : Ob) (n1 : Ob) (n2 : Ob), F_Reader_readCollected_92 x1 o0 o1 o2 = some (r, n0, n1, n2) ∧ (okReader n0) ∧ (okText n1) ∧ (okSteps n2) ∧ (r.toInt < 0 ∨ OC n1) ∧ ((g32 n0 2 0).toInt = 0) := by
  obtain ⟨f1, f2, f3, f4⟩ := id g0
  have h0 : okReader (s32 o0 2 0 (0 : Int32)) := ⟨by show 0 ≤ (0 : Int32).toInt; decide, by show (0 : Int32).toInt ≤ 400; decide, AR.ne (by decide) f3, AR.ne (by decide) f4⟩
  have m1 : (-1 : Int32).toInt = -1 := rfl
  rw [F_Reader_readCollected_92]
  by_cases c : x1 = 0
  · rw [if_pos c]
    have e : ((-1 : Int32) - (g32 o0 3 0)).toInt = -1 - (g32 o0 3 0).toInt := by rw [tsub (by omega) (by omega), m1]
    exact ⟨_, _, o1, o2, rfl, h0, g1, g2, Or.inl (by omega), rfl⟩
  · rw [if_neg c]
    exact ⟨_, _, o1, o2, rfl, h0, g1, g2, Or.inr (g5 (fun z => c (Int32.toInt_inj.mp z))), rfl⟩
theorem t_Reader_readCollected_49 (x1 : Int32) (o0 o1 o2 : Ob) (g0 : okReader o0) (g1 : okText o1) (g2 : okSteps o2) (g3 : 0 ≤ (g32 o0 3 0).toInt) (g4 : (g32 o0 3 0).toInt ≤ (g32 o0 2 0).toInt) (g5 : (g32 o1 1 0).toInt = 0) (g6 : (g32 o1 11 0).toInt = 0) : ∃ (r : Int32) (n0 : Ob) (n1 : Ob) (n2 : Ob), F_Reader_readCollected_49 x1 o0 o1 o2 = some (r, n0, n1, n2) ∧ (okReader n0) ∧ (okText n1) ∧ (okSteps n2) ∧ (r.toInt < 0 ∨ OC n1) ∧ ((g32 n0 2 0).toInt = 0) := by
  rw [F_Reader_readCollected_49]
  by_cases c : x1 = 0
  · rw [if_pos c, if_pos (rfl : (0 : Int32) = 0)]
    exact t_Reader_readCollected_92 0 o0 o1 o2 g0 g1 g2 g3 g4 (fun z => absurd rfl z)
  · rw [if_neg c]
    by_cases d : g32 o0 3 0 = g32 o0 2 0
    · rw [if_pos d, if_neg (by decide : ¬ (1 : Int32) = 0)]
      obtain ⟨a, ea, ra, kT⟩ := t_Text_followNeeds o1 g1
      have k1 := congrArg Int32.toInt kT.1; have k11 := congrArg Int32.toInt kT.2.2.1
      rw [ea, bind1_s]
      obtain ⟨b, eb, rb, oc, b1, b3⟩ := t_Text_findOrder a ra (by omega)
      rw [eb, bind1_s]
      obtain ⟨p, ep, rp, ocp⟩ := t_Reader_print o0 b g0 rb (by omega) oc
      rw [ep, bind1_s]
      exact t_Reader_readCollected_92 1 o0 p o2 g0 rp g2 g3 g4 (fun _ => ocp)
    · rw [if_neg d, if_pos (rfl : (0 : Int32) = 0)]
      exact t_Reader_readCollected_92 0 o0 o1 o2 g0 g1 g2 g3 g4 (fun z => absurd rfl z)
set_option maxHeartbeats 1000000 in
theorem t_Reader_readCollected_19  : ∀ (n : Nat) (x1 : Int32) (x2 : Int32) (o0 : Ob) (o1 : Ob) (o2 : Ob), (okReader o0) → (okText o1) → (okSteps o2) → (0 ≤ (g32 o0 3 0).toInt) → ((g32 o0 3 0).toInt ≤ (g32 o0 2 0).toInt) → (1 ≤ x2.toInt) → (x2.toInt ≤ 24) → ((g32 o1 3 0).toInt ≤ x2.toInt) → ((g32 o1 1 0).toInt = 0) → ((g32 o1 11 0).toInt = 0) → (24 - x2.toInt < (n : Int)) → ∃ (r : Int32) (n0 : Ob) (n1 : Ob) (n2 : Ob), F_Reader_readCollected_19 n x1 x2 o0 o1 o2 = some (r, n0, n1, n2) ∧ (okReader n0) ∧ (okText n1) ∧ (okSteps n2) ∧ (r.toInt < 0 ∨ OC n1) ∧ ((g32 n0 2 0).toInt = 0) := by
  intro n
  induction n with
  | zero =>
    intro x1 x2 o0 o1 o2 g0 g1 g2 g3 g4 g5 g6 g7 g8 g9 g10
    obtain ⟨f3339, f3340, f3341, f3342⟩ := id g0
    obtain ⟨f3343, f3344, f3345, f3346, f3347, f3348, f3349, f3350, f3351⟩ := id g1
    obtain ⟨f3352, f3353, f3354, f3355, f3356, f3357⟩ := id g2
    exfalso
    (try simp (disch := (first | omega | (simp only [Int32.reduceToInt]; omega) | (simp (disch := first | omega | (simp only [Int32.reduceToInt]; omega)) only [tadd, tsub, mul6, neg1, Int32.reduceToInt]; omega))) only [neg1, mul6, g_s, g_l, tadd, tsub, inb_iff, Int32.lt_iff_toInt_lt, Int32.le_iff_toInt_le, i32_eq, b2i_0, Int32.reduceToInt, reduceIte, Nat.reduceEqDiff] at g10)
    exact ari_
  | succ n ih =>
    intro x1 x2 o0 o1 o2 g0 g1 g2 g3 g4 g5 g6 g7 g8 g9 g10
    obtain ⟨f3358, f3359, f3360, f3361⟩ := id g0
    obtain ⟨f3362, f3363, f3364, f3365, f3366, f3367, f3368, f3369, f3370⟩ := id g1
    obtain ⟨f3371, f3372, f3373, f3374, f3375, f3376⟩ := id g2
    rw [F_Reader_readCollected_19]
    (try simp (disch := (first | omega | (simp only [Int32.reduceToInt]; omega) | (simp (disch := first | omega | (simp only [Int32.reduceToInt]; omega)) only [tadd, tsub, mul6, neg1, Int32.reduceToInt]; omega))) only [neg1, mul6, g_s, g_l, tadd, tsub, inb_iff, Int32.lt_iff_toInt_lt, Int32.le_iff_toInt_le, i32_eq, b2i_0, Int32.reduceToInt, reduceIte, Nat.reduceEqDiff] at g10)
    by_cases c3377 : (24 : Int32) ≤ x2
    · rw [if_pos c3377]
      (try simp (disch := (first | omega | (simp only [Int32.reduceToInt]; omega) | (simp (disch := first | omega | (simp only [Int32.reduceToInt]; omega)) only [tadd, tsub, mul6, neg1, Int32.reduceToInt]; omega))) only [neg1, mul6, g_s, g_l, tadd, tsub, inb_iff, Int32.lt_iff_toInt_lt, Int32.le_iff_toInt_le, i32_eq, b2i_0, Int32.reduceToInt, reduceIte, Nat.reduceEqDiff] at c3377)
      obtain ⟨y3378, y3379, y3380, y3381, e3387, p3382, p3383, p3384, p3385, p3386⟩ := t_Reader_readCollected_49 x1 o0 o1 o2 (ok4_) (ok9_) (ok6_) (tu_) (tu_) (tu_) (tu_)
      obtain ⟨f3388, f3389, f3390, f3391⟩ := id p3382
      obtain ⟨f3392, f3393, f3394, f3395, f3396, f3397, f3398, f3399, f3400⟩ := id p3383
      obtain ⟨f3401, f3402, f3403, f3404, f3405, f3406⟩ := id p3384
      refine ⟨y3378, y3379, y3380, y3381, e3387, ok4_, ok9_, ok6_, tu_, tu_⟩
    · rw [if_neg c3377]
      (try simp (disch := (first | omega | (simp only [Int32.reduceToInt]; omega) | (simp (disch := first | omega | (simp only [Int32.reduceToInt]; omega)) only [tadd, tsub, mul6, neg1, Int32.reduceToInt]; omega))) only [neg1, mul6, g_s, g_l, tadd, tsub, inb_iff, Int32.lt_iff_toInt_lt, Int32.le_iff_toInt_le, i32_eq, b2i_0, Int32.reduceToInt, reduceIte, Nat.reduceEqDiff] at c3377)
      by_cases c3407 : x1 = 0
      · rw [if_pos c3407]
        (try simp (disch := (first | omega | (simp only [Int32.reduceToInt]; omega) | (simp (disch := first | omega | (simp only [Int32.reduceToInt]; omega)) only [tadd, tsub, mul6, neg1, Int32.reduceToInt]; omega))) only [neg1, mul6, g_s, g_l, tadd, tsub, inb_iff, Int32.lt_iff_toInt_lt, Int32.le_iff_toInt_le, i32_eq, b2i_0, Int32.reduceToInt, reduceIte, Nat.reduceEqDiff] at c3407)
        obtain ⟨y3408, y3409, y3410, y3411, e3417, p3412, p3413, p3414, p3415, p3416⟩ := t_Reader_readCollected_49 x1 o0 o1 o2 (ok4_) (ok9_) (ok6_) (tu_) (tu_) (tu_) (tu_)
        obtain ⟨f3418, f3419, f3420, f3421⟩ := id p3412
        obtain ⟨f3422, f3423, f3424, f3425, f3426, f3427, f3428, f3429, f3430⟩ := id p3413
        obtain ⟨f3431, f3432, f3433, f3434, f3435, f3436⟩ := id p3414
        refine ⟨y3408, y3409, y3410, y3411, e3417, ok4_, ok9_, ok6_, tu_, tu_⟩
      · rw [if_neg c3407]
        (try simp (disch := (first | omega | (simp only [Int32.reduceToInt]; omega) | (simp (disch := first | omega | (simp only [Int32.reduceToInt]; omega)) only [tadd, tsub, mul6, neg1, Int32.reduceToInt]; omega))) only [neg1, mul6, g_s, g_l, tadd, tsub, inb_iff, Int32.lt_iff_toInt_lt, Int32.le_iff_toInt_le, i32_eq, b2i_0, Int32.reduceToInt, reduceIte, Nat.reduceEqDiff] at c3407)
        obtain ⟨v12, o_13, e3442, p3437, p3438, p3439, p3440, p3441⟩ := t_Reader_pass (59 : Int32) o0 (ok4_) (tu_) (tu_) (tu_)
        rw [e3442, bind2_s]
        obtain ⟨f3443, f3444, f3445, f3446⟩ := id p3437
        have f3447 := congrArg Int32.toInt (p3440 2 0 (by decide))
        have f3448 := congrArg Int32.toInt (p3440 6 0 (by decide))
        have f3449 := congrArg Int32.toInt (p3440 10 0 (by decide))
        have f3450 := congrArg Int32.toInt (p3440 11 0 (by decide))
        by_cases c3451 : (b2i v12) = 0
        · rw [if_pos c3451]
          have c3451 := b2i_0.mp c3451
          subst c3451
          obtain ⟨y3452, y3453, y3454, y3455, e3461, p3456, p3457, p3458, p3459, p3460⟩ := t_Reader_readCollected_49 x1 o_13 o1 o2 (ok4_) (ok9_) (ok6_) (tu_) (tu_) (tu_) (tu_)
          obtain ⟨f3462, f3463, f3464, f3465⟩ := id p3456
          obtain ⟨f3466, f3467, f3468, f3469, f3470, f3471, f3472, f3473, f3474⟩ := id p3457
          obtain ⟨f3475, f3476, f3477, f3478, f3479, f3480⟩ := id p3458
          refine ⟨y3452, y3453, y3454, y3455, e3461, ok4_, ok9_, ok6_, tu_, tu_⟩
        · rw [if_neg c3451]
          have c3451 := b2i_1 c3451
          subst c3451
          obtain ⟨v16, o_17, o_18, o_19, e3489, p3481, p3482, p3483, p3484, p3485, p3486, p3487, p3488⟩ := t_Reader_readStatement o_13 o1 o2 (ok4_) (ok9_) (ok6_) (tu_) (tu_) (tu_)
          rw [e3489, bind4_s]
          obtain ⟨f3490, f3491, f3492, f3493⟩ := id p3481
          obtain ⟨f3494, f3495, f3496, f3497, f3498, f3499, f3500, f3501, f3502⟩ := id p3482
          obtain ⟨f3503, f3504, f3505, f3506, f3507, f3508⟩ := id p3483
          obtain ⟨y3509, y3510, y3511, y3512, e3518, p3513, p3514, p3515, p3516, p3517⟩ := ih (b2i v16) (x2 + (1 : Int32)) o_17 o_18 o_19 (ok4_) (ok9_) (ok6_) (tu_) (tu_) (tu_) (tu_) (tu_) (tu_) (tu_) tu_
          obtain ⟨f3519, f3520, f3521, f3522⟩ := id p3513
          obtain ⟨f3523, f3524, f3525, f3526, f3527, f3528, f3529, f3530, f3531⟩ := id p3514
          obtain ⟨f3532, f3533, f3534, f3535, f3536, f3537⟩ := id p3515
          refine ⟨y3509, y3510, y3511, y3512, e3518, ok4_, ok9_, ok6_, tu_, tu_⟩
set_option maxHeartbeats 1000000 in
theorem t_Reader_readCollected (o0 : Ob) (o1 : Ob) (o2 : Ob) (g0 : okReader o0) (g1 : okText o1) (g2 : okSteps o2) : ∃ (r : Int32) (n0 : Ob) (n1 : Ob) (n2 : Ob), F_Reader_readCollected o0 o1 o2 = some (r, n0, n1, n2) ∧ (okReader n0) ∧ (okText n1) ∧ (okSteps n2) ∧ (r.toInt < 0 ∨ OC n1) ∧ ((g32 n0 2 0).toInt = 0) := by
  obtain ⟨f3538, f3539, f3540, f3541⟩ := id g0
  obtain ⟨f3542, f3543, f3544, f3545, f3546, f3547, f3548, f3549, f3550⟩ := id g1
  obtain ⟨f3551, f3552, f3553, f3554, f3555, f3556⟩ := id g2
  rw [F_Reader_readCollected]
  obtain ⟨o_2, o_3, e3562, p3557, p3558, p3559, p3560, p3561⟩ := t_Text_clear o1 o2 (ok9_) (ok6_)
  rw [e3562, bind2_s]
  obtain ⟨f3563, f3564, f3565, f3566, f3567, f3568, f3569, f3570, f3571⟩ := id p3557
  obtain ⟨f3572, f3573, f3574, f3575, f3576, f3577⟩ := id p3558
  obtain ⟨v5, o_6, o_7, o_8, e3586, p3578, p3579, p3580, p3581, p3582, p3583, p3584, p3585⟩ := t_Reader_readStatement (s32 o0 3 0 (0 : Int32)) o_2 o_3 (ok4_) (ok9_) (ok6_) (tu_) (tu_) (tu_)
  rw [e3586, bind4_s]
  obtain ⟨f3587, f3588, f3589, f3590⟩ := id p3578
  obtain ⟨f3591, f3592, f3593, f3594, f3595, f3596, f3597, f3598, f3599⟩ := id p3579
  obtain ⟨f3600, f3601, f3602, f3603, f3604, f3605⟩ := id p3580
  obtain ⟨y3606, y3607, y3608, y3609, e3615, p3610, p3611, p3612, p3613, p3614⟩ := t_Reader_readCollected_19 fuel (b2i v5) (1 : Int32) o_6 o_7 o_8 (ok4_) (ok9_) (ok6_) (tu_) (tu_) (tu_) (tu_) (tu_) (tu_) (tu_) tu_
  obtain ⟨f3616, f3617, f3618, f3619⟩ := id p3610
  obtain ⟨f3620, f3621, f3622, f3623, f3624, f3625, f3626, f3627, f3628⟩ := id p3611
  obtain ⟨f3629, f3630, f3631, f3632, f3633, f3634⟩ := id p3612
  refine ⟨y3606, y3607, y3608, y3609, e3615, ok4_, ok9_, ok6_, tu_, tu_⟩
