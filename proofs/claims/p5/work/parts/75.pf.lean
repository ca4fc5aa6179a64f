set_option maxHeartbeats 1000000 in
theorem t_PF_demandRead (o0 : Ob) (g0 : okPF o0) : ∃ (kx : Nat) (u_ : Unit), F_PF_demandRead o0 = some (kx, u_) ∧ (kx = 0 ∨ kx = 1) := by
  obtain ⟨f3635, f3636⟩ := id g0
  rw [F_PF_demandRead]
  by_cases c3637 : (g32 o0 2 0) = 0
  · rw [if_pos c3637]
    (try simp (disch := (first | omega | (simp only [Int32.reduceToInt]; omega) | (simp (disch := first | omega | (simp only [Int32.reduceToInt]; omega)) only [tadd, tsub, mul6, neg1, Int32.reduceToInt]; omega))) only [neg1, mul6, g_s, g_l, tadd, tsub, inb_iff, Int32.lt_iff_toInt_lt, Int32.le_iff_toInt_le, i32_eq, b2i_0, Int32.reduceToInt, reduceIte, Nat.reduceEqDiff] at c3637)
    refine ⟨_, _, rfl, tu_⟩
  · rw [if_neg c3637]
    (try simp (disch := (first | omega | (simp only [Int32.reduceToInt]; omega) | (simp (disch := first | omega | (simp only [Int32.reduceToInt]; omega)) only [tadd, tsub, mul6, neg1, Int32.reduceToInt]; omega))) only [neg1, mul6, g_s, g_l, tadd, tsub, inb_iff, Int32.lt_iff_toInt_lt, Int32.le_iff_toInt_le, i32_eq, b2i_0, Int32.reduceToInt, reduceIte, Nat.reduceEqDiff] at c3637)
    have q3638 : ∃ (u_ : Unit), (some ()) = some u_ ∧ ((0 : Nat) = 0 ∨ (0 : Nat) = 1) := by
      refine ⟨_, rfl, tu_⟩
    obtain ⟨y3641, e3639, p3640⟩ := q3638
    exact ⟨0, y3641, by rw [e3639]; rfl, p3640⟩
set_option maxHeartbeats 1000000 in
theorem t_PF_demandWorkedOut (o0 : Ob) (g0 : okPF o0) : ∃ (kx : Nat) (u_ : Unit), F_PF_demandWorkedOut o0 = some (kx, u_) ∧ (kx = 0 ∨ kx = 1) := by
  obtain ⟨f3642, f3643⟩ := id g0
  rw [F_PF_demandWorkedOut]
  by_cases c3644 : (g32 o0 3 0) = 0
  · rw [if_pos c3644]
    (try simp (disch := (first | omega | (simp only [Int32.reduceToInt]; omega) | (simp (disch := first | omega | (simp only [Int32.reduceToInt]; omega)) only [tadd, tsub, mul6, neg1, Int32.reduceToInt]; omega))) only [neg1, mul6, g_s, g_l, tadd, tsub, inb_iff, Int32.lt_iff_toInt_lt, Int32.le_iff_toInt_le, i32_eq, b2i_0, Int32.reduceToInt, reduceIte, Nat.reduceEqDiff] at c3644)
    refine ⟨_, _, rfl, tu_⟩
  · rw [if_neg c3644]
    (try simp (disch := (first | omega | (simp only [Int32.reduceToInt]; omega) | (simp (disch := first | omega | (simp only [Int32.reduceToInt]; omega)) only [tadd, tsub, mul6, neg1, Int32.reduceToInt]; omega))) only [neg1, mul6, g_s, g_l, tadd, tsub, inb_iff, Int32.lt_iff_toInt_lt, Int32.le_iff_toInt_le, i32_eq, b2i_0, Int32.reduceToInt, reduceIte, Nat.reduceEqDiff] at c3644)
    have q3645 : ∃ (u_ : Unit), (some ()) = some u_ ∧ ((0 : Nat) = 0 ∨ (0 : Nat) = 1) := by
      refine ⟨_, rfl, tu_⟩
    obtain ⟨y3648, e3646, p3647⟩ := q3645
    exact ⟨0, y3648, by rw [e3646]; rfl, p3647⟩
set_option maxHeartbeats 1000000 in
theorem t_PF_demandNotNegative (x0 : Int32)  : ∃ (kx : Nat) (u_ : Unit), F_PF_demandNotNegative x0 = some (kx, u_) ∧ (kx = 0 ∧ 0 ≤ x0.toInt ∨ kx = 2) := by
  rw [F_PF_demandNotNegative]
  by_cases c3649 : 0 ≤ x0
  · rw [if_pos c3649]
    (try simp (disch := (first | omega | (simp only [Int32.reduceToInt]; omega) | (simp (disch := first | omega | (simp only [Int32.reduceToInt]; omega)) only [tadd, tsub, mul6, neg1, Int32.reduceToInt]; omega))) only [neg1, mul6, g_s, g_l, tadd, tsub, inb_iff, Int32.lt_iff_toInt_lt, Int32.le_iff_toInt_le, i32_eq, b2i_0, Int32.reduceToInt, reduceIte, Nat.reduceEqDiff] at c3649)
    have q3650 : ∃ (u_ : Unit), (some ()) = some u_ ∧ ((0 : Nat) = 0 ∧ 0 ≤ x0.toInt ∨ (0 : Nat) = 2) := by
      refine ⟨_, rfl, tu_⟩
    obtain ⟨y3653, e3651, p3652⟩ := q3650
    exact ⟨0, y3653, by rw [e3651]; rfl, p3652⟩
  · rw [if_neg c3649]
    (try simp (disch := (first | omega | (simp only [Int32.reduceToInt]; omega) | (simp (disch := first | omega | (simp only [Int32.reduceToInt]; omega)) only [tadd, tsub, mul6, neg1, Int32.reduceToInt]; omega))) only [neg1, mul6, g_s, g_l, tadd, tsub, inb_iff, Int32.lt_iff_toInt_lt, Int32.le_iff_toInt_le, i32_eq, b2i_0, Int32.reduceToInt, reduceIte, Nat.reduceEqDiff] at c3649)
    refine ⟨_, _, rfl, tu_⟩
set_option maxHeartbeats 1000000 in
theorem t_PF_demandIndex (x0 : Int32) (x1 : Int32)  : ∃ (kx : Nat) (u_ : Unit), F_PF_demandIndex x0 x1 = some (kx, u_) ∧ (kx = 0 ∧ 0 ≤ x0.toInt ∧ x0.toInt < x1.toInt ∨ kx = 3) := by
  rw [F_PF_demandIndex]
  by_cases c3654 : x0 < 0
  · rw [if_pos c3654]
    (try simp (disch := (first | omega | (simp only [Int32.reduceToInt]; omega) | (simp (disch := first | omega | (simp only [Int32.reduceToInt]; omega)) only [tadd, tsub, mul6, neg1, Int32.reduceToInt]; omega))) only [neg1, mul6, g_s, g_l, tadd, tsub, inb_iff, Int32.lt_iff_toInt_lt, Int32.le_iff_toInt_le, i32_eq, b2i_0, Int32.reduceToInt, reduceIte, Nat.reduceEqDiff] at c3654)
    refine ⟨_, _, rfl, tu_⟩
  · rw [if_neg c3654]
    (try simp (disch := (first | omega | (simp only [Int32.reduceToInt]; omega) | (simp (disch := first | omega | (simp only [Int32.reduceToInt]; omega)) only [tadd, tsub, mul6, neg1, Int32.reduceToInt]; omega))) only [neg1, mul6, g_s, g_l, tadd, tsub, inb_iff, Int32.lt_iff_toInt_lt, Int32.le_iff_toInt_le, i32_eq, b2i_0, Int32.reduceToInt, reduceIte, Nat.reduceEqDiff] at c3654)
    by_cases c3655 : x0 < x1
    · rw [if_pos c3655]
      (try simp (disch := (first | omega | (simp only [Int32.reduceToInt]; omega) | (simp (disch := first | omega | (simp only [Int32.reduceToInt]; omega)) only [tadd, tsub, mul6, neg1, Int32.reduceToInt]; omega))) only [neg1, mul6, g_s, g_l, tadd, tsub, inb_iff, Int32.lt_iff_toInt_lt, Int32.le_iff_toInt_le, i32_eq, b2i_0, Int32.reduceToInt, reduceIte, Nat.reduceEqDiff] at c3655)
      have q3656 : ∃ (u_ : Unit), (some ()) = some u_ ∧ ((0 : Nat) = 0 ∧ 0 ≤ x0.toInt ∧ x0.toInt < x1.toInt ∨ (0 : Nat) = 3) := by
        refine ⟨_, rfl, tu_⟩
      obtain ⟨y3659, e3657, p3658⟩ := q3656
      exact ⟨0, y3659, by rw [e3657]; rfl, p3658⟩
    · rw [if_neg c3655]
      (try simp (disch := (first | omega | (simp only [Int32.reduceToInt]; omega) | (simp (disch := first | omega | (simp only [Int32.reduceToInt]; omega)) only [tadd, tsub, mul6, neg1, Int32.reduceToInt]; omega))) only [neg1, mul6, g_s, g_l, tadd, tsub, inb_iff, Int32.lt_iff_toInt_lt, Int32.le_iff_toInt_le, i32_eq, b2i_0, Int32.reduceToInt, reduceIte, Nat.reduceEqDiff] at c3655)
      refine ⟨_, _, rfl, tu_⟩
set_option maxHeartbeats 1000000 in
theorem t_PF_demandZeroOrOne (x0 : Int32)  : ∃ (kx : Nat) (u_ : Unit), F_PF_demandZeroOrOne x0 = some (kx, u_) ∧ (kx = 0 ∨ kx = 2) := by
  rw [F_PF_demandZeroOrOne]
  by_cases c3660 : x0 = 0
  · rw [if_pos c3660]
    (try simp (disch := (first | omega | (simp only [Int32.reduceToInt]; omega) | (simp (disch := first | omega | (simp only [Int32.reduceToInt]; omega)) only [tadd, tsub, mul6, neg1, Int32.reduceToInt]; omega))) only [neg1, mul6, g_s, g_l, tadd, tsub, inb_iff, Int32.lt_iff_toInt_lt, Int32.le_iff_toInt_le, i32_eq, b2i_0, Int32.reduceToInt, reduceIte, Nat.reduceEqDiff] at c3660)
    have q3661 : ∃ (u_ : Unit), (some ()) = some u_ ∧ ((0 : Nat) = 0 ∨ (0 : Nat) = 2) := by
      refine ⟨_, rfl, tu_⟩
    obtain ⟨y3664, e3662, p3663⟩ := q3661
    exact ⟨0, y3664, by rw [e3662]; rfl, p3663⟩
  · rw [if_neg c3660]
    (try simp (disch := (first | omega | (simp only [Int32.reduceToInt]; omega) | (simp (disch := first | omega | (simp only [Int32.reduceToInt]; omega)) only [tadd, tsub, mul6, neg1, Int32.reduceToInt]; omega))) only [neg1, mul6, g_s, g_l, tadd, tsub, inb_iff, Int32.lt_iff_toInt_lt, Int32.le_iff_toInt_le, i32_eq, b2i_0, Int32.reduceToInt, reduceIte, Nat.reduceEqDiff] at c3660)
    by_cases c3665 : x0 = (1 : Int32)
    · rw [if_pos c3665]
      (try simp (disch := (first | omega | (simp only [Int32.reduceToInt]; omega) | (simp (disch := first | omega | (simp only [Int32.reduceToInt]; omega)) only [tadd, tsub, mul6, neg1, Int32.reduceToInt]; omega))) only [neg1, mul6, g_s, g_l, tadd, tsub, inb_iff, Int32.lt_iff_toInt_lt, Int32.le_iff_toInt_le, i32_eq, b2i_0, Int32.reduceToInt, reduceIte, Nat.reduceEqDiff] at c3665)
      have q3666 : ∃ (u_ : Unit), (some ()) = some u_ ∧ ((0 : Nat) = 0 ∨ (0 : Nat) = 2) := by
        refine ⟨_, rfl, tu_⟩
      obtain ⟨y3669, e3667, p3668⟩ := q3666
      exact ⟨0, y3669, by rw [e3667]; rfl, p3668⟩
    · rw [if_neg c3665]
      (try simp (disch := (first | omega | (simp only [Int32.reduceToInt]; omega) | (simp (disch := first | omega | (simp only [Int32.reduceToInt]; omega)) only [tadd, tsub, mul6, neg1, Int32.reduceToInt]; omega))) only [neg1, mul6, g_s, g_l, tadd, tsub, inb_iff, Int32.lt_iff_toInt_lt, Int32.le_iff_toInt_le, i32_eq, b2i_0, Int32.reduceToInt, reduceIte, Nat.reduceEqDiff] at c3665)
      refine ⟨_, _, rfl, tu_⟩
set_option maxHeartbeats 1000000 in
theorem t_PF_cellNumber (x0 : Int32) (x1 : Int32)  : ∃ (kx : Nat) (r : Int32), F_PF_cellNumber x0 x1 = some (kx, r) ∧ (kx = 0 ∧ 0 ≤ r.toInt ∧ r.toInt < 60 ∨ kx = 3) := by
  rw [F_PF_cellNumber]
  obtain ⟨k_2, u_3, e3671, p3670⟩ := t_PF_demandIndex x0 (10 : Int32)
  rw [e3671, bind2_s]
  (try simp (disch := (first | omega | (simp only [Int32.reduceToInt]; omega) | (simp (disch := first | omega | (simp only [Int32.reduceToInt]; omega)) only [tadd, tsub, mul6, neg1, Int32.reduceToInt]; omega))) only [neg1, mul6, g_s, g_l, tadd, tsub, inb_iff, Int32.lt_iff_toInt_lt, Int32.le_iff_toInt_le, i32_eq, b2i_0, Int32.reduceToInt, reduceIte, Nat.reduceEqDiff] at p3670)
  by_cases c3672 : k_2 = 0
  · rw [if_pos c3672]
    (try simp (disch := (first | omega | (simp only [Int32.reduceToInt]; omega) | (simp (disch := first | omega | (simp only [Int32.reduceToInt]; omega)) only [tadd, tsub, mul6, neg1, Int32.reduceToInt]; omega))) only [neg1, mul6, g_s, g_l, tadd, tsub, inb_iff, Int32.lt_iff_toInt_lt, Int32.le_iff_toInt_le, i32_eq, b2i_0, Int32.reduceToInt, reduceIte, Nat.reduceEqDiff] at c3672)
    obtain ⟨k_6, u_7, e3674, p3673⟩ := t_PF_demandIndex x1 (6 : Int32)
    rw [e3674, bind2_s]
    (try simp (disch := (first | omega | (simp only [Int32.reduceToInt]; omega) | (simp (disch := first | omega | (simp only [Int32.reduceToInt]; omega)) only [tadd, tsub, mul6, neg1, Int32.reduceToInt]; omega))) only [neg1, mul6, g_s, g_l, tadd, tsub, inb_iff, Int32.lt_iff_toInt_lt, Int32.le_iff_toInt_le, i32_eq, b2i_0, Int32.reduceToInt, reduceIte, Nat.reduceEqDiff] at p3673)
    by_cases c3675 : k_6 = 0
    · rw [if_pos c3675]
      (try simp (disch := (first | omega | (simp only [Int32.reduceToInt]; omega) | (simp (disch := first | omega | (simp only [Int32.reduceToInt]; omega)) only [tadd, tsub, mul6, neg1, Int32.reduceToInt]; omega))) only [neg1, mul6, g_s, g_l, tadd, tsub, inb_iff, Int32.lt_iff_toInt_lt, Int32.le_iff_toInt_le, i32_eq, b2i_0, Int32.reduceToInt, reduceIte, Nat.reduceEqDiff] at c3675)
      have q3676 : ∃ (r : Int32), (some (((6 : Int32) * x0) + x1)) = some r ∧ ((0 : Nat) = 0 ∧ 0 ≤ r.toInt ∧ r.toInt < 60 ∨ (0 : Nat) = 3) := by
        refine ⟨_, rfl, tu_⟩
      obtain ⟨y3679, e3677, p3678⟩ := q3676
      exact ⟨0, y3679, by rw [e3677]; rfl, p3678⟩
    · rw [if_neg c3675]
      (try simp (disch := (first | omega | (simp only [Int32.reduceToInt]; omega) | (simp (disch := first | omega | (simp only [Int32.reduceToInt]; omega)) only [tadd, tsub, mul6, neg1, Int32.reduceToInt]; omega))) only [neg1, mul6, g_s, g_l, tadd, tsub, inb_iff, Int32.lt_iff_toInt_lt, Int32.le_iff_toInt_le, i32_eq, b2i_0, Int32.reduceToInt, reduceIte, Nat.reduceEqDiff] at c3675)
      refine ⟨_, _, rfl, tu_⟩
  · rw [if_neg c3672]
    (try simp (disch := (first | omega | (simp only [Int32.reduceToInt]; omega) | (simp (disch := first | omega | (simp only [Int32.reduceToInt]; omega)) only [tadd, tsub, mul6, neg1, Int32.reduceToInt]; omega))) only [neg1, mul6, g_s, g_l, tadd, tsub, inb_iff, Int32.lt_iff_toInt_lt, Int32.le_iff_toInt_le, i32_eq, b2i_0, Int32.reduceToInt, reduceIte, Nat.reduceEqDiff] at c3672)
    refine ⟨_, _, rfl, tu_⟩
theorem t_PF_unit (x1 : Int32) (o0 o1 : Ob) (g0 : okPF o0) (g1 : okReader o1) : ∃ (r : Bool) (n1 : Ob), F_PF_unit x1 o0 o1 = some (r, n1) ∧ (okReader n1) ∧ ((r = decide (33 ≤ x1.toInt ∧ x1.toInt ≤ 126 ∧ (g32 o1 2 0).toInt < 400)) ∧ ((g32 n1 2 0).toInt = (g32 o1 2 0).toInt + (if r = true then 1 else 0))) := by
  obtain ⟨f1, f2, f3, f4⟩ := id g1
  have z33 : (33 : Int32).toInt = 33 := rfl
  have z126 : (126 : Int32).toInt = 126 := rfl
  have z400 : (400 : Int32).toInt = 400 := rfl
  rw [F_PF_unit]
  by_cases c1 : x1 < (33 : Int32)
  · rw [if_pos c1]
    have c1 := Int32.lt_iff_toInt_lt.mp c1
    exact ⟨false, o1, rfl, g1, (decide_eq_false (by omega)).symm, by rw [if_neg (by decide)]; exact (Int.add_zero _).symm⟩
  rw [if_neg c1]
  have c1 : ¬ x1.toInt < 33 := fun z => c1 (Int32.lt_iff_toInt_lt.mpr (by omega))
  by_cases c2 : (126 : Int32) < x1
  · rw [if_pos c2]
    have c2 := Int32.lt_iff_toInt_lt.mp c2
    exact ⟨false, o1, rfl, g1, (decide_eq_false (by omega)).symm, by rw [if_neg (by decide)]; exact (Int.add_zero _).symm⟩
  rw [if_neg c2]
  have c2 : ¬ 126 < x1.toInt := fun z => c2 (Int32.lt_iff_toInt_lt.mpr (by omega))
  rw [F_Reader_collect]
  by_cases c3 : (g32 o1 2 0) < (400 : Int32)
  · rw [if_pos c3]
    have c3 := Int32.lt_iff_toInt_lt.mp c3
    rw [show (inb (g32 o1 2 0) 400) = true from inb_iff.mpr ⟨f1, by omega⟩, chk_tr, bind2_s, if_neg (by decide)]
    have e := add1 (x := g32 o1 2 0) (by omega)
    refine ⟨true, _, rfl, ⟨?_, ?_, ?_, ?_⟩, (decide_eq_true (by omega)).symm, ?_⟩
    · show 0 ≤ ((g32 o1 2 0) + (1 : Int32)).toInt; omega
    · show ((g32 o1 2 0) + (1 : Int32)).toInt ≤ 400; omega
    · exact AR.ne (by decide) (AR.ne (by decide) (AR.eq nar_c0 nar_c1 f3))
    · exact AR.ne (by decide) (AR.ne (by decide) (AR.ne (by decide) f4))
    · rw [if_pos rfl]; exact e
  · rw [if_neg c3, bind2_s, if_pos (by decide)]
    have c3 : ¬ (g32 o1 2 0).toInt < 400 := fun z => c3 (Int32.lt_iff_toInt_lt.mpr (by omega))
    exact ⟨false, o1, rfl, g1, (decide_eq_false (by omega)).symm, by rw [if_neg (by decide)]; exact (Int.add_zero _).symm⟩
set_option maxHeartbeats 1000000 in
theorem t_PF_write (x1 : Int32) (o0 : Ob) (o1 : Ob) (g0 : okPF o0) (g1 : okText o1) : ∃ (kx : Nat) (r : Int32), F_PF_write x1 o0 o1 = some (kx, r) ∧ (kx = 0 ∨ kx = 1 ∨ kx = 2) := by
  obtain ⟨f3680, f3681⟩ := id g0
  obtain ⟨f3682, f3683, f3684, f3685, f3686, f3687, f3688, f3689, f3690⟩ := id g1
  rw [F_PF_write]
  obtain ⟨k_2, u_3, e3692, p3691⟩ := t_PF_demandRead o0 (ok2_)
  rw [e3692, bind2_s]
  by_cases c3693 : k_2 = 0
  · rw [if_pos c3693]
    (try simp (disch := (first | omega | (simp only [Int32.reduceToInt]; omega) | (simp (disch := first | omega | (simp only [Int32.reduceToInt]; omega)) only [tadd, tsub, mul6, neg1, Int32.reduceToInt]; omega))) only [neg1, mul6, g_s, g_l, tadd, tsub, inb_iff, Int32.lt_iff_toInt_lt, Int32.le_iff_toInt_le, i32_eq, b2i_0, Int32.reduceToInt, reduceIte, Nat.reduceEqDiff] at c3693)
    obtain ⟨k_6, u_7, e3695, p3694⟩ := t_PF_demandNotNegative x1
    rw [e3695, bind2_s]
    by_cases c3696 : k_6 = 0
    · rw [if_pos c3696]
      (try simp (disch := (first | omega | (simp only [Int32.reduceToInt]; omega) | (simp (disch := first | omega | (simp only [Int32.reduceToInt]; omega)) only [tadd, tsub, mul6, neg1, Int32.reduceToInt]; omega))) only [neg1, mul6, g_s, g_l, tadd, tsub, inb_iff, Int32.lt_iff_toInt_lt, Int32.le_iff_toInt_le, i32_eq, b2i_0, Int32.reduceToInt, reduceIte, Nat.reduceEqDiff] at c3696)
      have q3697 : ∃ (r : Int32), (if (g32 o1 1 0) ≤ x1 then (some (-1 : Int32)) else (chk (inb x1 400) (some (g32 o1 0 (Int32.toNatClampNeg x1))))) = some r ∧ ((0 : Nat) = 0 ∨ (0 : Nat) = 1 ∨ (0 : Nat) = 2) := by
        by_cases c3701 : (g32 o1 1 0) ≤ x1
        · rw [if_pos c3701]
          (try simp (disch := (first | omega | (simp only [Int32.reduceToInt]; omega) | (simp (disch := first | omega | (simp only [Int32.reduceToInt]; omega)) only [tadd, tsub, mul6, neg1, Int32.reduceToInt]; omega))) only [neg1, mul6, g_s, g_l, tadd, tsub, inb_iff, Int32.lt_iff_toInt_lt, Int32.le_iff_toInt_le, i32_eq, b2i_0, Int32.reduceToInt, reduceIte, Nat.reduceEqDiff] at c3701)
          refine ⟨_, rfl, tu_⟩
        · rw [if_neg c3701]
          (try simp (disch := (first | omega | (simp only [Int32.reduceToInt]; omega) | (simp (disch := first | omega | (simp only [Int32.reduceToInt]; omega)) only [tadd, tsub, mul6, neg1, Int32.reduceToInt]; omega))) only [neg1, mul6, g_s, g_l, tadd, tsub, inb_iff, Int32.lt_iff_toInt_lt, Int32.le_iff_toInt_le, i32_eq, b2i_0, Int32.reduceToInt, reduceIte, Nat.reduceEqDiff] at c3701)
          rw [show (inb x1 400) = true from inb_iff.mpr ⟨tu_, tu_⟩, chk_tr]
          refine ⟨_, rfl, tu_⟩
      obtain ⟨y3700, e3698, p3699⟩ := q3697
      exact ⟨0, y3700, by rw [e3698]; rfl, p3699⟩
    · rw [if_neg c3696]
      (try simp (disch := (first | omega | (simp only [Int32.reduceToInt]; omega) | (simp (disch := first | omega | (simp only [Int32.reduceToInt]; omega)) only [tadd, tsub, mul6, neg1, Int32.reduceToInt]; omega))) only [neg1, mul6, g_s, g_l, tadd, tsub, inb_iff, Int32.lt_iff_toInt_lt, Int32.le_iff_toInt_le, i32_eq, b2i_0, Int32.reduceToInt, reduceIte, Nat.reduceEqDiff] at c3696)
      refine ⟨_, _, rfl, tu_⟩
  · rw [if_neg c3693]
    (try simp (disch := (first | omega | (simp only [Int32.reduceToInt]; omega) | (simp (disch := first | omega | (simp only [Int32.reduceToInt]; omega)) only [tadd, tsub, mul6, neg1, Int32.reduceToInt]; omega))) only [neg1, mul6, g_s, g_l, tadd, tsub, inb_iff, Int32.lt_iff_toInt_lt, Int32.le_iff_toInt_le, i32_eq, b2i_0, Int32.reduceToInt, reduceIte, Nat.reduceEqDiff] at c3693)
    refine ⟨_, _, rfl, tu_⟩
set_option maxHeartbeats 1000000 in
theorem t_PF_set (x1 : Int32) (x2 : Int64) (x4 : Int64) (o0 : Ob) (o1 : Ob) (o2 : Ob) (o3 : Ob) (o4 : Ob) (g0 : okPF o0) (g1 : okReckoner o2) (g2 : okText o3) (g3 : okSteps o4) (g4 : OC o3) : ∃ (kx : Nat) (r : Bool) (n0 : Ob) (n1 : Ob) (n2 : Ob), F_PF_set x1 x2 x4 o0 o1 o2 o3 o4 = some (kx, r, n0, n1, n2) ∧ (okPF n0) ∧ (okReckoner n2) ∧ (kx = 0 ∨ kx = 2 ∨ kx = 3) := by
  obtain ⟨f3702, f3703⟩ := id g0
  obtain ⟨f3704, f3705⟩ := id g1
  obtain ⟨f3706, f3707, f3708, f3709, f3710, f3711, f3712, f3713, f3714⟩ := id g2
  obtain ⟨f3715, f3716, f3717, f3718, f3719, f3720⟩ := id g3
  rw [F_PF_set]
  obtain ⟨k_2, u_3, e3722, p3721⟩ := t_PF_demandIndex x1 (8 : Int32)
  rw [e3722, bind2_s]
  (try simp (disch := (first | omega | (simp only [Int32.reduceToInt]; omega) | (simp (disch := first | omega | (simp only [Int32.reduceToInt]; omega)) only [tadd, tsub, mul6, neg1, Int32.reduceToInt]; omega))) only [neg1, mul6, g_s, g_l, tadd, tsub, inb_iff, Int32.lt_iff_toInt_lt, Int32.le_iff_toInt_le, i32_eq, b2i_0, Int32.reduceToInt, reduceIte, Nat.reduceEqDiff] at p3721)
  by_cases c3723 : k_2 = 0
  · rw [if_pos c3723]
    (try simp (disch := (first | omega | (simp only [Int32.reduceToInt]; omega) | (simp (disch := first | omega | (simp only [Int32.reduceToInt]; omega)) only [tadd, tsub, mul6, neg1, Int32.reduceToInt]; omega))) only [neg1, mul6, g_s, g_l, tadd, tsub, inb_iff, Int32.lt_iff_toInt_lt, Int32.le_iff_toInt_le, i32_eq, b2i_0, Int32.reduceToInt, reduceIte, Nat.reduceEqDiff] at c3723)
    by_cases c3724 : (lg_cmp x4 (1 : Int64)) < 0
    · rw [if_pos c3724]
      (try simp (disch := (first | omega | (simp only [Int32.reduceToInt]; omega) | (simp (disch := first | omega | (simp only [Int32.reduceToInt]; omega)) only [tadd, tsub, mul6, neg1, Int32.reduceToInt]; omega))) only [neg1, mul6, g_s, g_l, tadd, tsub, inb_iff, Int32.lt_iff_toInt_lt, Int32.le_iff_toInt_le, i32_eq, b2i_0, Int32.reduceToInt, reduceIte, Nat.reduceEqDiff] at c3724)
      refine ⟨_, _, _, _, _, rfl, ok2_, ok2_, tu_⟩
    · rw [if_neg c3724]
      (try simp (disch := (first | omega | (simp only [Int32.reduceToInt]; omega) | (simp (disch := first | omega | (simp only [Int32.reduceToInt]; omega)) only [tadd, tsub, mul6, neg1, Int32.reduceToInt]; omega))) only [neg1, mul6, g_s, g_l, tadd, tsub, inb_iff, Int32.lt_iff_toInt_lt, Int32.le_iff_toInt_le, i32_eq, b2i_0, Int32.reduceToInt, reduceIte, Nat.reduceEqDiff] at c3724)
      by_cases c3725 : 0 < (lg_cmp x4 (1000000000 : Int64))
      · rw [if_pos c3725]
        (try simp (disch := (first | omega | (simp only [Int32.reduceToInt]; omega) | (simp (disch := first | omega | (simp only [Int32.reduceToInt]; omega)) only [tadd, tsub, mul6, neg1, Int32.reduceToInt]; omega))) only [neg1, mul6, g_s, g_l, tadd, tsub, inb_iff, Int32.lt_iff_toInt_lt, Int32.le_iff_toInt_le, i32_eq, b2i_0, Int32.reduceToInt, reduceIte, Nat.reduceEqDiff] at c3725)
        refine ⟨_, _, _, _, _, rfl, ok2_, ok2_, tu_⟩
      · rw [if_neg c3725]
        (try simp (disch := (first | omega | (simp only [Int32.reduceToInt]; omega) | (simp (disch := first | omega | (simp only [Int32.reduceToInt]; omega)) only [tadd, tsub, mul6, neg1, Int32.reduceToInt]; omega))) only [neg1, mul6, g_s, g_l, tadd, tsub, inb_iff, Int32.lt_iff_toInt_lt, Int32.le_iff_toInt_le, i32_eq, b2i_0, Int32.reduceToInt, reduceIte, Nat.reduceEqDiff] at c3725)
        by_cases c3726 : 0 < (lg_cmp x2 (1000000000 : Int64))
        · rw [if_pos c3726]
          (try simp (disch := (first | omega | (simp only [Int32.reduceToInt]; omega) | (simp (disch := first | omega | (simp only [Int32.reduceToInt]; omega)) only [tadd, tsub, mul6, neg1, Int32.reduceToInt]; omega))) only [neg1, mul6, g_s, g_l, tadd, tsub, inb_iff, Int32.lt_iff_toInt_lt, Int32.le_iff_toInt_le, i32_eq, b2i_0, Int32.reduceToInt, reduceIte, Nat.reduceEqDiff] at c3726)
          refine ⟨_, _, _, _, _, rfl, ok2_, ok2_, tu_⟩
        · rw [if_neg c3726]
          (try simp (disch := (first | omega | (simp only [Int32.reduceToInt]; omega) | (simp (disch := first | omega | (simp only [Int32.reduceToInt]; omega)) only [tadd, tsub, mul6, neg1, Int32.reduceToInt]; omega))) only [neg1, mul6, g_s, g_l, tadd, tsub, inb_iff, Int32.lt_iff_toInt_lt, Int32.le_iff_toInt_le, i32_eq, b2i_0, Int32.reduceToInt, reduceIte, Nat.reduceEqDiff] at c3726)
          by_cases c3727 : 0 ≤ (lg_cmp x2 (-1000000000 : Int64))
          · rw [if_pos c3727]
            (try simp (disch := (first | omega | (simp only [Int32.reduceToInt]; omega) | (simp (disch := first | omega | (simp only [Int32.reduceToInt]; omega)) only [tadd, tsub, mul6, neg1, Int32.reduceToInt]; omega))) only [neg1, mul6, g_s, g_l, tadd, tsub, inb_iff, Int32.lt_iff_toInt_lt, Int32.le_iff_toInt_le, i32_eq, b2i_0, Int32.reduceToInt, reduceIte, Nat.reduceEqDiff] at c3727)
            have q3728 : ∃ (r : Bool) (n0 : Ob) (n1 : Ob) (n2 : Ob), (bind2 (F_Reckoner_changeOption x1 x2 x4 o2) (fun v10 o_11 => if (b2i v10) = 0 then (some (v10, o0, o1, o_11)) else (if (g32 o0 3 0) = 0 then (some (v10, o0, o1, o_11)) else (bind3 (F_Reckoner_workOutHanging x1 o_11 o3 o4 o1) (fun v15 o_16 o_17 => some (v10, (s64 o0 9 0 ((g64 o0 9 0) + (Int32.toInt64 v15))), o_17, o_16)))))) = some (r, n0, n1, n2) ∧ (okPF n0) ∧ (okReckoner n2) ∧ ((0 : Nat) = 0 ∨ (0 : Nat) = 2 ∨ (0 : Nat) = 3) := by
              obtain ⟨v10, o_11, e3738, p3737⟩ := t_Reckoner_changeOption x1 x2 x4 o2 (ok2_) (tu_) (tu_)
              rw [e3738, bind2_s]
              obtain ⟨f3739, f3740⟩ := id p3737
              by_cases c3741 : (b2i v10) = 0
              · rw [if_pos c3741]
                have c3741 := b2i_0.mp c3741
                subst c3741
                refine ⟨_, _, _, _, rfl, ok2_, ok2_, tu_⟩
              · rw [if_neg c3741]
                have c3741 := b2i_1 c3741
                subst c3741
                by_cases c3742 : (g32 o0 3 0) = 0
                · rw [if_pos c3742]
                  (try simp (disch := (first | omega | (simp only [Int32.reduceToInt]; omega) | (simp (disch := first | omega | (simp only [Int32.reduceToInt]; omega)) only [tadd, tsub, mul6, neg1, Int32.reduceToInt]; omega))) only [neg1, mul6, g_s, g_l, tadd, tsub, inb_iff, Int32.lt_iff_toInt_lt, Int32.le_iff_toInt_le, i32_eq, b2i_0, Int32.reduceToInt, reduceIte, Nat.reduceEqDiff] at c3742)
                  refine ⟨_, _, _, _, rfl, ok2_, ok2_, tu_⟩
                · rw [if_neg c3742]
                  (try simp (disch := (first | omega | (simp only [Int32.reduceToInt]; omega) | (simp (disch := first | omega | (simp only [Int32.reduceToInt]; omega)) only [tadd, tsub, mul6, neg1, Int32.reduceToInt]; omega))) only [neg1, mul6, g_s, g_l, tadd, tsub, inb_iff, Int32.lt_iff_toInt_lt, Int32.le_iff_toInt_le, i32_eq, b2i_0, Int32.reduceToInt, reduceIte, Nat.reduceEqDiff] at c3742)
                  obtain ⟨v15, o_16, o_17, e3745, p3743, p3744⟩ := t_Reckoner_workOutHanging x1 o_11 o3 o4 o1 (ok2_) (ok9_) (ok6_) (oc_)
                  rw [e3745, bind3_s]
                  obtain ⟨f3746, f3747⟩ := id p3743
                  refine ⟨_, _, _, _, rfl, ok2_, ok2_, tu_⟩
            obtain ⟨y3733, y3734, y3735, y3736, e3729, p3730, p3731, p3732⟩ := q3728
            exact ⟨0, y3733, y3734, y3735, y3736, by rw [e3729]; rfl, p3730, p3731, p3732⟩
          · rw [if_neg c3727]
            (try simp (disch := (first | omega | (simp only [Int32.reduceToInt]; omega) | (simp (disch := first | omega | (simp only [Int32.reduceToInt]; omega)) only [tadd, tsub, mul6, neg1, Int32.reduceToInt]; omega))) only [neg1, mul6, g_s, g_l, tadd, tsub, inb_iff, Int32.lt_iff_toInt_lt, Int32.le_iff_toInt_le, i32_eq, b2i_0, Int32.reduceToInt, reduceIte, Nat.reduceEqDiff] at c3727)
            refine ⟨_, _, _, _, _, rfl, ok2_, ok2_, tu_⟩
  · rw [if_neg c3723]
    (try simp (disch := (first | omega | (simp only [Int32.reduceToInt]; omega) | (simp (disch := first | omega | (simp only [Int32.reduceToInt]; omega)) only [tadd, tsub, mul6, neg1, Int32.reduceToInt]; omega))) only [neg1, mul6, g_s, g_l, tadd, tsub, inb_iff, Int32.lt_iff_toInt_lt, Int32.le_iff_toInt_le, i32_eq, b2i_0, Int32.reduceToInt, reduceIte, Nat.reduceEqDiff] at c3723)
    refine ⟨_, _, _, _, _, rfl, ok2_, ok2_, tu_⟩
set_option maxHeartbeats 1000000 in
theorem t_PF_run_43 (o3 : Ob) (o4 : Ob) : ∀ (n : Nat) (x1 : Int32) (o0 : Ob) (o1 : Ob) (o2 : Ob), (okPF o0) → (okReckoner o2) → (okText o3) → (okSteps o4) → (0 ≤ x1.toInt) → (x1.toInt ≤ 24) → (24 - x1.toInt < (n : Int)) → ∃ (r : Int32) (n0 : Ob) (n1 : Ob) (n2 : Ob), F_PF_run_43 o3 o4 n x1 o0 o1 o2 = some (r, n0, n1, n2) ∧ (okPF n0) ∧ (okReckoner n2) ∧ (KO o2 n2) := by
  intro n
  induction n with
  | zero =>
    intro x1 o0 o1 o2 g0 g1 g2 g3 g4 g5 g6
    obtain ⟨f3748, f3749⟩ := id g0
    obtain ⟨f3750, f3751⟩ := id g1
    obtain ⟨f3752, f3753, f3754, f3755, f3756, f3757, f3758, f3759, f3760⟩ := id g2
    obtain ⟨f3761, f3762, f3763, f3764, f3765, f3766⟩ := id g3
    exfalso
    (try simp (disch := (first | omega | (simp only [Int32.reduceToInt]; omega) | (simp (disch := first | omega | (simp only [Int32.reduceToInt]; omega)) only [tadd, tsub, mul6, neg1, Int32.reduceToInt]; omega))) only [neg1, mul6, g_s, g_l, tadd, tsub, inb_iff, Int32.lt_iff_toInt_lt, Int32.le_iff_toInt_le, i32_eq, b2i_0, Int32.reduceToInt, reduceIte, Nat.reduceEqDiff] at g6)
    exact ari_
  | succ n ih =>
    intro x1 o0 o1 o2 g0 g1 g2 g3 g4 g5 g6
    obtain ⟨f3767, f3768⟩ := id g0
    obtain ⟨f3769, f3770⟩ := id g1
    obtain ⟨f3771, f3772, f3773, f3774, f3775, f3776, f3777, f3778, f3779⟩ := id g2
    obtain ⟨f3780, f3781, f3782, f3783, f3784, f3785⟩ := id g3
    rw [F_PF_run_43]
    (try simp (disch := (first | omega | (simp only [Int32.reduceToInt]; omega) | (simp (disch := first | omega | (simp only [Int32.reduceToInt]; omega)) only [tadd, tsub, mul6, neg1, Int32.reduceToInt]; omega))) only [neg1, mul6, g_s, g_l, tadd, tsub, inb_iff, Int32.lt_iff_toInt_lt, Int32.le_iff_toInt_le, i32_eq, b2i_0, Int32.reduceToInt, reduceIte, Nat.reduceEqDiff] at g6)
    by_cases c3786 : (g32 o3 3 0) ≤ x1
    · rw [if_pos c3786]
      (try simp (disch := (first | omega | (simp only [Int32.reduceToInt]; omega) | (simp (disch := first | omega | (simp only [Int32.reduceToInt]; omega)) only [tadd, tsub, mul6, neg1, Int32.reduceToInt]; omega))) only [neg1, mul6, g_s, g_l, tadd, tsub, inb_iff, Int32.lt_iff_toInt_lt, Int32.le_iff_toInt_le, i32_eq, b2i_0, Int32.reduceToInt, reduceIte, Nat.reduceEqDiff] at c3786)
      refine ⟨_, _, _, _, rfl, ok2_, ok2_, ko_⟩
    · rw [if_neg c3786]
      (try simp (disch := (first | omega | (simp only [Int32.reduceToInt]; omega) | (simp (disch := first | omega | (simp only [Int32.reduceToInt]; omega)) only [tadd, tsub, mul6, neg1, Int32.reduceToInt]; omega))) only [neg1, mul6, g_s, g_l, tadd, tsub, inb_iff, Int32.lt_iff_toInt_lt, Int32.le_iff_toInt_le, i32_eq, b2i_0, Int32.reduceToInt, reduceIte, Nat.reduceEqDiff] at c3786)
      rw [show (inb x1 24) = true from inb_iff.mpr ⟨tu_, tu_⟩, chk_tr]
      have a3788 := f3775 (Int32.toNatClampNeg x1)
      by_cases c3787 : (g32 o3 4 (Int32.toNatClampNeg x1)) = (-1 : Int32)
      · rw [if_pos c3787]
        (try simp (disch := (first | omega | (simp only [Int32.reduceToInt]; omega) | (simp (disch := first | omega | (simp only [Int32.reduceToInt]; omega)) only [tadd, tsub, mul6, neg1, Int32.reduceToInt]; omega))) only [neg1, mul6, g_s, g_l, tadd, tsub, inb_iff, Int32.lt_iff_toInt_lt, Int32.le_iff_toInt_le, i32_eq, b2i_0, Int32.reduceToInt, reduceIte, Nat.reduceEqDiff] at c3787)
        obtain ⟨y3789, y3790, y3791, y3792, e3796, p3793, p3794, p3795⟩ := ih (x1 + (1 : Int32)) o0 o1 o2 (ok2_) (ok2_) (ok9_) (ok6_) (tu_) (tu_) tu_
        obtain ⟨f3797, f3798⟩ := id p3793
        obtain ⟨f3799, f3800⟩ := id p3794
        refine ⟨y3789, y3790, y3791, y3792, e3796, ok2_, ok2_, ko_⟩
      · rw [if_neg c3787]
        (try simp (disch := (first | omega | (simp only [Int32.reduceToInt]; omega) | (simp (disch := first | omega | (simp only [Int32.reduceToInt]; omega)) only [tadd, tsub, mul6, neg1, Int32.reduceToInt]; omega))) only [neg1, mul6, g_s, g_l, tadd, tsub, inb_iff, Int32.lt_iff_toInt_lt, Int32.le_iff_toInt_le, i32_eq, b2i_0, Int32.reduceToInt, reduceIte, Nat.reduceEqDiff] at c3787)
        rw [show (inb (g32 o3 4 (Int32.toNatClampNeg x1)) 60) = true from inb_iff.mpr ⟨tu_, tu_⟩, chk_tr]
        by_cases c3801 : (g32 o1 0 (Int32.toNatClampNeg (g32 o3 4 (Int32.toNatClampNeg x1)))) = (1 : Int32)
        · rw [if_pos c3801]
          (try simp (disch := (first | omega | (simp only [Int32.reduceToInt]; omega) | (simp (disch := first | omega | (simp only [Int32.reduceToInt]; omega)) only [tadd, tsub, mul6, neg1, Int32.reduceToInt]; omega))) only [neg1, mul6, g_s, g_l, tadd, tsub, inb_iff, Int32.lt_iff_toInt_lt, Int32.le_iff_toInt_le, i32_eq, b2i_0, Int32.reduceToInt, reduceIte, Nat.reduceEqDiff] at c3801)
          obtain ⟨y3802, y3803, y3804, y3805, e3809, p3806, p3807, p3808⟩ := ih (x1 + (1 : Int32)) o0 o1 o2 (ok2_) (ok2_) (ok9_) (ok6_) (tu_) (tu_) tu_
          obtain ⟨f3810, f3811⟩ := id p3806
          obtain ⟨f3812, f3813⟩ := id p3807
          refine ⟨y3802, y3803, y3804, y3805, e3809, ok2_, ok2_, ko_⟩
        · rw [if_neg c3801]
          (try simp (disch := (first | omega | (simp only [Int32.reduceToInt]; omega) | (simp (disch := first | omega | (simp only [Int32.reduceToInt]; omega)) only [tadd, tsub, mul6, neg1, Int32.reduceToInt]; omega))) only [neg1, mul6, g_s, g_l, tadd, tsub, inb_iff, Int32.lt_iff_toInt_lt, Int32.le_iff_toInt_le, i32_eq, b2i_0, Int32.reduceToInt, reduceIte, Nat.reduceEqDiff] at c3801)
          refine ⟨_, _, _, _, rfl, ok2_, ok2_, ko_⟩
set_option maxHeartbeats 1000000 in
theorem t_PF_run (o0 : Ob) (o1 : Ob) (o2 : Ob) (o3 : Ob) (o4 : Ob) (g0 : okPF o0) (g1 : okReckoner o2) (g2 : okText o3) (g3 : okSteps o4) (g4 : OC o3) : ∃ (kx : Nat) (r : Int32) (n0 : Ob) (n1 : Ob) (n2 : Ob), F_PF_run o0 o1 o2 o3 o4 = some (kx, r, n0, n1, n2) ∧ (okPF n0) ∧ (okReckoner n2) ∧ (kx = 0 ∨ kx = 1) ∧ (KO o2 n2) := by
  obtain ⟨f3814, f3815⟩ := id g0
  obtain ⟨f3816, f3817⟩ := id g1
  obtain ⟨f3818, f3819, f3820, f3821, f3822, f3823, f3824, f3825, f3826⟩ := id g2
  obtain ⟨f3827, f3828, f3829, f3830, f3831, f3832⟩ := id g3
  rw [F_PF_run]
  obtain ⟨k_2, u_3, e3834, p3833⟩ := t_PF_demandRead o0 (ok2_)
  rw [e3834, bind2_s]
  by_cases c3835 : k_2 = 0
  · rw [if_pos c3835]
    (try simp (disch := (first | omega | (simp only [Int32.reduceToInt]; omega) | (simp (disch := first | omega | (simp only [Int32.reduceToInt]; omega)) only [tadd, tsub, mul6, neg1, Int32.reduceToInt]; omega))) only [neg1, mul6, g_s, g_l, tadd, tsub, inb_iff, Int32.lt_iff_toInt_lt, Int32.le_iff_toInt_le, i32_eq, b2i_0, Int32.reduceToInt, reduceIte, Nat.reduceEqDiff] at c3835)
    have q3836 : ∃ (r : Int32) (n0 : Ob) (n1 : Ob) (n2 : Ob), (bind2 (F_Reckoner_workOutAll o2 o3 o4 o1) (fun o_6 o_7 => F_PF_run_43 o3 o4 fuel (0 : Int32) (s64 (s32 o0 3 0 (1 : Int32)) 9 0 ((g64 o0 9 0) + (Int32.toInt64 (g32 o3 11 0)))) o_7 o_6)) = some (r, n0, n1, n2) ∧ (okPF n0) ∧ (okReckoner n2) ∧ ((0 : Nat) = 0 ∨ (0 : Nat) = 1) ∧ (KO o2 n2) := by
      obtain ⟨o_6, o_7, e3848, p3846, p3847⟩ := t_Reckoner_workOutAll o2 o3 o4 o1 (ok2_) (ok9_) (ok6_) (oc_)
      rw [e3848, bind2_s]
      obtain ⟨f3849, f3850⟩ := id p3846
      obtain ⟨y3851, y3852, y3853, y3854, e3858, p3855, p3856, p3857⟩ := t_PF_run_43 o3 o4 fuel (0 : Int32) (s64 (s32 o0 3 0 (1 : Int32)) 9 0 ((g64 o0 9 0) + (Int32.toInt64 (g32 o3 11 0)))) o_7 o_6 (ok2_) (ok2_) (ok9_) (ok6_) (tu_) (tu_) tu_
      obtain ⟨f3859, f3860⟩ := id p3855
      obtain ⟨f3861, f3862⟩ := id p3856
      refine ⟨y3851, y3852, y3853, y3854, e3858, ok2_, ok2_, tu_, ko_⟩
    obtain ⟨y3842, y3843, y3844, y3845, e3837, p3838, p3839, p3840, p3841⟩ := q3836
    exact ⟨0, y3842, y3843, y3844, y3845, by rw [e3837]; rfl, p3838, p3839, p3840, p3841⟩
  · rw [if_neg c3835]
    (try simp (disch := (first | omega | (simp only [Int32.reduceToInt]; omega) | (simp (disch := first | omega | (simp only [Int32.reduceToInt]; omega)) only [tadd, tsub, mul6, neg1, Int32.reduceToInt]; omega))) only [neg1, mul6, g_s, g_l, tadd, tsub, inb_iff, Int32.lt_iff_toInt_lt, Int32.le_iff_toInt_le, i32_eq, b2i_0, Int32.reduceToInt, reduceIte, Nat.reduceEqDiff] at c3835)
    refine ⟨_, _, _, _, _, rfl, ok2_, ok2_, tu_, ko_⟩
set_option maxHeartbeats 1000000 in
theorem t_PF_state (x1 : Int32) (x2 : Int32) (o0 : Ob) (o1 : Ob) (g0 : okPF o0) : ∃ (kx : Nat) (r : Int32), F_PF_state x1 x2 o0 o1 = some (kx, r) ∧ (kx = 0 ∨ kx = 1 ∨ kx = 3) := by
  obtain ⟨f3863, f3864⟩ := id g0
  rw [F_PF_state]
  obtain ⟨k_2, u_3, e3866, p3865⟩ := t_PF_demandWorkedOut o0 (ok2_)
  rw [e3866, bind2_s]
  by_cases c3867 : k_2 = 0
  · rw [if_pos c3867]
    (try simp (disch := (first | omega | (simp only [Int32.reduceToInt]; omega) | (simp (disch := first | omega | (simp only [Int32.reduceToInt]; omega)) only [tadd, tsub, mul6, neg1, Int32.reduceToInt]; omega))) only [neg1, mul6, g_s, g_l, tadd, tsub, inb_iff, Int32.lt_iff_toInt_lt, Int32.le_iff_toInt_le, i32_eq, b2i_0, Int32.reduceToInt, reduceIte, Nat.reduceEqDiff] at c3867)
    obtain ⟨k_7, v6, e3869, p3868⟩ := t_PF_cellNumber x1 x2
    rw [e3869, bind2_s]
    by_cases c3870 : k_7 = 0
    · rw [if_pos c3870]
      (try simp (disch := (first | omega | (simp only [Int32.reduceToInt]; omega) | (simp (disch := first | omega | (simp only [Int32.reduceToInt]; omega)) only [tadd, tsub, mul6, neg1, Int32.reduceToInt]; omega))) only [neg1, mul6, g_s, g_l, tadd, tsub, inb_iff, Int32.lt_iff_toInt_lt, Int32.le_iff_toInt_le, i32_eq, b2i_0, Int32.reduceToInt, reduceIte, Nat.reduceEqDiff] at c3870)
      have q3871 : ∃ (r : Int32), (chk (inb v6 60) (some (g32 o1 0 (Int32.toNatClampNeg v6)))) = some r ∧ ((0 : Nat) = 0 ∨ (0 : Nat) = 1 ∨ (0 : Nat) = 3) := by
        rw [show (inb v6 60) = true from inb_iff.mpr ⟨tu_, tu_⟩, chk_tr]
        refine ⟨_, rfl, tu_⟩
      obtain ⟨y3874, e3872, p3873⟩ := q3871
      exact ⟨0, y3874, by rw [e3872]; rfl, p3873⟩
    · rw [if_neg c3870]
      (try simp (disch := (first | omega | (simp only [Int32.reduceToInt]; omega) | (simp (disch := first | omega | (simp only [Int32.reduceToInt]; omega)) only [tadd, tsub, mul6, neg1, Int32.reduceToInt]; omega))) only [neg1, mul6, g_s, g_l, tadd, tsub, inb_iff, Int32.lt_iff_toInt_lt, Int32.le_iff_toInt_le, i32_eq, b2i_0, Int32.reduceToInt, reduceIte, Nat.reduceEqDiff] at c3870)
      refine ⟨_, _, rfl, tu_⟩
  · rw [if_neg c3867]
    (try simp (disch := (first | omega | (simp only [Int32.reduceToInt]; omega) | (simp (disch := first | omega | (simp only [Int32.reduceToInt]; omega)) only [tadd, tsub, mul6, neg1, Int32.reduceToInt]; omega))) only [neg1, mul6, g_s, g_l, tadd, tsub, inb_iff, Int32.lt_iff_toInt_lt, Int32.le_iff_toInt_le, i32_eq, b2i_0, Int32.reduceToInt, reduceIte, Nat.reduceEqDiff] at c3867)
    refine ⟨_, _, rfl, tu_⟩
set_option maxHeartbeats 1000000 in
theorem t_PF_size (x1 : Int32) (x2 : Int32) (x3 : Int32) (o0 : Ob) (o1 : Ob) (g0 : okPF o0) : ∃ (kx : Nat) (r : Int64), F_PF_size x1 x2 x3 o0 o1 = some (kx, r) ∧ (kx = 0 ∨ kx = 1 ∨ kx = 2 ∨ kx = 3) := by
  obtain ⟨f3875, f3876⟩ := id g0
  rw [F_PF_size]
  obtain ⟨k_3, v2, e3878, p3877⟩ := t_PF_cellNumber x1 x2
  rw [e3878, bind2_s]
  by_cases c3879 : k_3 = 0
  · rw [if_pos c3879]
    (try simp (disch := (first | omega | (simp only [Int32.reduceToInt]; omega) | (simp (disch := first | omega | (simp only [Int32.reduceToInt]; omega)) only [tadd, tsub, mul6, neg1, Int32.reduceToInt]; omega))) only [neg1, mul6, g_s, g_l, tadd, tsub, inb_iff, Int32.lt_iff_toInt_lt, Int32.le_iff_toInt_le, i32_eq, b2i_0, Int32.reduceToInt, reduceIte, Nat.reduceEqDiff] at c3879)
    obtain ⟨k_6, u_7, e3881, p3880⟩ := t_PF_demandZeroOrOne x3
    rw [e3881, bind2_s]
    by_cases c3882 : k_6 = 0
    · rw [if_pos c3882]
      (try simp (disch := (first | omega | (simp only [Int32.reduceToInt]; omega) | (simp (disch := first | omega | (simp only [Int32.reduceToInt]; omega)) only [tadd, tsub, mul6, neg1, Int32.reduceToInt]; omega))) only [neg1, mul6, g_s, g_l, tadd, tsub, inb_iff, Int32.lt_iff_toInt_lt, Int32.le_iff_toInt_le, i32_eq, b2i_0, Int32.reduceToInt, reduceIte, Nat.reduceEqDiff] at c3882)
      obtain ⟨k_10, u_11, e3884, p3883⟩ := t_PF_demandWorkedOut o0 (ok2_)
      rw [e3884, bind2_s]
      by_cases c3885 : k_10 = 0
      · rw [if_pos c3885]
        (try simp (disch := (first | omega | (simp only [Int32.reduceToInt]; omega) | (simp (disch := first | omega | (simp only [Int32.reduceToInt]; omega)) only [tadd, tsub, mul6, neg1, Int32.reduceToInt]; omega))) only [neg1, mul6, g_s, g_l, tadd, tsub, inb_iff, Int32.lt_iff_toInt_lt, Int32.le_iff_toInt_le, i32_eq, b2i_0, Int32.reduceToInt, reduceIte, Nat.reduceEqDiff] at c3885)
        rw [show (inb v2 60) = true from inb_iff.mpr ⟨tu_, tu_⟩, chk_tr]
        by_cases c3886 : (g32 o1 0 (Int32.toNatClampNeg v2)) = (1 : Int32)
        · rw [if_pos c3886]
          (try simp (disch := (first | omega | (simp only [Int32.reduceToInt]; omega) | (simp (disch := first | omega | (simp only [Int32.reduceToInt]; omega)) only [tadd, tsub, mul6, neg1, Int32.reduceToInt]; omega))) only [neg1, mul6, g_s, g_l, tadd, tsub, inb_iff, Int32.lt_iff_toInt_lt, Int32.le_iff_toInt_le, i32_eq, b2i_0, Int32.reduceToInt, reduceIte, Nat.reduceEqDiff] at c3886)
          have q3887 : ∃ (r : Int64), (if x3 = 0 then (some (g64 o1 1 (Int32.toNatClampNeg v2))) else (some (g64 o1 2 (Int32.toNatClampNeg v2)))) = some r ∧ ((0 : Nat) = 0 ∨ (0 : Nat) = 1 ∨ (0 : Nat) = 2 ∨ (0 : Nat) = 3) := by
            by_cases c3891 : x3 = 0
            · rw [if_pos c3891]
              (try simp (disch := (first | omega | (simp only [Int32.reduceToInt]; omega) | (simp (disch := first | omega | (simp only [Int32.reduceToInt]; omega)) only [tadd, tsub, mul6, neg1, Int32.reduceToInt]; omega))) only [neg1, mul6, g_s, g_l, tadd, tsub, inb_iff, Int32.lt_iff_toInt_lt, Int32.le_iff_toInt_le, i32_eq, b2i_0, Int32.reduceToInt, reduceIte, Nat.reduceEqDiff] at c3891)
              refine ⟨_, rfl, tu_⟩
            · rw [if_neg c3891]
              (try simp (disch := (first | omega | (simp only [Int32.reduceToInt]; omega) | (simp (disch := first | omega | (simp only [Int32.reduceToInt]; omega)) only [tadd, tsub, mul6, neg1, Int32.reduceToInt]; omega))) only [neg1, mul6, g_s, g_l, tadd, tsub, inb_iff, Int32.lt_iff_toInt_lt, Int32.le_iff_toInt_le, i32_eq, b2i_0, Int32.reduceToInt, reduceIte, Nat.reduceEqDiff] at c3891)
              refine ⟨_, rfl, tu_⟩
          obtain ⟨y3890, e3888, p3889⟩ := q3887
          exact ⟨0, y3890, by rw [e3888]; rfl, p3889⟩
        · rw [if_neg c3886]
          (try simp (disch := (first | omega | (simp only [Int32.reduceToInt]; omega) | (simp (disch := first | omega | (simp only [Int32.reduceToInt]; omega)) only [tadd, tsub, mul6, neg1, Int32.reduceToInt]; omega))) only [neg1, mul6, g_s, g_l, tadd, tsub, inb_iff, Int32.lt_iff_toInt_lt, Int32.le_iff_toInt_le, i32_eq, b2i_0, Int32.reduceToInt, reduceIte, Nat.reduceEqDiff] at c3886)
          refine ⟨_, _, rfl, tu_⟩
      · rw [if_neg c3885]
        (try simp (disch := (first | omega | (simp only [Int32.reduceToInt]; omega) | (simp (disch := first | omega | (simp only [Int32.reduceToInt]; omega)) only [tadd, tsub, mul6, neg1, Int32.reduceToInt]; omega))) only [neg1, mul6, g_s, g_l, tadd, tsub, inb_iff, Int32.lt_iff_toInt_lt, Int32.le_iff_toInt_le, i32_eq, b2i_0, Int32.reduceToInt, reduceIte, Nat.reduceEqDiff] at c3885)
        refine ⟨_, _, rfl, tu_⟩
    · rw [if_neg c3882]
      (try simp (disch := (first | omega | (simp only [Int32.reduceToInt]; omega) | (simp (disch := first | omega | (simp only [Int32.reduceToInt]; omega)) only [tadd, tsub, mul6, neg1, Int32.reduceToInt]; omega))) only [neg1, mul6, g_s, g_l, tadd, tsub, inb_iff, Int32.lt_iff_toInt_lt, Int32.le_iff_toInt_le, i32_eq, b2i_0, Int32.reduceToInt, reduceIte, Nat.reduceEqDiff] at c3882)
      refine ⟨_, _, rfl, tu_⟩
  · rw [if_neg c3879]
    (try simp (disch := (first | omega | (simp only [Int32.reduceToInt]; omega) | (simp (disch := first | omega | (simp only [Int32.reduceToInt]; omega)) only [tadd, tsub, mul6, neg1, Int32.reduceToInt]; omega))) only [neg1, mul6, g_s, g_l, tadd, tsub, inb_iff, Int32.lt_iff_toInt_lt, Int32.le_iff_toInt_le, i32_eq, b2i_0, Int32.reduceToInt, reduceIte, Nat.reduceEqDiff] at c3879)
    refine ⟨_, _, rfl, tu_⟩
set_option maxHeartbeats 1000000 in
theorem t_PF_ring_12 (o0 : Ob) (o1 : Ob) : ∀ (n : Nat) (x1 : Int32) (x2 : Int32) (x3 : Int32), (okPF o0) → (okText o1) → (0 ≤ x3.toInt) → (x3.toInt ≤ 60) → (60 - x3.toInt < (n : Int)) → ∃ (r : Int32), F_PF_ring_12 o0 o1 n x1 x2 x3 = some r ∧ (True) := by
  intro n
  induction n with
  | zero =>
    intro x1 x2 x3 g0 g1 g2 g3 g4
    obtain ⟨f3892, f3893⟩ := id g0
    obtain ⟨f3894, f3895, f3896, f3897, f3898, f3899, f3900, f3901, f3902⟩ := id g1
    exfalso
    (try simp (disch := (first | omega | (simp only [Int32.reduceToInt]; omega) | (simp (disch := first | omega | (simp only [Int32.reduceToInt]; omega)) only [tadd, tsub, mul6, neg1, Int32.reduceToInt]; omega))) only [neg1, mul6, g_s, g_l, tadd, tsub, inb_iff, Int32.lt_iff_toInt_lt, Int32.le_iff_toInt_le, i32_eq, b2i_0, Int32.reduceToInt, reduceIte, Nat.reduceEqDiff] at g4)
    exact ari_
  | succ n ih =>
    intro x1 x2 x3 g0 g1 g2 g3 g4
    obtain ⟨f3903, f3904⟩ := id g0
    obtain ⟨f3905, f3906, f3907, f3908, f3909, f3910, f3911, f3912, f3913⟩ := id g1
    rw [F_PF_ring_12]
    (try simp (disch := (first | omega | (simp only [Int32.reduceToInt]; omega) | (simp (disch := first | omega | (simp only [Int32.reduceToInt]; omega)) only [tadd, tsub, mul6, neg1, Int32.reduceToInt]; omega))) only [neg1, mul6, g_s, g_l, tadd, tsub, inb_iff, Int32.lt_iff_toInt_lt, Int32.le_iff_toInt_le, i32_eq, b2i_0, Int32.reduceToInt, reduceIte, Nat.reduceEqDiff] at g4)
    by_cases c3914 : (60 : Int32) ≤ x3
    · rw [if_pos c3914]
      (try simp (disch := (first | omega | (simp only [Int32.reduceToInt]; omega) | (simp (disch := first | omega | (simp only [Int32.reduceToInt]; omega)) only [tadd, tsub, mul6, neg1, Int32.reduceToInt]; omega))) only [neg1, mul6, g_s, g_l, tadd, tsub, inb_iff, Int32.lt_iff_toInt_lt, Int32.le_iff_toInt_le, i32_eq, b2i_0, Int32.reduceToInt, reduceIte, Nat.reduceEqDiff] at c3914)
      refine ⟨_, rfl, tu_⟩
    · rw [if_neg c3914]
      (try simp (disch := (first | omega | (simp only [Int32.reduceToInt]; omega) | (simp (disch := first | omega | (simp only [Int32.reduceToInt]; omega)) only [tadd, tsub, mul6, neg1, Int32.reduceToInt]; omega))) only [neg1, mul6, g_s, g_l, tadd, tsub, inb_iff, Int32.lt_iff_toInt_lt, Int32.le_iff_toInt_le, i32_eq, b2i_0, Int32.reduceToInt, reduceIte, Nat.reduceEqDiff] at c3914)
      obtain ⟨v11, e3916, p3915⟩ := t_Text_isRing x3 o1 (tu_) (tu_)
      rw [e3916, bind1_s]
      by_cases c3917 : (b2i v11) = 0
      · rw [if_pos c3917]
        have c3917 := b2i_0.mp c3917
        subst c3917
        obtain ⟨y3918, e3920, p3919⟩ := ih x1 x2 (x3 + (1 : Int32)) (ok2_) (ok9_) (tu_) (tu_) tu_
        refine ⟨y3918, e3920, tu_⟩
      · rw [if_neg c3917]
        have c3917 := b2i_1 c3917
        subst c3917
        by_cases c3921 : x2 = x1
        · rw [if_pos c3921]
          (try simp (disch := (first | omega | (simp only [Int32.reduceToInt]; omega) | (simp (disch := first | omega | (simp only [Int32.reduceToInt]; omega)) only [tadd, tsub, mul6, neg1, Int32.reduceToInt]; omega))) only [neg1, mul6, g_s, g_l, tadd, tsub, inb_iff, Int32.lt_iff_toInt_lt, Int32.le_iff_toInt_le, i32_eq, b2i_0, Int32.reduceToInt, reduceIte, Nat.reduceEqDiff] at c3921)
          refine ⟨_, rfl, tu_⟩
        · rw [if_neg c3921]
          (try simp (disch := (first | omega | (simp only [Int32.reduceToInt]; omega) | (simp (disch := first | omega | (simp only [Int32.reduceToInt]; omega)) only [tadd, tsub, mul6, neg1, Int32.reduceToInt]; omega))) only [neg1, mul6, g_s, g_l, tadd, tsub, inb_iff, Int32.lt_iff_toInt_lt, Int32.le_iff_toInt_le, i32_eq, b2i_0, Int32.reduceToInt, reduceIte, Nat.reduceEqDiff] at c3921)
          obtain ⟨y3922, e3924, p3923⟩ := ih x1 (x2 + (1 : Int32)) (x3 + (1 : Int32)) (ok2_) (ok9_) (tu_) (tu_) tu_
          refine ⟨y3922, e3924, tu_⟩
set_option maxHeartbeats 1000000 in
theorem t_PF_ring (x1 : Int32) (o0 : Ob) (o1 : Ob) (g0 : okPF o0) (g1 : okText o1) : ∃ (kx : Nat) (r : Int32), F_PF_ring x1 o0 o1 = some (kx, r) ∧ (kx = 0 ∨ kx = 1 ∨ kx = 2) := by
  obtain ⟨f3925, f3926⟩ := id g0
  obtain ⟨f3927, f3928, f3929, f3930, f3931, f3932, f3933, f3934, f3935⟩ := id g1
  rw [F_PF_ring]
  obtain ⟨k_2, u_3, e3937, p3936⟩ := t_PF_demandRead o0 (ok2_)
  rw [e3937, bind2_s]
  by_cases c3938 : k_2 = 0
  · rw [if_pos c3938]
    (try simp (disch := (first | omega | (simp only [Int32.reduceToInt]; omega) | (simp (disch := first | omega | (simp only [Int32.reduceToInt]; omega)) only [tadd, tsub, mul6, neg1, Int32.reduceToInt]; omega))) only [neg1, mul6, g_s, g_l, tadd, tsub, inb_iff, Int32.lt_iff_toInt_lt, Int32.le_iff_toInt_le, i32_eq, b2i_0, Int32.reduceToInt, reduceIte, Nat.reduceEqDiff] at c3938)
    obtain ⟨k_6, u_7, e3940, p3939⟩ := t_PF_demandNotNegative x1
    rw [e3940, bind2_s]
    by_cases c3941 : k_6 = 0
    · rw [if_pos c3941]
      (try simp (disch := (first | omega | (simp only [Int32.reduceToInt]; omega) | (simp (disch := first | omega | (simp only [Int32.reduceToInt]; omega)) only [tadd, tsub, mul6, neg1, Int32.reduceToInt]; omega))) only [neg1, mul6, g_s, g_l, tadd, tsub, inb_iff, Int32.lt_iff_toInt_lt, Int32.le_iff_toInt_le, i32_eq, b2i_0, Int32.reduceToInt, reduceIte, Nat.reduceEqDiff] at c3941)
      have q3942 : ∃ (r : Int32), (F_PF_ring_12 o0 o1 fuel x1 (0 : Int32) (0 : Int32)) = some r ∧ ((0 : Nat) = 0 ∨ (0 : Nat) = 1 ∨ (0 : Nat) = 2) := by
        obtain ⟨y3946, e3948, p3947⟩ := t_PF_ring_12 o0 o1 fuel x1 (0 : Int32) (0 : Int32) (ok2_) (ok9_) (tu_) (tu_) tu_
        refine ⟨y3946, e3948, tu_⟩
      obtain ⟨y3945, e3943, p3944⟩ := q3942
      exact ⟨0, y3945, by rw [e3943]; rfl, p3944⟩
    · rw [if_neg c3941]
      (try simp (disch := (first | omega | (simp only [Int32.reduceToInt]; omega) | (simp (disch := first | omega | (simp only [Int32.reduceToInt]; omega)) only [tadd, tsub, mul6, neg1, Int32.reduceToInt]; omega))) only [neg1, mul6, g_s, g_l, tadd, tsub, inb_iff, Int32.lt_iff_toInt_lt, Int32.le_iff_toInt_le, i32_eq, b2i_0, Int32.reduceToInt, reduceIte, Nat.reduceEqDiff] at c3941)
      refine ⟨_, _, rfl, tu_⟩
  · rw [if_neg c3938]
    (try simp (disch := (first | omega | (simp only [Int32.reduceToInt]; omega) | (simp (disch := first | omega | (simp only [Int32.reduceToInt]; omega)) only [tadd, tsub, mul6, neg1, Int32.reduceToInt]; omega))) only [neg1, mul6, g_s, g_l, tadd, tsub, inb_iff, Int32.lt_iff_toInt_lt, Int32.le_iff_toInt_le, i32_eq, b2i_0, Int32.reduceToInt, reduceIte, Nat.reduceEqDiff] at c3938)
    refine ⟨_, _, rfl, tu_⟩
set_option maxHeartbeats 1000000 in
theorem t_PF_condition (x1 : Int32) (x2 : Int32) (o0 : Ob) (o1 : Ob) (g0 : okPF o0) : ∃ (kx : Nat) (r : Int32), F_PF_condition x1 x2 o0 o1 = some (kx, r) ∧ (kx = 0 ∨ kx = 1 ∨ kx = 3) := by
  obtain ⟨f3949, f3950⟩ := id g0
  rw [F_PF_condition]
  obtain ⟨k_2, u_3, e3952, p3951⟩ := t_PF_demandWorkedOut o0 (ok2_)
  rw [e3952, bind2_s]
  by_cases c3953 : k_2 = 0
  · rw [if_pos c3953]
    (try simp (disch := (first | omega | (simp only [Int32.reduceToInt]; omega) | (simp (disch := first | omega | (simp only [Int32.reduceToInt]; omega)) only [tadd, tsub, mul6, neg1, Int32.reduceToInt]; omega))) only [neg1, mul6, g_s, g_l, tadd, tsub, inb_iff, Int32.lt_iff_toInt_lt, Int32.le_iff_toInt_le, i32_eq, b2i_0, Int32.reduceToInt, reduceIte, Nat.reduceEqDiff] at c3953)
    obtain ⟨k_7, v6, e3955, p3954⟩ := t_PF_cellNumber x1 x2
    rw [e3955, bind2_s]
    by_cases c3956 : k_7 = 0
    · rw [if_pos c3956]
      (try simp (disch := (first | omega | (simp only [Int32.reduceToInt]; omega) | (simp (disch := first | omega | (simp only [Int32.reduceToInt]; omega)) only [tadd, tsub, mul6, neg1, Int32.reduceToInt]; omega))) only [neg1, mul6, g_s, g_l, tadd, tsub, inb_iff, Int32.lt_iff_toInt_lt, Int32.le_iff_toInt_le, i32_eq, b2i_0, Int32.reduceToInt, reduceIte, Nat.reduceEqDiff] at c3956)
      have q3957 : ∃ (r : Int32), (chk (inb v6 60) (some (g32 o1 3 (Int32.toNatClampNeg v6)))) = some r ∧ ((0 : Nat) = 0 ∨ (0 : Nat) = 1 ∨ (0 : Nat) = 3) := by
        rw [show (inb v6 60) = true from inb_iff.mpr ⟨tu_, tu_⟩, chk_tr]
        refine ⟨_, rfl, tu_⟩
      obtain ⟨y3960, e3958, p3959⟩ := q3957
      exact ⟨0, y3960, by rw [e3958]; rfl, p3959⟩
    · rw [if_neg c3956]
      (try simp (disch := (first | omega | (simp only [Int32.reduceToInt]; omega) | (simp (disch := first | omega | (simp only [Int32.reduceToInt]; omega)) only [tadd, tsub, mul6, neg1, Int32.reduceToInt]; omega))) only [neg1, mul6, g_s, g_l, tadd, tsub, inb_iff, Int32.lt_iff_toInt_lt, Int32.le_iff_toInt_le, i32_eq, b2i_0, Int32.reduceToInt, reduceIte, Nat.reduceEqDiff] at c3956)
      refine ⟨_, _, rfl, tu_⟩
  · rw [if_neg c3953]
    (try simp (disch := (first | omega | (simp only [Int32.reduceToInt]; omega) | (simp (disch := first | omega | (simp only [Int32.reduceToInt]; omega)) only [tadd, tsub, mul6, neg1, Int32.reduceToInt]; omega))) only [neg1, mul6, g_s, g_l, tadd, tsub, inb_iff, Int32.lt_iff_toInt_lt, Int32.le_iff_toInt_le, i32_eq, b2i_0, Int32.reduceToInt, reduceIte, Nat.reduceEqDiff] at c3953)
    refine ⟨_, _, rfl, tu_⟩
set_option maxHeartbeats 1000000 in
theorem t_PF_line (x1 : Int32) (x2 : Int32) (o0 : Ob) (o1 : Ob) (g0 : okPF o0) (g1 : okText o1) : ∃ (kx : Nat) (r : Int32), F_PF_line x1 x2 o0 o1 = some (kx, r) ∧ (kx = 0 ∨ kx = 1 ∨ kx = 3) := by
  obtain ⟨f3961, f3962⟩ := id g0
  obtain ⟨f3963, f3964, f3965, f3966, f3967, f3968, f3969, f3970, f3971⟩ := id g1
  rw [F_PF_line]
  obtain ⟨k_2, u_3, e3973, p3972⟩ := t_PF_demandRead o0 (ok2_)
  rw [e3973, bind2_s]
  by_cases c3974 : k_2 = 0
  · rw [if_pos c3974]
    (try simp (disch := (first | omega | (simp only [Int32.reduceToInt]; omega) | (simp (disch := first | omega | (simp only [Int32.reduceToInt]; omega)) only [tadd, tsub, mul6, neg1, Int32.reduceToInt]; omega))) only [neg1, mul6, g_s, g_l, tadd, tsub, inb_iff, Int32.lt_iff_toInt_lt, Int32.le_iff_toInt_le, i32_eq, b2i_0, Int32.reduceToInt, reduceIte, Nat.reduceEqDiff] at c3974)
    obtain ⟨k_7, v6, e3976, p3975⟩ := t_PF_cellNumber x1 x2
    rw [e3976, bind2_s]
    by_cases c3977 : k_7 = 0
    · rw [if_pos c3977]
      (try simp (disch := (first | omega | (simp only [Int32.reduceToInt]; omega) | (simp (disch := first | omega | (simp only [Int32.reduceToInt]; omega)) only [tadd, tsub, mul6, neg1, Int32.reduceToInt]; omega))) only [neg1, mul6, g_s, g_l, tadd, tsub, inb_iff, Int32.lt_iff_toInt_lt, Int32.le_iff_toInt_le, i32_eq, b2i_0, Int32.reduceToInt, reduceIte, Nat.reduceEqDiff] at c3977)
      have q3978 : ∃ (r : Int32), (chk (inb v6 60) (some (g32 o1 7 (Int32.toNatClampNeg v6)))) = some r ∧ ((0 : Nat) = 0 ∨ (0 : Nat) = 1 ∨ (0 : Nat) = 3) := by
        rw [show (inb v6 60) = true from inb_iff.mpr ⟨tu_, tu_⟩, chk_tr]
        refine ⟨_, rfl, tu_⟩
      obtain ⟨y3981, e3979, p3980⟩ := q3978
      exact ⟨0, y3981, by rw [e3979]; rfl, p3980⟩
    · rw [if_neg c3977]
      (try simp (disch := (first | omega | (simp only [Int32.reduceToInt]; omega) | (simp (disch := first | omega | (simp only [Int32.reduceToInt]; omega)) only [tadd, tsub, mul6, neg1, Int32.reduceToInt]; omega))) only [neg1, mul6, g_s, g_l, tadd, tsub, inb_iff, Int32.lt_iff_toInt_lt, Int32.le_iff_toInt_le, i32_eq, b2i_0, Int32.reduceToInt, reduceIte, Nat.reduceEqDiff] at c3977)
      refine ⟨_, _, rfl, tu_⟩
  · rw [if_neg c3974]
    (try simp (disch := (first | omega | (simp only [Int32.reduceToInt]; omega) | (simp (disch := first | omega | (simp only [Int32.reduceToInt]; omega)) only [tadd, tsub, mul6, neg1, Int32.reduceToInt]; omega))) only [neg1, mul6, g_s, g_l, tadd, tsub, inb_iff, Int32.lt_iff_toInt_lt, Int32.le_iff_toInt_le, i32_eq, b2i_0, Int32.reduceToInt, reduceIte, Nat.reduceEqDiff] at c3974)
    refine ⟨_, _, rfl, tu_⟩
set_option maxHeartbeats 1000000 in
theorem t_PF_needs (x1 : Int32) (x2 : Int32) (o0 : Ob) (o1 : Ob) (g0 : okPF o0) (g1 : okText o1) : ∃ (kx : Nat) (r : Bool), F_PF_needs x1 x2 o0 o1 = some (kx, r) ∧ (kx = 0 ∨ kx = 1 ∨ kx = 3) := by
  obtain ⟨f3982, f3983⟩ := id g0
  obtain ⟨f3984, f3985, f3986, f3987, f3988, f3989, f3990, f3991, f3992⟩ := id g1
  rw [F_PF_needs]
  obtain ⟨k_2, u_3, e3994, p3993⟩ := t_PF_demandRead o0 (ok2_)
  rw [e3994, bind2_s]
  by_cases c3995 : k_2 = 0
  · rw [if_pos c3995]
    (try simp (disch := (first | omega | (simp only [Int32.reduceToInt]; omega) | (simp (disch := first | omega | (simp only [Int32.reduceToInt]; omega)) only [tadd, tsub, mul6, neg1, Int32.reduceToInt]; omega))) only [neg1, mul6, g_s, g_l, tadd, tsub, inb_iff, Int32.lt_iff_toInt_lt, Int32.le_iff_toInt_le, i32_eq, b2i_0, Int32.reduceToInt, reduceIte, Nat.reduceEqDiff] at c3995)
    obtain ⟨k_6, u_7, e3997, p3996⟩ := t_PF_demandIndex x1 (60 : Int32)
    rw [e3997, bind2_s]
    (try simp (disch := (first | omega | (simp only [Int32.reduceToInt]; omega) | (simp (disch := first | omega | (simp only [Int32.reduceToInt]; omega)) only [tadd, tsub, mul6, neg1, Int32.reduceToInt]; omega))) only [neg1, mul6, g_s, g_l, tadd, tsub, inb_iff, Int32.lt_iff_toInt_lt, Int32.le_iff_toInt_le, i32_eq, b2i_0, Int32.reduceToInt, reduceIte, Nat.reduceEqDiff] at p3996)
    by_cases c3998 : k_6 = 0
    · rw [if_pos c3998]
      (try simp (disch := (first | omega | (simp only [Int32.reduceToInt]; omega) | (simp (disch := first | omega | (simp only [Int32.reduceToInt]; omega)) only [tadd, tsub, mul6, neg1, Int32.reduceToInt]; omega))) only [neg1, mul6, g_s, g_l, tadd, tsub, inb_iff, Int32.lt_iff_toInt_lt, Int32.le_iff_toInt_le, i32_eq, b2i_0, Int32.reduceToInt, reduceIte, Nat.reduceEqDiff] at c3998)
      obtain ⟨k_10, u_11, e4000, p3999⟩ := t_PF_demandIndex x2 (60 : Int32)
      rw [e4000, bind2_s]
      (try simp (disch := (first | omega | (simp only [Int32.reduceToInt]; omega) | (simp (disch := first | omega | (simp only [Int32.reduceToInt]; omega)) only [tadd, tsub, mul6, neg1, Int32.reduceToInt]; omega))) only [neg1, mul6, g_s, g_l, tadd, tsub, inb_iff, Int32.lt_iff_toInt_lt, Int32.le_iff_toInt_le, i32_eq, b2i_0, Int32.reduceToInt, reduceIte, Nat.reduceEqDiff] at p3999)
      by_cases c4001 : k_10 = 0
      · rw [if_pos c4001]
        (try simp (disch := (first | omega | (simp only [Int32.reduceToInt]; omega) | (simp (disch := first | omega | (simp only [Int32.reduceToInt]; omega)) only [tadd, tsub, mul6, neg1, Int32.reduceToInt]; omega))) only [neg1, mul6, g_s, g_l, tadd, tsub, inb_iff, Int32.lt_iff_toInt_lt, Int32.le_iff_toInt_le, i32_eq, b2i_0, Int32.reduceToInt, reduceIte, Nat.reduceEqDiff] at c4001)
        have q4002 : ∃ (r : Bool), (bind1 (F_Text_reaches x1 x2 o1) (fun v14 => some v14)) = some r ∧ ((0 : Nat) = 0 ∨ (0 : Nat) = 1 ∨ (0 : Nat) = 3) := by
          obtain ⟨v14, e4007, p4006⟩ := t_Text_reaches x1 x2 o1 (tu_) (tu_)
          rw [e4007, bind1_s]
          refine ⟨_, rfl, tu_⟩
        obtain ⟨y4005, e4003, p4004⟩ := q4002
        exact ⟨0, y4005, by rw [e4003]; rfl, p4004⟩
      · rw [if_neg c4001]
        (try simp (disch := (first | omega | (simp only [Int32.reduceToInt]; omega) | (simp (disch := first | omega | (simp only [Int32.reduceToInt]; omega)) only [tadd, tsub, mul6, neg1, Int32.reduceToInt]; omega))) only [neg1, mul6, g_s, g_l, tadd, tsub, inb_iff, Int32.lt_iff_toInt_lt, Int32.le_iff_toInt_le, i32_eq, b2i_0, Int32.reduceToInt, reduceIte, Nat.reduceEqDiff] at c4001)
        refine ⟨_, _, rfl, tu_⟩
    · rw [if_neg c3998]
      (try simp (disch := (first | omega | (simp only [Int32.reduceToInt]; omega) | (simp (disch := first | omega | (simp only [Int32.reduceToInt]; omega)) only [tadd, tsub, mul6, neg1, Int32.reduceToInt]; omega))) only [neg1, mul6, g_s, g_l, tadd, tsub, inb_iff, Int32.lt_iff_toInt_lt, Int32.le_iff_toInt_le, i32_eq, b2i_0, Int32.reduceToInt, reduceIte, Nat.reduceEqDiff] at c3998)
      refine ⟨_, _, rfl, tu_⟩
  · rw [if_neg c3995]
    (try simp (disch := (first | omega | (simp only [Int32.reduceToInt]; omega) | (simp (disch := first | omega | (simp only [Int32.reduceToInt]; omega)) only [tadd, tsub, mul6, neg1, Int32.reduceToInt]; omega))) only [neg1, mul6, g_s, g_l, tadd, tsub, inb_iff, Int32.lt_iff_toInt_lt, Int32.le_iff_toInt_le, i32_eq, b2i_0, Int32.reduceToInt, reduceIte, Nat.reduceEqDiff] at c3995)
    refine ⟨_, _, rfl, tu_⟩
set_option maxHeartbeats 1000000 in
theorem t_PF_limit_17 (o0 : Ob) (o1 : Ob) (o3 : Ob) (o4 : Ob) : ∀ (n : Nat) (x1 : Int32) (x2 : Int32) (x3 : Int32) (x4 : Int32) (o2 : Ob), (okPF o0) → (okReckoner o2) → (okText o3) → (okSteps o4) → (0 ≤ x4.toInt) → (x4.toInt ≤ 24) → (24 - x4.toInt < (n : Int)) → ∃ (r : Int32) (n2 : Ob), F_PF_limit_17 o0 o1 o3 o4 n x1 x2 x3 x4 o2 = some (r, n2) ∧ (okReckoner n2) ∧ (KO o2 n2) := by
  intro n
  induction n with
  | zero =>
    intro x1 x2 x3 x4 o2 g0 g1 g2 g3 g4 g5 g6
    obtain ⟨f4008, f4009⟩ := id g0
    obtain ⟨f4010, f4011⟩ := id g1
    obtain ⟨f4012, f4013, f4014, f4015, f4016, f4017, f4018, f4019, f4020⟩ := id g2
    obtain ⟨f4021, f4022, f4023, f4024, f4025, f4026⟩ := id g3
    exfalso
    (try simp (disch := (first | omega | (simp only [Int32.reduceToInt]; omega) | (simp (disch := first | omega | (simp only [Int32.reduceToInt]; omega)) only [tadd, tsub, mul6, neg1, Int32.reduceToInt]; omega))) only [neg1, mul6, g_s, g_l, tadd, tsub, inb_iff, Int32.lt_iff_toInt_lt, Int32.le_iff_toInt_le, i32_eq, b2i_0, Int32.reduceToInt, reduceIte, Nat.reduceEqDiff] at g6)
    exact ari_
  | succ n ih =>
    intro x1 x2 x3 x4 o2 g0 g1 g2 g3 g4 g5 g6
    obtain ⟨f4027, f4028⟩ := id g0
    obtain ⟨f4029, f4030⟩ := id g1
    obtain ⟨f4031, f4032, f4033, f4034, f4035, f4036, f4037, f4038, f4039⟩ := id g2
    obtain ⟨f4040, f4041, f4042, f4043, f4044, f4045⟩ := id g3
    rw [F_PF_limit_17]
    (try simp (disch := (first | omega | (simp only [Int32.reduceToInt]; omega) | (simp (disch := first | omega | (simp only [Int32.reduceToInt]; omega)) only [tadd, tsub, mul6, neg1, Int32.reduceToInt]; omega))) only [neg1, mul6, g_s, g_l, tadd, tsub, inb_iff, Int32.lt_iff_toInt_lt, Int32.le_iff_toInt_le, i32_eq, b2i_0, Int32.reduceToInt, reduceIte, Nat.reduceEqDiff] at g6)
    by_cases c4046 : (g32 o3 3 0) ≤ x4
    · rw [if_pos c4046]
      (try simp (disch := (first | omega | (simp only [Int32.reduceToInt]; omega) | (simp (disch := first | omega | (simp only [Int32.reduceToInt]; omega)) only [tadd, tsub, mul6, neg1, Int32.reduceToInt]; omega))) only [neg1, mul6, g_s, g_l, tadd, tsub, inb_iff, Int32.lt_iff_toInt_lt, Int32.le_iff_toInt_le, i32_eq, b2i_0, Int32.reduceToInt, reduceIte, Nat.reduceEqDiff] at c4046)
      refine ⟨_, _, rfl, ok2_, ko_⟩
    · rw [if_neg c4046]
      (try simp (disch := (first | omega | (simp only [Int32.reduceToInt]; omega) | (simp (disch := first | omega | (simp only [Int32.reduceToInt]; omega)) only [tadd, tsub, mul6, neg1, Int32.reduceToInt]; omega))) only [neg1, mul6, g_s, g_l, tadd, tsub, inb_iff, Int32.lt_iff_toInt_lt, Int32.le_iff_toInt_le, i32_eq, b2i_0, Int32.reduceToInt, reduceIte, Nat.reduceEqDiff] at c4046)
      obtain ⟨v15, o_16, e4049, p4047, p4048⟩ := t_Reckoner_whyBroken x4 o2 o3 o4 o1 (ok2_) (ok9_) (ok6_) (tu_) (tu_)
      rw [e4049, bind2_s]
      obtain ⟨f4050, f4051⟩ := id p4047
      by_cases c4052 : v15 = 0
      · rw [if_pos c4052]
        (try simp (disch := (first | omega | (simp only [Int32.reduceToInt]; omega) | (simp (disch := first | omega | (simp only [Int32.reduceToInt]; omega)) only [tadd, tsub, mul6, neg1, Int32.reduceToInt]; omega))) only [neg1, mul6, g_s, g_l, tadd, tsub, inb_iff, Int32.lt_iff_toInt_lt, Int32.le_iff_toInt_le, i32_eq, b2i_0, Int32.reduceToInt, reduceIte, Nat.reduceEqDiff] at c4052)
        obtain ⟨y4053, y4054, e4057, p4055, p4056⟩ := ih x1 x2 x3 (x4 + (1 : Int32)) o_16 (ok2_) (ok2_) (ok9_) (ok6_) (tu_) (tu_) tu_
        obtain ⟨f4058, f4059⟩ := id p4055
        refine ⟨y4053, y4054, e4057, ok2_, ko_⟩
      · rw [if_neg c4052]
        (try simp (disch := (first | omega | (simp only [Int32.reduceToInt]; omega) | (simp (disch := first | omega | (simp only [Int32.reduceToInt]; omega)) only [tadd, tsub, mul6, neg1, Int32.reduceToInt]; omega))) only [neg1, mul6, g_s, g_l, tadd, tsub, inb_iff, Int32.lt_iff_toInt_lt, Int32.le_iff_toInt_le, i32_eq, b2i_0, Int32.reduceToInt, reduceIte, Nat.reduceEqDiff] at c4052)
        by_cases c4060 : x3 = x1
        · rw [if_pos c4060]
          (try simp (disch := (first | omega | (simp only [Int32.reduceToInt]; omega) | (simp (disch := first | omega | (simp only [Int32.reduceToInt]; omega)) only [tadd, tsub, mul6, neg1, Int32.reduceToInt]; omega))) only [neg1, mul6, g_s, g_l, tadd, tsub, inb_iff, Int32.lt_iff_toInt_lt, Int32.le_iff_toInt_le, i32_eq, b2i_0, Int32.reduceToInt, reduceIte, Nat.reduceEqDiff] at c4060)
          by_cases c4061 : x2 = 0
          · rw [if_pos c4061]
            (try simp (disch := (first | omega | (simp only [Int32.reduceToInt]; omega) | (simp (disch := first | omega | (simp only [Int32.reduceToInt]; omega)) only [tadd, tsub, mul6, neg1, Int32.reduceToInt]; omega))) only [neg1, mul6, g_s, g_l, tadd, tsub, inb_iff, Int32.lt_iff_toInt_lt, Int32.le_iff_toInt_le, i32_eq, b2i_0, Int32.reduceToInt, reduceIte, Nat.reduceEqDiff] at c4061)
            refine ⟨_, _, rfl, ok2_, ko_⟩
          · rw [if_neg c4061]
            (try simp (disch := (first | omega | (simp only [Int32.reduceToInt]; omega) | (simp (disch := first | omega | (simp only [Int32.reduceToInt]; omega)) only [tadd, tsub, mul6, neg1, Int32.reduceToInt]; omega))) only [neg1, mul6, g_s, g_l, tadd, tsub, inb_iff, Int32.lt_iff_toInt_lt, Int32.le_iff_toInt_le, i32_eq, b2i_0, Int32.reduceToInt, reduceIte, Nat.reduceEqDiff] at c4061)
            refine ⟨_, _, rfl, ok2_, ko_⟩
        · rw [if_neg c4060]
          (try simp (disch := (first | omega | (simp only [Int32.reduceToInt]; omega) | (simp (disch := first | omega | (simp only [Int32.reduceToInt]; omega)) only [tadd, tsub, mul6, neg1, Int32.reduceToInt]; omega))) only [neg1, mul6, g_s, g_l, tadd, tsub, inb_iff, Int32.lt_iff_toInt_lt, Int32.le_iff_toInt_le, i32_eq, b2i_0, Int32.reduceToInt, reduceIte, Nat.reduceEqDiff] at c4060)
          obtain ⟨y4062, y4063, e4066, p4064, p4065⟩ := ih x1 x2 (x3 + (1 : Int32)) (x4 + (1 : Int32)) o_16 (ok2_) (ok2_) (ok9_) (ok6_) (tu_) (tu_) tu_
          obtain ⟨f4067, f4068⟩ := id p4064
          refine ⟨y4062, y4063, e4066, ok2_, ko_⟩
set_option maxHeartbeats 1000000 in
theorem t_PF_limit (x1 : Int32) (x2 : Int32) (o0 : Ob) (o1 : Ob) (o2 : Ob) (o3 : Ob) (o4 : Ob) (g0 : okPF o0) (g1 : okReckoner o2) (g2 : okText o3) (g3 : okSteps o4) : ∃ (kx : Nat) (r : Int32) (n2 : Ob), F_PF_limit x1 x2 o0 o1 o2 o3 o4 = some (kx, r, n2) ∧ (okReckoner n2) ∧ (kx = 0 ∨ kx = 1 ∨ kx = 2) ∧ (KO o2 n2) := by
  obtain ⟨f4069, f4070⟩ := id g0
  obtain ⟨f4071, f4072⟩ := id g1
  obtain ⟨f4073, f4074, f4075, f4076, f4077, f4078, f4079, f4080, f4081⟩ := id g2
  obtain ⟨f4082, f4083, f4084, f4085, f4086, f4087⟩ := id g3
  rw [F_PF_limit]
  obtain ⟨k_2, u_3, e4089, p4088⟩ := t_PF_demandWorkedOut o0 (ok2_)
  rw [e4089, bind2_s]
  by_cases c4090 : k_2 = 0
  · rw [if_pos c4090]
    (try simp (disch := (first | omega | (simp only [Int32.reduceToInt]; omega) | (simp (disch := first | omega | (simp only [Int32.reduceToInt]; omega)) only [tadd, tsub, mul6, neg1, Int32.reduceToInt]; omega))) only [neg1, mul6, g_s, g_l, tadd, tsub, inb_iff, Int32.lt_iff_toInt_lt, Int32.le_iff_toInt_le, i32_eq, b2i_0, Int32.reduceToInt, reduceIte, Nat.reduceEqDiff] at c4090)
    obtain ⟨k_6, u_7, e4092, p4091⟩ := t_PF_demandNotNegative x1
    rw [e4092, bind2_s]
    by_cases c4093 : k_6 = 0
    · rw [if_pos c4093]
      (try simp (disch := (first | omega | (simp only [Int32.reduceToInt]; omega) | (simp (disch := first | omega | (simp only [Int32.reduceToInt]; omega)) only [tadd, tsub, mul6, neg1, Int32.reduceToInt]; omega))) only [neg1, mul6, g_s, g_l, tadd, tsub, inb_iff, Int32.lt_iff_toInt_lt, Int32.le_iff_toInt_le, i32_eq, b2i_0, Int32.reduceToInt, reduceIte, Nat.reduceEqDiff] at c4093)
      obtain ⟨k_10, u_11, e4095, p4094⟩ := t_PF_demandZeroOrOne x2
      rw [e4095, bind2_s]
      by_cases c4096 : k_10 = 0
      · rw [if_pos c4096]
        (try simp (disch := (first | omega | (simp only [Int32.reduceToInt]; omega) | (simp (disch := first | omega | (simp only [Int32.reduceToInt]; omega)) only [tadd, tsub, mul6, neg1, Int32.reduceToInt]; omega))) only [neg1, mul6, g_s, g_l, tadd, tsub, inb_iff, Int32.lt_iff_toInt_lt, Int32.le_iff_toInt_le, i32_eq, b2i_0, Int32.reduceToInt, reduceIte, Nat.reduceEqDiff] at c4096)
        have q4097 : ∃ (r : Int32) (n2 : Ob), (F_PF_limit_17 o0 o1 o3 o4 fuel x1 x2 (0 : Int32) (0 : Int32) o2) = some (r, n2) ∧ (okReckoner n2) ∧ ((0 : Nat) = 0 ∨ (0 : Nat) = 1 ∨ (0 : Nat) = 2) ∧ (KO o2 n2) := by
          obtain ⟨y4104, y4105, e4108, p4106, p4107⟩ := t_PF_limit_17 o0 o1 o3 o4 fuel x1 x2 (0 : Int32) (0 : Int32) o2 (ok2_) (ok2_) (ok9_) (ok6_) (tu_) (tu_) tu_
          obtain ⟨f4109, f4110⟩ := id p4106
          refine ⟨y4104, y4105, e4108, ok2_, tu_, ko_⟩
        obtain ⟨y4102, y4103, e4098, p4099, p4100, p4101⟩ := q4097
        exact ⟨0, y4102, y4103, by rw [e4098]; rfl, p4099, p4100, p4101⟩
      · rw [if_neg c4096]
        (try simp (disch := (first | omega | (simp only [Int32.reduceToInt]; omega) | (simp (disch := first | omega | (simp only [Int32.reduceToInt]; omega)) only [tadd, tsub, mul6, neg1, Int32.reduceToInt]; omega))) only [neg1, mul6, g_s, g_l, tadd, tsub, inb_iff, Int32.lt_iff_toInt_lt, Int32.le_iff_toInt_le, i32_eq, b2i_0, Int32.reduceToInt, reduceIte, Nat.reduceEqDiff] at c4096)
        refine ⟨_, _, _, rfl, ok2_, tu_, ko_⟩
    · rw [if_neg c4093]
      (try simp (disch := (first | omega | (simp only [Int32.reduceToInt]; omega) | (simp (disch := first | omega | (simp only [Int32.reduceToInt]; omega)) only [tadd, tsub, mul6, neg1, Int32.reduceToInt]; omega))) only [neg1, mul6, g_s, g_l, tadd, tsub, inb_iff, Int32.lt_iff_toInt_lt, Int32.le_iff_toInt_le, i32_eq, b2i_0, Int32.reduceToInt, reduceIte, Nat.reduceEqDiff] at c4093)
      refine ⟨_, _, _, rfl, ok2_, tu_, ko_⟩
  · rw [if_neg c4090]
    (try simp (disch := (first | omega | (simp only [Int32.reduceToInt]; omega) | (simp (disch := first | omega | (simp only [Int32.reduceToInt]; omega)) only [tadd, tsub, mul6, neg1, Int32.reduceToInt]; omega))) only [neg1, mul6, g_s, g_l, tadd, tsub, inb_iff, Int32.lt_iff_toInt_lt, Int32.le_iff_toInt_le, i32_eq, b2i_0, Int32.reduceToInt, reduceIte, Nat.reduceEqDiff] at c4090)
    refine ⟨_, _, _, rfl, ok2_, tu_, ko_⟩
set_option maxHeartbeats 1000000 in
theorem t_PF_check_62 (o0 : Ob) (o1 : Ob) (o3 : Ob) (o5 : Ob) : ∀ (n : Nat) (x1 : Int32) (x2 : Int64) (x4 : Int64) (x6 : Int32) (x7 : Int32) (o2 : Ob) (o4 : Ob), (okPF o0) → (okReckoner o2) → (okText o3) → (okSteps o5) → (OC o3) → (x1.toInt ≤ 50) → (0 ≤ x7.toInt) → (x7.toInt ≤ 51) → (51 - x7.toInt < (n : Int)) → ∃ (r : Int32) (n2 : Ob) (n4 : Ob), F_PF_check_62 o0 o1 o3 o5 n x1 x2 x4 x6 x7 o2 o4 = some (r, n2, n4) ∧ (okReckoner n2) ∧ (KP o2 n2) ∧ (g64 n2 0 0 = x2) := by
  intro n
  induction n with
  | zero =>
    intro x1 x2 x4 x6 x7 o2 o4 g0 g1 g2 g3 g4 g5 g6 g7 g8
    obtain ⟨f4111, f4112⟩ := id g0
    obtain ⟨f4113, f4114⟩ := id g1
    obtain ⟨f4115, f4116, f4117, f4118, f4119, f4120, f4121, f4122, f4123⟩ := id g2
    obtain ⟨f4124, f4125, f4126, f4127, f4128, f4129⟩ := id g3
    exfalso
    (try simp (disch := (first | omega | (simp only [Int32.reduceToInt]; omega) | (simp (disch := first | omega | (simp only [Int32.reduceToInt]; omega)) only [tadd, tsub, mul6, neg1, Int32.reduceToInt]; omega))) only [neg1, mul6, g_s, g_l, tadd, tsub, inb_iff, Int32.lt_iff_toInt_lt, Int32.le_iff_toInt_le, i32_eq, b2i_0, Int32.reduceToInt, reduceIte, Nat.reduceEqDiff] at g8)
    exact ari_
  | succ n ih =>
    intro x1 x2 x4 x6 x7 o2 o4 g0 g1 g2 g3 g4 g5 g6 g7 g8
    obtain ⟨f4130, f4131⟩ := id g0
    obtain ⟨f4132, f4133⟩ := id g1
    obtain ⟨f4134, f4135, f4136, f4137, f4138, f4139, f4140, f4141, f4142⟩ := id g2
    obtain ⟨f4143, f4144, f4145, f4146, f4147, f4148⟩ := id g3
    rw [F_PF_check_62]
    (try simp (disch := (first | omega | (simp only [Int32.reduceToInt]; omega) | (simp (disch := first | omega | (simp only [Int32.reduceToInt]; omega)) only [tadd, tsub, mul6, neg1, Int32.reduceToInt]; omega))) only [neg1, mul6, g_s, g_l, tadd, tsub, inb_iff, Int32.lt_iff_toInt_lt, Int32.le_iff_toInt_le, i32_eq, b2i_0, Int32.reduceToInt, reduceIte, Nat.reduceEqDiff] at g8)
    by_cases c4149 : x1 < x7
    · rw [if_pos c4149]
      (try simp (disch := (first | omega | (simp only [Int32.reduceToInt]; omega) | (simp (disch := first | omega | (simp only [Int32.reduceToInt]; omega)) only [tadd, tsub, mul6, neg1, Int32.reduceToInt]; omega))) only [neg1, mul6, g_s, g_l, tadd, tsub, inb_iff, Int32.lt_iff_toInt_lt, Int32.le_iff_toInt_le, i32_eq, b2i_0, Int32.reduceToInt, reduceIte, Nat.reduceEqDiff] at c4149)
      rw [show (inb (0 : Int32) 8) = true from inb_iff.mpr ⟨tu_, tu_⟩, chk_tr]
      refine ⟨_, _, _, rfl, ok2_, kp_, gz_⟩
    · rw [if_neg c4149]
      (try simp (disch := (first | omega | (simp only [Int32.reduceToInt]; omega) | (simp (disch := first | omega | (simp only [Int32.reduceToInt]; omega)) only [tadd, tsub, mul6, neg1, Int32.reduceToInt]; omega))) only [neg1, mul6, g_s, g_l, tadd, tsub, inb_iff, Int32.lt_iff_toInt_lt, Int32.le_iff_toInt_le, i32_eq, b2i_0, Int32.reduceToInt, reduceIte, Nat.reduceEqDiff] at c4149)
      by_cases c4150 : x6 = (-1 : Int32)
      · rw [if_pos c4150]
        (try simp (disch := (first | omega | (simp only [Int32.reduceToInt]; omega) | (simp (disch := first | omega | (simp only [Int32.reduceToInt]; omega)) only [tadd, tsub, mul6, neg1, Int32.reduceToInt]; omega))) only [neg1, mul6, g_s, g_l, tadd, tsub, inb_iff, Int32.lt_iff_toInt_lt, Int32.le_iff_toInt_le, i32_eq, b2i_0, Int32.reduceToInt, reduceIte, Nat.reduceEqDiff] at c4150)
        by_cases c4151 : (lg_cmp (x2 + ((Int32.toInt64 x7) * x4)) (1000000000 : Int64)) ≤ 0
        · rw [if_pos c4151]
          (try simp (disch := (first | omega | (simp only [Int32.reduceToInt]; omega) | (simp (disch := first | omega | (simp only [Int32.reduceToInt]; omega)) only [tadd, tsub, mul6, neg1, Int32.reduceToInt]; omega))) only [neg1, mul6, g_s, g_l, tadd, tsub, inb_iff, Int32.lt_iff_toInt_lt, Int32.le_iff_toInt_le, i32_eq, b2i_0, Int32.reduceToInt, reduceIte, Nat.reduceEqDiff] at c4151)
          rw [show (inb (0 : Int32) 8) = true from inb_iff.mpr ⟨tu_, tu_⟩, chk_tr]
          obtain ⟨v18, o_19, o_20, e4154, p4152, p4153⟩ := t_Reckoner_workOutHanging (0 : Int32) (s64 o2 0 (Int32.toNatClampNeg (0 : Int32)) (x2 + ((Int32.toInt64 x7) * x4))) o3 o5 o4 (ok2_) (ok9_) (ok6_) (oc_)
          rw [e4154, bind3_s]
          obtain ⟨f4155, f4156⟩ := id p4152
          obtain ⟨v22, o_23, e4159, p4157, p4158⟩ := t_Reckoner_isAnyBroken o_19 o3 o5 o_20 (ok2_) (ok9_) (ok6_)
          rw [e4159, bind2_s]
          obtain ⟨f4160, f4161⟩ := id p4157
          by_cases c4162 : (b2i v22) = 0
          · rw [if_pos c4162]
            have c4162 := b2i_0.mp c4162
            subst c4162
            obtain ⟨y4163, y4164, y4165, e4169, p4166, p4167, p4168⟩ := ih x1 x2 x4 x6 (x7 + (1 : Int32)) o_23 o_20 (ok2_) (ok2_) (ok9_) (ok6_) (oc_) (tu_) (tu_) (tu_) tu_
            obtain ⟨f4170, f4171⟩ := id p4166
            refine ⟨y4163, y4164, y4165, e4169, ok2_, kp_, gz_⟩
          · rw [if_neg c4162]
            have c4162 := b2i_1 c4162
            subst c4162
            obtain ⟨y4172, y4173, y4174, e4178, p4175, p4176, p4177⟩ := ih x1 x2 x4 x7 (x7 + (1 : Int32)) o_23 o_20 (ok2_) (ok2_) (ok9_) (ok6_) (oc_) (tu_) (tu_) (tu_) tu_
            obtain ⟨f4179, f4180⟩ := id p4175
            refine ⟨y4172, y4173, y4174, e4178, ok2_, kp_, gz_⟩
        · rw [if_neg c4151]
          (try simp (disch := (first | omega | (simp only [Int32.reduceToInt]; omega) | (simp (disch := first | omega | (simp only [Int32.reduceToInt]; omega)) only [tadd, tsub, mul6, neg1, Int32.reduceToInt]; omega))) only [neg1, mul6, g_s, g_l, tadd, tsub, inb_iff, Int32.lt_iff_toInt_lt, Int32.le_iff_toInt_le, i32_eq, b2i_0, Int32.reduceToInt, reduceIte, Nat.reduceEqDiff] at c4151)
          rw [show (inb (0 : Int32) 8) = true from inb_iff.mpr ⟨tu_, tu_⟩, chk_tr]
          refine ⟨_, _, _, rfl, ok2_, kp_, gz_⟩
      · rw [if_neg c4150]
        (try simp (disch := (first | omega | (simp only [Int32.reduceToInt]; omega) | (simp (disch := first | omega | (simp only [Int32.reduceToInt]; omega)) only [tadd, tsub, mul6, neg1, Int32.reduceToInt]; omega))) only [neg1, mul6, g_s, g_l, tadd, tsub, inb_iff, Int32.lt_iff_toInt_lt, Int32.le_iff_toInt_le, i32_eq, b2i_0, Int32.reduceToInt, reduceIte, Nat.reduceEqDiff] at c4150)
        rw [show (inb (0 : Int32) 8) = true from inb_iff.mpr ⟨tu_, tu_⟩, chk_tr]
        refine ⟨_, _, _, rfl, ok2_, kp_, gz_⟩
set_option maxHeartbeats 1000000 in
theorem t_PF_check (x1 : Int32) (o0 : Ob) (o1 : Ob) (o2 : Ob) (o3 : Ob) (o4 : Ob) (o5 : Ob) (g0 : okPF o0) (g1 : okReckoner o2) (g2 : okText o3) (g3 : okSteps o5) (g4 : OC o3) : ∃ (kx : Nat) (r : Int32) (n2 : Ob) (n4 : Ob), F_PF_check x1 o0 o1 o2 o3 o4 o5 = some (kx, r, n2, n4) ∧ (okReckoner n2) ∧ (kx = 0 ∨ kx = 1 ∨ kx = 2) ∧ (KO o2 n2) := by
  obtain ⟨f4181, f4182⟩ := id g0
  obtain ⟨f4183, f4184⟩ := id g1
  obtain ⟨f4185, f4186, f4187, f4188, f4189, f4190, f4191, f4192, f4193⟩ := id g2
  obtain ⟨f4194, f4195, f4196, f4197, f4198, f4199⟩ := id g3
  rw [F_PF_check]
  obtain ⟨k_2, u_3, e4201, p4200⟩ := t_PF_demandWorkedOut o0 (ok2_)
  rw [e4201, bind2_s]
  by_cases c4202 : k_2 = 0
  · rw [if_pos c4202]
    (try simp (disch := (first | omega | (simp only [Int32.reduceToInt]; omega) | (simp (disch := first | omega | (simp only [Int32.reduceToInt]; omega)) only [tadd, tsub, mul6, neg1, Int32.reduceToInt]; omega))) only [neg1, mul6, g_s, g_l, tadd, tsub, inb_iff, Int32.lt_iff_toInt_lt, Int32.le_iff_toInt_le, i32_eq, b2i_0, Int32.reduceToInt, reduceIte, Nat.reduceEqDiff] at c4202)
    by_cases c4203 : x1 < 0
    · rw [if_pos c4203]
      (try simp (disch := (first | omega | (simp only [Int32.reduceToInt]; omega) | (simp (disch := first | omega | (simp only [Int32.reduceToInt]; omega)) only [tadd, tsub, mul6, neg1, Int32.reduceToInt]; omega))) only [neg1, mul6, g_s, g_l, tadd, tsub, inb_iff, Int32.lt_iff_toInt_lt, Int32.le_iff_toInt_le, i32_eq, b2i_0, Int32.reduceToInt, reduceIte, Nat.reduceEqDiff] at c4203)
      refine ⟨_, _, _, _, rfl, ok2_, tu_, ko_⟩
    · rw [if_neg c4203]
      (try simp (disch := (first | omega | (simp only [Int32.reduceToInt]; omega) | (simp (disch := first | omega | (simp only [Int32.reduceToInt]; omega)) only [tadd, tsub, mul6, neg1, Int32.reduceToInt]; omega))) only [neg1, mul6, g_s, g_l, tadd, tsub, inb_iff, Int32.lt_iff_toInt_lt, Int32.le_iff_toInt_le, i32_eq, b2i_0, Int32.reduceToInt, reduceIte, Nat.reduceEqDiff] at c4203)
      by_cases c4204 : x1 ≤ (50 : Int32)
      · rw [if_pos c4204]
        (try simp (disch := (first | omega | (simp only [Int32.reduceToInt]; omega) | (simp (disch := first | omega | (simp only [Int32.reduceToInt]; omega)) only [tadd, tsub, mul6, neg1, Int32.reduceToInt]; omega))) only [neg1, mul6, g_s, g_l, tadd, tsub, inb_iff, Int32.lt_iff_toInt_lt, Int32.le_iff_toInt_le, i32_eq, b2i_0, Int32.reduceToInt, reduceIte, Nat.reduceEqDiff] at c4204)
        have q4205 : ∃ (r : Int32) (n2 : Ob) (n4 : Ob), (chk (inb (0 : Int32) 8) (bind1 (F_Cells_copyFrom o4 o1) (fun o_10 => F_PF_check_62 o0 o1 o3 o5 fuel x1 (g64 o2 0 (Int32.toNatClampNeg (0 : Int32))) (g64 o2 1 (Int32.toNatClampNeg (0 : Int32))) (-1 : Int32) (0 : Int32) o2 o_10))) = some (r, n2, n4) ∧ (okReckoner n2) ∧ ((0 : Nat) = 0 ∨ (0 : Nat) = 1 ∨ (0 : Nat) = 2) ∧ (KO o2 n2) := by
          rw [show (inb (0 : Int32) 8) = true from inb_iff.mpr ⟨tu_, tu_⟩, chk_tr]
          obtain ⟨o_10, e4214, p4213⟩ := t_Cells_copyFrom o4 o1
          rw [e4214, bind1_s]
          obtain ⟨y4215, y4216, y4217, e4221, p4218, p4219, p4220⟩ := t_PF_check_62 o0 o1 o3 o5 fuel x1 (g64 o2 0 (Int32.toNatClampNeg (0 : Int32))) (g64 o2 1 (Int32.toNatClampNeg (0 : Int32))) (-1 : Int32) (0 : Int32) o2 o_10 (ok2_) (ok2_) (ok9_) (ok6_) (oc_) (tu_) (tu_) (tu_) tu_
          obtain ⟨f4222, f4223⟩ := id p4218
          refine ⟨y4215, y4216, y4217, e4221, ok2_, tu_, ko_⟩
        obtain ⟨y4210, y4211, y4212, e4206, p4207, p4208, p4209⟩ := q4205
        exact ⟨0, y4210, y4211, y4212, by rw [e4206]; rfl, p4207, p4208, p4209⟩
      · rw [if_neg c4204]
        (try simp (disch := (first | omega | (simp only [Int32.reduceToInt]; omega) | (simp (disch := first | omega | (simp only [Int32.reduceToInt]; omega)) only [tadd, tsub, mul6, neg1, Int32.reduceToInt]; omega))) only [neg1, mul6, g_s, g_l, tadd, tsub, inb_iff, Int32.lt_iff_toInt_lt, Int32.le_iff_toInt_le, i32_eq, b2i_0, Int32.reduceToInt, reduceIte, Nat.reduceEqDiff] at c4204)
        refine ⟨_, _, _, _, rfl, ok2_, tu_, ko_⟩
  · rw [if_neg c4202]
    (try simp (disch := (first | omega | (simp only [Int32.reduceToInt]; omega) | (simp (disch := first | omega | (simp only [Int32.reduceToInt]; omega)) only [tadd, tsub, mul6, neg1, Int32.reduceToInt]; omega))) only [neg1, mul6, g_s, g_l, tadd, tsub, inb_iff, Int32.lt_iff_toInt_lt, Int32.le_iff_toInt_le, i32_eq, b2i_0, Int32.reduceToInt, reduceIte, Nat.reduceEqDiff] at c4202)
    refine ⟨_, _, _, _, rfl, ok2_, tu_, ko_⟩
set_option maxHeartbeats 1000000 in
theorem t_PF_same_21 (o0 : Ob) (o1 : Ob) (o3 : Ob) (o5 : Ob) : ∀ (n : Nat) (x1 : Int32) (o2 : Ob) (o4 : Ob), (okPF o0) → (okReckoner o2) → (okText o3) → (okSteps o5) → (0 ≤ x1.toInt) → (x1.toInt ≤ 60) → (60 - x1.toInt < (n : Int)) → ∃ (r : Bool) (n2 : Ob) (n4 : Ob), F_PF_same_21 o0 o1 o3 o5 n x1 o2 o4 = some (r, n2, n4) ∧ (okReckoner n2) ∧ (KO o2 n2) := by
  intro n
  induction n with
  | zero =>
    intro x1 o2 o4 g0 g1 g2 g3 g4 g5 g6
    obtain ⟨f4224, f4225⟩ := id g0
    obtain ⟨f4226, f4227⟩ := id g1
    obtain ⟨f4228, f4229, f4230, f4231, f4232, f4233, f4234, f4235, f4236⟩ := id g2
    obtain ⟨f4237, f4238, f4239, f4240, f4241, f4242⟩ := id g3
    exfalso
    (try simp (disch := (first | omega | (simp only [Int32.reduceToInt]; omega) | (simp (disch := first | omega | (simp only [Int32.reduceToInt]; omega)) only [tadd, tsub, mul6, neg1, Int32.reduceToInt]; omega))) only [neg1, mul6, g_s, g_l, tadd, tsub, inb_iff, Int32.lt_iff_toInt_lt, Int32.le_iff_toInt_le, i32_eq, b2i_0, Int32.reduceToInt, reduceIte, Nat.reduceEqDiff] at g6)
    exact ari_
  | succ n ih =>
    intro x1 o2 o4 g0 g1 g2 g3 g4 g5 g6
    obtain ⟨f4243, f4244⟩ := id g0
    obtain ⟨f4245, f4246⟩ := id g1
    obtain ⟨f4247, f4248, f4249, f4250, f4251, f4252, f4253, f4254, f4255⟩ := id g2
    obtain ⟨f4256, f4257, f4258, f4259, f4260, f4261⟩ := id g3
    rw [F_PF_same_21]
    (try simp (disch := (first | omega | (simp only [Int32.reduceToInt]; omega) | (simp (disch := first | omega | (simp only [Int32.reduceToInt]; omega)) only [tadd, tsub, mul6, neg1, Int32.reduceToInt]; omega))) only [neg1, mul6, g_s, g_l, tadd, tsub, inb_iff, Int32.lt_iff_toInt_lt, Int32.le_iff_toInt_le, i32_eq, b2i_0, Int32.reduceToInt, reduceIte, Nat.reduceEqDiff] at g6)
    by_cases c4262 : (60 : Int32) ≤ x1
    · rw [if_pos c4262]
      (try simp (disch := (first | omega | (simp only [Int32.reduceToInt]; omega) | (simp (disch := first | omega | (simp only [Int32.reduceToInt]; omega)) only [tadd, tsub, mul6, neg1, Int32.reduceToInt]; omega))) only [neg1, mul6, g_s, g_l, tadd, tsub, inb_iff, Int32.lt_iff_toInt_lt, Int32.le_iff_toInt_le, i32_eq, b2i_0, Int32.reduceToInt, reduceIte, Nat.reduceEqDiff] at c4262)
      refine ⟨_, _, _, rfl, ok2_, ko_⟩
    · rw [if_neg c4262]
      (try simp (disch := (first | omega | (simp only [Int32.reduceToInt]; omega) | (simp (disch := first | omega | (simp only [Int32.reduceToInt]; omega)) only [tadd, tsub, mul6, neg1, Int32.reduceToInt]; omega))) only [neg1, mul6, g_s, g_l, tadd, tsub, inb_iff, Int32.lt_iff_toInt_lt, Int32.le_iff_toInt_le, i32_eq, b2i_0, Int32.reduceToInt, reduceIte, Nat.reduceEqDiff] at c4262)
      obtain ⟨v10, e4264, p4263⟩ := t_Cells_isAsIn x1 o1 o4 (tu_) (tu_)
      rw [e4264, bind1_s]
      by_cases c4265 : (b2i v10) = 0
      · rw [if_pos c4265]
        have c4265 := b2i_0.mp c4265
        subst c4265
        refine ⟨_, _, _, rfl, ok2_, ko_⟩
      · rw [if_neg c4265]
        have c4265 := b2i_1 c4265
        subst c4265
        rw [show (inb x1 60) = true from inb_iff.mpr ⟨tu_, tu_⟩, chk_tr]
        by_cases c4266 : (g32 o1 3 (Int32.toNatClampNeg x1)) = (g32 o4 3 (Int32.toNatClampNeg x1))
        · rw [if_pos c4266]
          (try simp (disch := (first | omega | (simp only [Int32.reduceToInt]; omega) | (simp (disch := first | omega | (simp only [Int32.reduceToInt]; omega)) only [tadd, tsub, mul6, neg1, Int32.reduceToInt]; omega))) only [neg1, mul6, g_s, g_l, tadd, tsub, inb_iff, Int32.lt_iff_toInt_lt, Int32.le_iff_toInt_le, i32_eq, b2i_0, Int32.reduceToInt, reduceIte, Nat.reduceEqDiff] at c4266)
          obtain ⟨y4267, y4268, y4269, e4272, p4270, p4271⟩ := ih (x1 + (1 : Int32)) o2 o4 (ok2_) (ok2_) (ok9_) (ok6_) (tu_) (tu_) tu_
          obtain ⟨f4273, f4274⟩ := id p4270
          refine ⟨y4267, y4268, y4269, e4272, ok2_, ko_⟩
        · rw [if_neg c4266]
          (try simp (disch := (first | omega | (simp only [Int32.reduceToInt]; omega) | (simp (disch := first | omega | (simp only [Int32.reduceToInt]; omega)) only [tadd, tsub, mul6, neg1, Int32.reduceToInt]; omega))) only [neg1, mul6, g_s, g_l, tadd, tsub, inb_iff, Int32.lt_iff_toInt_lt, Int32.le_iff_toInt_le, i32_eq, b2i_0, Int32.reduceToInt, reduceIte, Nat.reduceEqDiff] at c4266)
          refine ⟨_, _, _, rfl, ok2_, ko_⟩
set_option maxHeartbeats 1000000 in
theorem t_PF_same (o0 : Ob) (o1 : Ob) (o2 : Ob) (o3 : Ob) (o4 : Ob) (o5 : Ob) (g0 : okPF o0) (g1 : okReckoner o2) (g2 : okText o3) (g3 : okSteps o5) (g4 : OC o3) : ∃ (kx : Nat) (r : Bool) (n2 : Ob) (n4 : Ob), F_PF_same o0 o1 o2 o3 o4 o5 = some (kx, r, n2, n4) ∧ (okReckoner n2) ∧ (kx = 0 ∨ kx = 1) ∧ (KO o2 n2) := by
  obtain ⟨f4275, f4276⟩ := id g0
  obtain ⟨f4277, f4278⟩ := id g1
  obtain ⟨f4279, f4280, f4281, f4282, f4283, f4284, f4285, f4286, f4287⟩ := id g2
  obtain ⟨f4288, f4289, f4290, f4291, f4292, f4293⟩ := id g3
  rw [F_PF_same]
  obtain ⟨k_2, u_3, e4295, p4294⟩ := t_PF_demandWorkedOut o0 (ok2_)
  rw [e4295, bind2_s]
  by_cases c4296 : k_2 = 0
  · rw [if_pos c4296]
    (try simp (disch := (first | omega | (simp only [Int32.reduceToInt]; omega) | (simp (disch := first | omega | (simp only [Int32.reduceToInt]; omega)) only [tadd, tsub, mul6, neg1, Int32.reduceToInt]; omega))) only [neg1, mul6, g_s, g_l, tadd, tsub, inb_iff, Int32.lt_iff_toInt_lt, Int32.le_iff_toInt_le, i32_eq, b2i_0, Int32.reduceToInt, reduceIte, Nat.reduceEqDiff] at c4296)
    have q4297 : ∃ (r : Bool) (n2 : Ob) (n4 : Ob), (bind2 (F_Reckoner_workOutAll o2 o3 o5 o4) (fun o_6 o_7 => F_PF_same_21 o0 o1 o3 o5 fuel (0 : Int32) o_6 o_7)) = some (r, n2, n4) ∧ (okReckoner n2) ∧ ((0 : Nat) = 0 ∨ (0 : Nat) = 1) ∧ (KO o2 n2) := by
      obtain ⟨o_6, o_7, e4307, p4305, p4306⟩ := t_Reckoner_workOutAll o2 o3 o5 o4 (ok2_) (ok9_) (ok6_) (oc_)
      rw [e4307, bind2_s]
      obtain ⟨f4308, f4309⟩ := id p4305
      obtain ⟨y4310, y4311, y4312, e4315, p4313, p4314⟩ := t_PF_same_21 o0 o1 o3 o5 fuel (0 : Int32) o_6 o_7 (ok2_) (ok2_) (ok9_) (ok6_) (tu_) (tu_) tu_
      obtain ⟨f4316, f4317⟩ := id p4313
      refine ⟨y4310, y4311, y4312, e4315, ok2_, tu_, ko_⟩
    obtain ⟨y4302, y4303, y4304, e4298, p4299, p4300, p4301⟩ := q4297
    exact ⟨0, y4302, y4303, y4304, by rw [e4298]; rfl, p4299, p4300, p4301⟩
  · rw [if_neg c4296]
    (try simp (disch := (first | omega | (simp only [Int32.reduceToInt]; omega) | (simp (disch := first | omega | (simp only [Int32.reduceToInt]; omega)) only [tadd, tsub, mul6, neg1, Int32.reduceToInt]; omega))) only [neg1, mul6, g_s, g_l, tadd, tsub, inb_iff, Int32.lt_iff_toInt_lt, Int32.le_iff_toInt_le, i32_eq, b2i_0, Int32.reduceToInt, reduceIte, Nat.reduceEqDiff] at c4296)
    refine ⟨_, _, _, _, rfl, ok2_, tu_, ko_⟩
set_option maxHeartbeats 1000000 in
theorem t_PF_version (o0 : Ob) (o1 : Ob) (o2 : Ob) (g0 : okPF o0) : ∃ (kx : Nat) (r : Int32) (n0 : Ob) (n2 : Ob), F_PF_version o0 o1 o2 = some (kx, r, n0, n2) ∧ (okPF n0) ∧ (kx = 0 ∨ kx = 1) := by
  obtain ⟨f4318, f4319⟩ := id g0
  rw [F_PF_version]
  obtain ⟨k_2, u_3, e4321, p4320⟩ := t_PF_demandWorkedOut o0 (ok2_)
  rw [e4321, bind2_s]
  by_cases c4322 : k_2 = 0
  · rw [if_pos c4322]
    (try simp (disch := (first | omega | (simp only [Int32.reduceToInt]; omega) | (simp (disch := first | omega | (simp only [Int32.reduceToInt]; omega)) only [tadd, tsub, mul6, neg1, Int32.reduceToInt]; omega))) only [neg1, mul6, g_s, g_l, tadd, tsub, inb_iff, Int32.lt_iff_toInt_lt, Int32.le_iff_toInt_le, i32_eq, b2i_0, Int32.reduceToInt, reduceIte, Nat.reduceEqDiff] at c4322)
    by_cases c4323 : (g32 o0 8 0) < (4 : Int32)
    · rw [if_pos c4323]
      (try simp (disch := (first | omega | (simp only [Int32.reduceToInt]; omega) | (simp (disch := first | omega | (simp only [Int32.reduceToInt]; omega)) only [tadd, tsub, mul6, neg1, Int32.reduceToInt]; omega))) only [neg1, mul6, g_s, g_l, tadd, tsub, inb_iff, Int32.lt_iff_toInt_lt, Int32.le_iff_toInt_le, i32_eq, b2i_0, Int32.reduceToInt, reduceIte, Nat.reduceEqDiff] at c4323)
      have q4324 : ∃ (r : Int32) (n0 : Ob) (n2 : Ob), (chk (inb (g32 o0 8 0) 4) (bind1 (F_Cells_copyFrom o2 o1) (fun o_8 => some ((((g32 o0 8 0) + (1 : Int32)) - (1 : Int32)), (s32 o0 8 0 ((g32 o0 8 0) + (1 : Int32))), o_8)))) = some (r, n0, n2) ∧ (okPF n0) ∧ ((0 : Nat) = 0 ∨ (0 : Nat) = 1) := by
        rw [show (inb (g32 o0 8 0) 4) = true from inb_iff.mpr ⟨tu_, tu_⟩, chk_tr]
        obtain ⟨o_8, e4332, p4331⟩ := t_Cells_copyFrom o2 o1
        rw [e4332, bind1_s]
        refine ⟨_, _, _, rfl, ok2_, tu_⟩
      obtain ⟨y4328, y4329, y4330, e4325, p4326, p4327⟩ := q4324
      exact ⟨0, y4328, y4329, y4330, by rw [e4325]; rfl, p4326, p4327⟩
    · rw [if_neg c4323]
      (try simp (disch := (first | omega | (simp only [Int32.reduceToInt]; omega) | (simp (disch := first | omega | (simp only [Int32.reduceToInt]; omega)) only [tadd, tsub, mul6, neg1, Int32.reduceToInt]; omega))) only [neg1, mul6, g_s, g_l, tadd, tsub, inb_iff, Int32.lt_iff_toInt_lt, Int32.le_iff_toInt_le, i32_eq, b2i_0, Int32.reduceToInt, reduceIte, Nat.reduceEqDiff] at c4323)
      refine ⟨_, _, _, _, rfl, ok2_, tu_⟩
  · rw [if_neg c4322]
    (try simp (disch := (first | omega | (simp only [Int32.reduceToInt]; omega) | (simp (disch := first | omega | (simp only [Int32.reduceToInt]; omega)) only [tadd, tsub, mul6, neg1, Int32.reduceToInt]; omega))) only [neg1, mul6, g_s, g_l, tadd, tsub, inb_iff, Int32.lt_iff_toInt_lt, Int32.le_iff_toInt_le, i32_eq, b2i_0, Int32.reduceToInt, reduceIte, Nat.reduceEqDiff] at c4322)
    refine ⟨_, _, _, _, rfl, ok2_, tu_⟩
set_option maxHeartbeats 1000000 in
theorem t_PF_differs_21 (o0 : Ob) (o1 : Ob) (o2 : Ob) : ∀ (n : Nat) (x1 : Int32) (x2 : Int32) (x3 : Int32) (x4 : Int32), (okPF o0) → (0 ≤ x1.toInt) → (x1.toInt < 4) → (0 ≤ x4.toInt) → (x4.toInt ≤ 60) → (60 - x4.toInt < (n : Int)) → ∃ (r : Int32), F_PF_differs_21 o0 o1 o2 n x1 x2 x3 x4 = some r ∧ (True) := by
  intro n
  induction n with
  | zero =>
    intro x1 x2 x3 x4 g0 g1 g2 g3 g4 g5
    obtain ⟨f4333, f4334⟩ := id g0
    exfalso
    (try simp (disch := (first | omega | (simp only [Int32.reduceToInt]; omega) | (simp (disch := first | omega | (simp only [Int32.reduceToInt]; omega)) only [tadd, tsub, mul6, neg1, Int32.reduceToInt]; omega))) only [neg1, mul6, g_s, g_l, tadd, tsub, inb_iff, Int32.lt_iff_toInt_lt, Int32.le_iff_toInt_le, i32_eq, b2i_0, Int32.reduceToInt, reduceIte, Nat.reduceEqDiff] at g5)
    exact ari_
  | succ n ih =>
    intro x1 x2 x3 x4 g0 g1 g2 g3 g4 g5
    obtain ⟨f4335, f4336⟩ := id g0
    rw [F_PF_differs_21]
    (try simp (disch := (first | omega | (simp only [Int32.reduceToInt]; omega) | (simp (disch := first | omega | (simp only [Int32.reduceToInt]; omega)) only [tadd, tsub, mul6, neg1, Int32.reduceToInt]; omega))) only [neg1, mul6, g_s, g_l, tadd, tsub, inb_iff, Int32.lt_iff_toInt_lt, Int32.le_iff_toInt_le, i32_eq, b2i_0, Int32.reduceToInt, reduceIte, Nat.reduceEqDiff] at g5)
    by_cases c4337 : (60 : Int32) ≤ x4
    · rw [if_pos c4337]
      (try simp (disch := (first | omega | (simp only [Int32.reduceToInt]; omega) | (simp (disch := first | omega | (simp only [Int32.reduceToInt]; omega)) only [tadd, tsub, mul6, neg1, Int32.reduceToInt]; omega))) only [neg1, mul6, g_s, g_l, tadd, tsub, inb_iff, Int32.lt_iff_toInt_lt, Int32.le_iff_toInt_le, i32_eq, b2i_0, Int32.reduceToInt, reduceIte, Nat.reduceEqDiff] at c4337)
      refine ⟨_, rfl, tu_⟩
    · rw [if_neg c4337]
      (try simp (disch := (first | omega | (simp only [Int32.reduceToInt]; omega) | (simp (disch := first | omega | (simp only [Int32.reduceToInt]; omega)) only [tadd, tsub, mul6, neg1, Int32.reduceToInt]; omega))) only [neg1, mul6, g_s, g_l, tadd, tsub, inb_iff, Int32.lt_iff_toInt_lt, Int32.le_iff_toInt_le, i32_eq, b2i_0, Int32.reduceToInt, reduceIte, Nat.reduceEqDiff] at c4337)
      rw [show (inb x1 4) = true from inb_iff.mpr ⟨tu_, tu_⟩, chk_tr]
      obtain ⟨v16, e4339, p4338⟩ := t_Cells_isAsIn x4 o1 o2 (tu_) (tu_)
      rw [e4339, bind1_s]
      by_cases c4340 : (b2i v16) = 0
      · rw [if_pos c4340]
        have c4340 := b2i_0.mp c4340
        subst c4340
        by_cases c4341 : x3 = x2
        · rw [if_pos c4341]
          (try simp (disch := (first | omega | (simp only [Int32.reduceToInt]; omega) | (simp (disch := first | omega | (simp only [Int32.reduceToInt]; omega)) only [tadd, tsub, mul6, neg1, Int32.reduceToInt]; omega))) only [neg1, mul6, g_s, g_l, tadd, tsub, inb_iff, Int32.lt_iff_toInt_lt, Int32.le_iff_toInt_le, i32_eq, b2i_0, Int32.reduceToInt, reduceIte, Nat.reduceEqDiff] at c4341)
          refine ⟨_, rfl, tu_⟩
        · rw [if_neg c4341]
          (try simp (disch := (first | omega | (simp only [Int32.reduceToInt]; omega) | (simp (disch := first | omega | (simp only [Int32.reduceToInt]; omega)) only [tadd, tsub, mul6, neg1, Int32.reduceToInt]; omega))) only [neg1, mul6, g_s, g_l, tadd, tsub, inb_iff, Int32.lt_iff_toInt_lt, Int32.le_iff_toInt_le, i32_eq, b2i_0, Int32.reduceToInt, reduceIte, Nat.reduceEqDiff] at c4341)
          obtain ⟨y4342, e4344, p4343⟩ := ih x1 x2 (x3 + (1 : Int32)) (x4 + (1 : Int32)) (ok2_) (tu_) (tu_) (tu_) (tu_) tu_
          refine ⟨y4342, e4344, tu_⟩
      · rw [if_neg c4340]
        have c4340 := b2i_1 c4340
        subst c4340
        obtain ⟨y4345, e4347, p4346⟩ := ih x1 x2 x3 (x4 + (1 : Int32)) (ok2_) (tu_) (tu_) (tu_) (tu_) tu_
        refine ⟨y4345, e4347, tu_⟩
set_option maxHeartbeats 1000000 in
theorem t_PF_differs (x1 : Int32) (x2 : Int32) (o0 : Ob) (o1 : Ob) (o2 : Ob) (g0 : okPF o0) : ∃ (kx : Nat) (r : Int32), F_PF_differs x1 x2 o0 o1 o2 = some (kx, r) ∧ (kx = 0 ∨ kx = 1 ∨ kx = 2 ∨ kx = 3) := by
  obtain ⟨f4348, f4349⟩ := id g0
  rw [F_PF_differs]
  obtain ⟨k_2, u_3, e4351, p4350⟩ := t_PF_demandWorkedOut o0 (ok2_)
  rw [e4351, bind2_s]
  by_cases c4352 : k_2 = 0
  · rw [if_pos c4352]
    (try simp (disch := (first | omega | (simp only [Int32.reduceToInt]; omega) | (simp (disch := first | omega | (simp only [Int32.reduceToInt]; omega)) only [tadd, tsub, mul6, neg1, Int32.reduceToInt]; omega))) only [neg1, mul6, g_s, g_l, tadd, tsub, inb_iff, Int32.lt_iff_toInt_lt, Int32.le_iff_toInt_le, i32_eq, b2i_0, Int32.reduceToInt, reduceIte, Nat.reduceEqDiff] at c4352)
    obtain ⟨k_6, u_7, e4354, p4353⟩ := t_PF_demandIndex x1 (g32 o0 8 0)
    rw [e4354, bind2_s]
    by_cases c4355 : k_6 = 0
    · rw [if_pos c4355]
      (try simp (disch := (first | omega | (simp only [Int32.reduceToInt]; omega) | (simp (disch := first | omega | (simp only [Int32.reduceToInt]; omega)) only [tadd, tsub, mul6, neg1, Int32.reduceToInt]; omega))) only [neg1, mul6, g_s, g_l, tadd, tsub, inb_iff, Int32.lt_iff_toInt_lt, Int32.le_iff_toInt_le, i32_eq, b2i_0, Int32.reduceToInt, reduceIte, Nat.reduceEqDiff] at c4355)
      obtain ⟨k_10, u_11, e4357, p4356⟩ := t_PF_demandNotNegative x2
      rw [e4357, bind2_s]
      by_cases c4358 : k_10 = 0
      · rw [if_pos c4358]
        (try simp (disch := (first | omega | (simp only [Int32.reduceToInt]; omega) | (simp (disch := first | omega | (simp only [Int32.reduceToInt]; omega)) only [tadd, tsub, mul6, neg1, Int32.reduceToInt]; omega))) only [neg1, mul6, g_s, g_l, tadd, tsub, inb_iff, Int32.lt_iff_toInt_lt, Int32.le_iff_toInt_le, i32_eq, b2i_0, Int32.reduceToInt, reduceIte, Nat.reduceEqDiff] at c4358)
        have q4359 : ∃ (r : Int32), (F_PF_differs_21 o0 o1 o2 fuel x1 x2 (0 : Int32) (0 : Int32)) = some r ∧ ((0 : Nat) = 0 ∨ (0 : Nat) = 1 ∨ (0 : Nat) = 2 ∨ (0 : Nat) = 3) := by
          obtain ⟨y4363, e4365, p4364⟩ := t_PF_differs_21 o0 o1 o2 fuel x1 x2 (0 : Int32) (0 : Int32) (ok2_) (tu_) (tu_) (tu_) (tu_) tu_
          refine ⟨y4363, e4365, tu_⟩
        obtain ⟨y4362, e4360, p4361⟩ := q4359
        exact ⟨0, y4362, by rw [e4360]; rfl, p4361⟩
      · rw [if_neg c4358]
        (try simp (disch := (first | omega | (simp only [Int32.reduceToInt]; omega) | (simp (disch := first | omega | (simp only [Int32.reduceToInt]; omega)) only [tadd, tsub, mul6, neg1, Int32.reduceToInt]; omega))) only [neg1, mul6, g_s, g_l, tadd, tsub, inb_iff, Int32.lt_iff_toInt_lt, Int32.le_iff_toInt_le, i32_eq, b2i_0, Int32.reduceToInt, reduceIte, Nat.reduceEqDiff] at c4358)
        refine ⟨_, _, rfl, tu_⟩
    · rw [if_neg c4355]
      (try simp (disch := (first | omega | (simp only [Int32.reduceToInt]; omega) | (simp (disch := first | omega | (simp only [Int32.reduceToInt]; omega)) only [tadd, tsub, mul6, neg1, Int32.reduceToInt]; omega))) only [neg1, mul6, g_s, g_l, tadd, tsub, inb_iff, Int32.lt_iff_toInt_lt, Int32.le_iff_toInt_le, i32_eq, b2i_0, Int32.reduceToInt, reduceIte, Nat.reduceEqDiff] at c4355)
      refine ⟨_, _, rfl, tu_⟩
  · rw [if_neg c4352]
    (try simp (disch := (first | omega | (simp only [Int32.reduceToInt]; omega) | (simp (disch := first | omega | (simp only [Int32.reduceToInt]; omega)) only [tadd, tsub, mul6, neg1, Int32.reduceToInt]; omega))) only [neg1, mul6, g_s, g_l, tadd, tsub, inb_iff, Int32.lt_iff_toInt_lt, Int32.le_iff_toInt_le, i32_eq, b2i_0, Int32.reduceToInt, reduceIte, Nat.reduceEqDiff] at c4352)
    refine ⟨_, _, rfl, tu_⟩
set_option maxHeartbeats 1000000 in
theorem t_Law_write (x1 : Int32) (o0 : Ob) (o1 : Ob) (o2 : Ob) (g0 : okPF o0) (g1 : okText o1) : ∃ (r : Int32) (n2 : Ob), F_Law_write x1 o0 o1 o2 = some (r, n2) ∧ (True) := by
  obtain ⟨f4366, f4367⟩ := id g0
  obtain ⟨f4368, f4369, f4370, f4371, f4372, f4373, f4374, f4375, f4376⟩ := id g1
  rw [F_Law_write]
  obtain ⟨k_3, v2, e4378, p4377⟩ := t_PF_write x1 o0 o1 (ok2_) (ok9_)
  rw [e4378, bind2_s]
  by_cases c4379 : k_3 = 0
  · rw [if_pos c4379]
    (try simp (disch := (first | omega | (simp only [Int32.reduceToInt]; omega) | (simp (disch := first | omega | (simp only [Int32.reduceToInt]; omega)) only [tadd, tsub, mul6, neg1, Int32.reduceToInt]; omega))) only [neg1, mul6, g_s, g_l, tadd, tsub, inb_iff, Int32.lt_iff_toInt_lt, Int32.le_iff_toInt_le, i32_eq, b2i_0, Int32.reduceToInt, reduceIte, Nat.reduceEqDiff] at c4379)
    rw [show (inb (0 : Int32) 1) = true from inb_iff.mpr ⟨tu_, tu_⟩, chk_tr]
    refine ⟨_, _, rfl, tu_⟩
  · rw [if_neg c4379]
    (try simp (disch := (first | omega | (simp only [Int32.reduceToInt]; omega) | (simp (disch := first | omega | (simp only [Int32.reduceToInt]; omega)) only [tadd, tsub, mul6, neg1, Int32.reduceToInt]; omega))) only [neg1, mul6, g_s, g_l, tadd, tsub, inb_iff, Int32.lt_iff_toInt_lt, Int32.le_iff_toInt_le, i32_eq, b2i_0, Int32.reduceToInt, reduceIte, Nat.reduceEqDiff] at c4379)
    by_cases c4380 : k_3 = 1
    · rw [if_pos c4380]
      (try simp (disch := (first | omega | (simp only [Int32.reduceToInt]; omega) | (simp (disch := first | omega | (simp only [Int32.reduceToInt]; omega)) only [tadd, tsub, mul6, neg1, Int32.reduceToInt]; omega))) only [neg1, mul6, g_s, g_l, tadd, tsub, inb_iff, Int32.lt_iff_toInt_lt, Int32.le_iff_toInt_le, i32_eq, b2i_0, Int32.reduceToInt, reduceIte, Nat.reduceEqDiff] at c4380)
      refine ⟨_, _, rfl, tu_⟩
    · rw [if_neg c4380]
      (try simp (disch := (first | omega | (simp only [Int32.reduceToInt]; omega) | (simp (disch := first | omega | (simp only [Int32.reduceToInt]; omega)) only [tadd, tsub, mul6, neg1, Int32.reduceToInt]; omega))) only [neg1, mul6, g_s, g_l, tadd, tsub, inb_iff, Int32.lt_iff_toInt_lt, Int32.le_iff_toInt_le, i32_eq, b2i_0, Int32.reduceToInt, reduceIte, Nat.reduceEqDiff] at c4380)
      by_cases c4381 : k_3 = 2
      · rw [if_pos c4381]
        (try simp (disch := (first | omega | (simp only [Int32.reduceToInt]; omega) | (simp (disch := first | omega | (simp only [Int32.reduceToInt]; omega)) only [tadd, tsub, mul6, neg1, Int32.reduceToInt]; omega))) only [neg1, mul6, g_s, g_l, tadd, tsub, inb_iff, Int32.lt_iff_toInt_lt, Int32.le_iff_toInt_le, i32_eq, b2i_0, Int32.reduceToInt, reduceIte, Nat.reduceEqDiff] at c4381)
        refine ⟨_, _, rfl, tu_⟩
      · rw [if_neg c4381]
        (try simp (disch := (first | omega | (simp only [Int32.reduceToInt]; omega) | (simp (disch := first | omega | (simp only [Int32.reduceToInt]; omega)) only [tadd, tsub, mul6, neg1, Int32.reduceToInt]; omega))) only [neg1, mul6, g_s, g_l, tadd, tsub, inb_iff, Int32.lt_iff_toInt_lt, Int32.le_iff_toInt_le, i32_eq, b2i_0, Int32.reduceToInt, reduceIte, Nat.reduceEqDiff] at c4381)
        exfalso
        exact tu_
/-! set, exactly -/
theorem plain5 {a b g : Int64} (ha : -1000000000 ≤ a.toInt) (ha2 : a.toInt ≤ 1000000000) (hb : 1 ≤ b.toInt) (hb2 : b.toInt ≤ 1000000000) (hg : g.toInt = Int.gcd a.toInt b.toInt) : ¬ g = 0 ∧ 1 ≤ g.toInt := by
  have hdv : ((Int.gcd a.toInt b.toInt : Nat) : Int) ∣ b.toInt := Int.gcd_dvd_right ..
  rw [← hg] at hdv
  have g0 : 0 < g.toInt := by
    have n0 : 0 ≤ g.toInt := by rw [hg]; exact Int.natCast_nonneg _
    by_cases z : g.toInt = 0
    · rw [z] at hdv
      have := Int.zero_dvd.mp hdv
      omega
    · omega
  exact ⟨fun z => by rw [z] at g0; exact absurd g0 (by decide), g0⟩
theorem t5_change (x1 : Int32) (a b : Int64) (o : Ob) (hx : 0 ≤ x1.toInt) (hx2 : x1.toInt < 8) (ha : -1000000000 ≤ a.toInt) (ha2 : a.toInt ≤ 1000000000) (hb : 1 ≤ b.toInt) (hb2 : b.toInt ≤ 1000000000) : ∃ g : Int64, g.toInt = Int.gcd a.toInt b.toInt ∧ F_Reckoner_changeOption x1 a b o = some (decide (¬ (a / g = g64 o 0 (Int32.toNatClampNeg x1) ∧ b / g = g64 o 1 (Int32.toNatClampNeg x1))), s64 (s64 o 0 (Int32.toNatClampNeg x1) (a / g)) 1 (Int32.toNatClampNeg x1) (b / g)) := by
  have l1 : (1 : Int64).toInt = 1 := by decide
  obtain ⟨g, eg, hg⟩ := pf_cd (a := a) (b := b) (by omega) (by omega) (by omega)
  obtain ⟨gn, g1⟩ := plain5 ha ha2 hb hb2 hg
  refine ⟨g, hg, ?_⟩
  have i8 : (inb x1 8) = true := inb_iff.mpr ⟨hx, by omega⟩
  rw [F_Reckoner_changeOption, eg, bind1_s, if_pos (lgc_ge.mpr (by omega)), show (decide (¬ g = 0)) = true from decide_eq_true gn, chk_tr, i8, chk_tr]
  have go : ¬ (a / g = g64 o 0 (Int32.toNatClampNeg x1) ∧ b / g = g64 o 1 (Int32.toNatClampNeg x1)) → F_Reckoner_changeOption_54 x1 (a / g) (b / g) o = some (decide (¬ (a / g = g64 o 0 (Int32.toNatClampNeg x1) ∧ b / g = g64 o 1 (Int32.toNatClampNeg x1))), s64 (s64 o 0 (Int32.toNatClampNeg x1) (a / g)) 1 (Int32.toNatClampNeg x1) (b / g)) := by
    intro h
    rw [F_Reckoner_changeOption_54, i8, chk_tr, decide_eq_true h]
  by_cases c : (lg_cmp (g64 o 0 (Int32.toNatClampNeg x1)) (a / g)) = 0
  · rw [if_pos c]
    have c := lgc_eq.mp c
    by_cases d : (lg_cmp (g64 o 1 (Int32.toNatClampNeg x1)) (b / g)) = 0
    · rw [if_pos d]
      have d := lgc_eq.mp d
      rw [show decide (¬ (a / g = g64 o 0 (Int32.toNatClampNeg x1) ∧ b / g = g64 o 1 (Int32.toNatClampNeg x1))) = false from decide_eq_false (fun z => z ⟨c.symm, d.symm⟩)]
    · rw [if_neg d]; exact go (fun z => d (lgc_eq.mpr z.2.symm))
  · rw [if_neg c]; exact go (fun z => c (lgc_eq.mpr z.1.symm))
def SC (x1 : Int32) (a b : Int64) (o n w : Ob) (r : Int32) : Prop :=
  (¬ (0 ≤ x1.toInt ∧ x1.toInt ≤ 7) ∧ r.toInt = 1 ∧ KO o n) ∨
  ((0 ≤ x1.toInt ∧ x1.toInt ≤ 7) ∧ ¬ (1 ≤ b.toInt ∧ b.toInt ≤ 1000000000 ∧ a.toInt ≤ 1000000000 ∧ -1000000000 ≤ a.toInt) ∧ r.toInt = 2 ∧ KO o n) ∨
  ((0 ≤ x1.toInt ∧ x1.toInt ≤ 7) ∧ (1 ≤ b.toInt ∧ b.toInt ≤ 1000000000 ∧ a.toInt ≤ 1000000000 ∧ -1000000000 ≤ a.toInt) ∧ r.toInt = 0 ∧ ∃ g : Int64, g.toInt = Int.gcd a.toInt b.toInt ∧ g64 w 0 0 = (bif decide (¬ (a / g = g64 o 0 (Int32.toNatClampNeg x1) ∧ b / g = g64 o 1 (Int32.toNatClampNeg x1))) then 1 else 0) ∧ ∀ j : Nat, g64 n 0 j = (if j = Int32.toNatClampNeg x1 then a / g else g64 o 0 j) ∧ g64 n 1 j = (if j = Int32.toNatClampNeg x1 then b / g else g64 o 1 j))
theorem t_Law_set (x1 : Int32) (x2 : Int64) (x4 : Int64) (o0 : Ob) (o1 : Ob) (o2 : Ob) (o3 : Ob) (o4 : Ob) (o5 : Ob) (g0 : okPF o0) (g1 : okReckoner o2) (g2 : okText o3) (g3 : okSteps o4) (g4 : OC o3) : ∃ (r : Int32) (n0 : Ob) (n1 : Ob) (n2 : Ob) (n5 : Ob), F_Law_set x1 x2 x4 o0 o1 o2 o3 o4 o5 = some (r, n0, n1, n2, n5) ∧ (okPF n0) ∧ (okReckoner n2) ∧ SC x1 x2 x4 o2 n2 n5 r := by
  have z0 : (0 : Int32).toInt = 0 := rfl
  have z1 : (1 : Int32).toInt = 1 := rfl
  have z2 : (2 : Int32).toInt = 2 := rfl
  have z8 : (8 : Int32).toInt = 8 := rfl
  have l1 : (1 : Int64).toInt = 1 := by decide
  have l9 : (1000000000 : Int64).toInt = 1000000000 := by decide
  have l8 : (-1000000000 : Int64).toInt = -1000000000 := by decide
  have one : F_PF_set x1 x2 x4 o0 o1 o2 o3 o4 = some (3, (false, o0, o1, o2)) → ¬ (0 ≤ x1.toInt ∧ x1.toInt ≤ 7) → ∃ (r : Int32) (n0 : Ob) (n1 : Ob) (n2 : Ob) (n5 : Ob), F_Law_set x1 x2 x4 o0 o1 o2 o3 o4 o5 = some (r, n0, n1, n2, n5) ∧ (okPF n0) ∧ (okReckoner n2) ∧ SC x1 x2 x4 o2 n2 n5 r := by
    intro h hn
    rw [F_Law_set, h]
    exact ⟨1, o0, o1, o2, o5, rfl, g0, g1, Or.inl ⟨hn, z1, KO.refl⟩⟩
  by_cases c : x1 < 0
  · refine one ?_ ?_
    · rw [F_PF_set, F_PF_demandIndex, if_pos c]
      rfl
    · have c := Int32.lt_iff_toInt_lt.mp c
      omega
  have c' : ¬ x1.toInt < 0 := fun z => c (Int32.lt_iff_toInt_lt.mpr (by omega))
  by_cases d : x1 < (8 : Int32)
  · have d' := Int32.lt_iff_toInt_lt.mp d
    have hx : 0 ≤ x1.toInt ∧ x1.toInt ≤ 7 := by omega
    have e0 : F_PF_demandIndex x1 (8 : Int32) = some (0, ()) := by rw [F_PF_demandIndex, if_neg c, if_pos d]; rfl
    have two : F_PF_set x1 x2 x4 o0 o1 o2 o3 o4 = some (2, (false, o0, o1, o2)) → ¬ (1 ≤ x4.toInt ∧ x4.toInt ≤ 1000000000 ∧ x2.toInt ≤ 1000000000 ∧ -1000000000 ≤ x2.toInt) → ∃ (r : Int32) (n0 : Ob) (n1 : Ob) (n2 : Ob) (n5 : Ob), F_Law_set x1 x2 x4 o0 o1 o2 o3 o4 o5 = some (r, n0, n1, n2, n5) ∧ (okPF n0) ∧ (okReckoner n2) ∧ SC x1 x2 x4 o2 n2 n5 r := by
      intro h hn
      rw [F_Law_set, h]
      exact ⟨2, o0, o1, o2, o5, rfl, g0, g1, Or.inr (Or.inl ⟨hx, hn, z2, KO.refl⟩)⟩
    by_cases e1 : (lg_cmp x4 (1 : Int64)) < 0
    · refine two ?_ ?_
      · rw [F_PF_set, e0, bind2_s, if_pos rfl, if_pos e1]
      · have e1 := lgc_lt.mp e1
        omega
    have e1' : ¬ x4.toInt < (1 : Int64).toInt := fun z => e1 (lgc_lt.mpr z)
    by_cases e2 : 0 < (lg_cmp x4 (1000000000 : Int64))
    · refine two ?_ ?_
      · rw [F_PF_set, e0, bind2_s, if_pos rfl, if_neg e1, if_pos e2]
      · have e2 := lgc_gt.mp e2
        omega
    have e2' : ¬ (1000000000 : Int64).toInt < x4.toInt := fun z => e2 (lgc_gt.mpr z)
    by_cases e3 : 0 < (lg_cmp x2 (1000000000 : Int64))
    · refine two ?_ ?_
      · rw [F_PF_set, e0, bind2_s, if_pos rfl, if_neg e1, if_neg e2, if_pos e3]
      · have e3 := lgc_gt.mp e3
        omega
    have e3' : ¬ (1000000000 : Int64).toInt < x2.toInt := fun z => e3 (lgc_gt.mpr z)
    by_cases e4 : 0 ≤ (lg_cmp x2 (-1000000000 : Int64))
    · have e4' := lgc_ge.mp e4
      have hv : 1 ≤ x4.toInt ∧ x4.toInt ≤ 1000000000 ∧ x2.toInt ≤ 1000000000 ∧ -1000000000 ≤ x2.toInt := by omega
      obtain ⟨g, hg, eg⟩ := t5_change x1 x2 x4 o2 hx.1 (by omega) hv.2.2.2 hv.2.2.1 hv.1 hv.2.1
      obtain ⟨rr, nn, er, okn⟩ := t_Reckoner_changeOption x1 x2 x4 o2 g1 hx.1 (by omega)
      have enn : nn = s64 (s64 o2 0 (Int32.toNatClampNeg x1) (x2 / g)) 1 (Int32.toNatClampNeg x1) (x4 / g) := by
        rw [er] at eg
        exact congrArg (fun z => z.2) (Option.some.inj eg)
      rw [enn] at okn
      have opts : ∀ j : Nat, g64 (s64 (s64 o2 0 (Int32.toNatClampNeg x1) (x2 / g)) 1 (Int32.toNatClampNeg x1) (x4 / g)) 0 j = (if j = Int32.toNatClampNeg x1 then x2 / g else g64 o2 0 j) ∧ g64 (s64 (s64 o2 0 (Int32.toNatClampNeg x1) (x2 / g)) 1 (Int32.toNatClampNeg x1) (x4 / g)) 1 j = (if j = Int32.toNatClampNeg x1 then x4 / g else g64 o2 1 j) := by
        intro j
        refine ⟨by rw [g64_other _ (by decide), g64_same], ?_⟩
        rw [g64_same]
        split
        · rfl
        · rw [g64_other _ (by decide)]
      have main : ∃ (n0 n1 n2 : Ob), F_PF_set x1 x2 x4 o0 o1 o2 o3 o4 = some (0, (decide (¬ (x2 / g = g64 o2 0 (Int32.toNatClampNeg x1) ∧ x4 / g = g64 o2 1 (Int32.toNatClampNeg x1))), n0, n1, n2)) ∧ okPF n0 ∧ okReckoner n2 ∧ KO (s64 (s64 o2 0 (Int32.toNatClampNeg x1) (x2 / g)) 1 (Int32.toNatClampNeg x1) (x4 / g)) n2 := by
        rw [F_PF_set, e0, bind2_s, if_pos rfl, if_neg e1, if_neg e2, if_neg e3, if_pos e4, eg, bind2_s]
        generalize decide (¬ (x2 / g = g64 o2 0 (Int32.toNatClampNeg x1) ∧ x4 / g = g64 o2 1 (Int32.toNatClampNeg x1))) = v
        by_cases w : (b2i v) = 0
        · rw [if_pos w]
          exact ⟨o0, o1, _, rfl, g0, okn, KO.refl⟩
        rw [if_neg w]
        by_cases w3 : (g32 o0 3 0) = 0
        · rw [if_pos w3]
          exact ⟨o0, o1, _, rfl, g0, okn, KO.refl⟩
        rw [if_neg w3]
        obtain ⟨v15, m, mm, q1, q2, q3⟩ := t_Reckoner_workOutHanging x1 (s64 (s64 o2 0 (Int32.toNatClampNeg x1) (x2 / g)) 1 (Int32.toNatClampNeg x1) (x4 / g)) o3 o4 o1 okn g2 g3 g4
        rw [q1, bind3_s]
        exact ⟨_, _, _, rfl, g0, q2, q3⟩
      obtain ⟨n0, n1, n2, p1, p2, p3, p4⟩ := main
      have fin : ∀ w : Ob, g64 w 0 0 = (bif decide (¬ (x2 / g = g64 o2 0 (Int32.toNatClampNeg x1) ∧ x4 / g = g64 o2 1 (Int32.toNatClampNeg x1))) then 1 else 0) → SC x1 x2 x4 o2 n2 w 0 := fun w hw => Or.inr (Or.inr ⟨hx, hv, z0, g, hg, hw, fun j => ⟨(p4 j).1.trans (opts j).1, (p4 j).2.trans (opts j).2⟩⟩)
      rw [F_Law_set, p1, bind5_s, if_pos rfl]
      generalize decide (¬ (x2 / g = g64 o2 0 (Int32.toNatClampNeg x1) ∧ x4 / g = g64 o2 1 (Int32.toNatClampNeg x1))) = v at fin
      by_cases w : (b2i v) = 0
      · rw [if_pos w, show (inb (0 : Int32) 1) = true from by decide, chk_tr]
        have w := b2i_0.mp w
        exact ⟨_, _, _, _, _, rfl, p2, p3, fin _ (by rw [w]; exact g64_self _ 0 _ _)⟩
      · rw [if_neg w, show (inb (0 : Int32) 1) = true from by decide, chk_tr]
        have w := b2i_1 w
        exact ⟨_, _, _, _, _, rfl, p2, p3, fin _ (by rw [w]; exact g64_self _ 0 _ _)⟩
    · refine two ?_ ?_
      · rw [F_PF_set, e0, bind2_s, if_pos rfl, if_neg e1, if_neg e2, if_neg e3, if_neg e4]
      · have e4 : ¬ (-1000000000 : Int64).toInt ≤ x2.toInt := fun z => e4 (lgc_ge.mpr z)
        omega
  · refine one ?_ ?_
    · rw [F_PF_set, F_PF_demandIndex, if_neg c, if_neg d]
      rfl
    · have d : ¬ x1.toInt < 8 := fun z => d (Int32.lt_iff_toInt_lt.mpr (by omega))
      omega
set_option maxHeartbeats 1000000 in
theorem t_Law_run (o0 : Ob) (o1 : Ob) (o2 : Ob) (o3 : Ob) (o4 : Ob) (o5 : Ob) (g0 : okPF o0) (g1 : okReckoner o2) (g2 : okText o3) (g3 : okSteps o4) (g4 : OC o3) : ∃ (r : Int32) (n0 : Ob) (n1 : Ob) (n2 : Ob) (n5 : Ob), F_Law_run o0 o1 o2 o3 o4 o5 = some (r, n0, n1, n2, n5) ∧ (okPF n0) ∧ (okReckoner n2) ∧ (KO o2 n2) := by
  obtain ⟨f4382, f4383⟩ := id g0
  obtain ⟨f4384, f4385⟩ := id g1
  obtain ⟨f4386, f4387, f4388, f4389, f4390, f4391, f4392, f4393, f4394⟩ := id g2
  obtain ⟨f4395, f4396, f4397, f4398, f4399, f4400⟩ := id g3
  rw [F_Law_run]
  obtain ⟨k_6, v2, o_3, o_4, o_5, e4405, p4401, p4402, p4403, p4404⟩ := t_PF_run o0 o1 o2 o3 o4 (ok2_) (ok2_) (ok9_) (ok6_) (oc_)
  rw [e4405, bind5_s]
  obtain ⟨f4406, f4407⟩ := id p4401
  obtain ⟨f4408, f4409⟩ := id p4402
  by_cases c4410 : k_6 = 0
  · rw [if_pos c4410]
    (try simp (disch := (first | omega | (simp only [Int32.reduceToInt]; omega) | (simp (disch := first | omega | (simp only [Int32.reduceToInt]; omega)) only [tadd, tsub, mul6, neg1, Int32.reduceToInt]; omega))) only [neg1, mul6, g_s, g_l, tadd, tsub, inb_iff, Int32.lt_iff_toInt_lt, Int32.le_iff_toInt_le, i32_eq, b2i_0, Int32.reduceToInt, reduceIte, Nat.reduceEqDiff] at c4410)
    rw [show (inb (0 : Int32) 1) = true from inb_iff.mpr ⟨tu_, tu_⟩, chk_tr]
    refine ⟨_, _, _, _, _, rfl, ok2_, ok2_, ko_⟩
  · rw [if_neg c4410]
    (try simp (disch := (first | omega | (simp only [Int32.reduceToInt]; omega) | (simp (disch := first | omega | (simp only [Int32.reduceToInt]; omega)) only [tadd, tsub, mul6, neg1, Int32.reduceToInt]; omega))) only [neg1, mul6, g_s, g_l, tadd, tsub, inb_iff, Int32.lt_iff_toInt_lt, Int32.le_iff_toInt_le, i32_eq, b2i_0, Int32.reduceToInt, reduceIte, Nat.reduceEqDiff] at c4410)
    by_cases c4411 : k_6 = 1
    · rw [if_pos c4411]
      (try simp (disch := (first | omega | (simp only [Int32.reduceToInt]; omega) | (simp (disch := first | omega | (simp only [Int32.reduceToInt]; omega)) only [tadd, tsub, mul6, neg1, Int32.reduceToInt]; omega))) only [neg1, mul6, g_s, g_l, tadd, tsub, inb_iff, Int32.lt_iff_toInt_lt, Int32.le_iff_toInt_le, i32_eq, b2i_0, Int32.reduceToInt, reduceIte, Nat.reduceEqDiff] at c4411)
      refine ⟨_, _, _, _, _, rfl, ok2_, ok2_, ko_⟩
    · rw [if_neg c4411]
      (try simp (disch := (first | omega | (simp only [Int32.reduceToInt]; omega) | (simp (disch := first | omega | (simp only [Int32.reduceToInt]; omega)) only [tadd, tsub, mul6, neg1, Int32.reduceToInt]; omega))) only [neg1, mul6, g_s, g_l, tadd, tsub, inb_iff, Int32.lt_iff_toInt_lt, Int32.le_iff_toInt_le, i32_eq, b2i_0, Int32.reduceToInt, reduceIte, Nat.reduceEqDiff] at c4411)
      exfalso
      exact tu_
set_option maxHeartbeats 1000000 in
theorem t_Law_state (x1 : Int32) (x2 : Int32) (o0 : Ob) (o1 : Ob) (o2 : Ob) (g0 : okPF o0) : ∃ (r : Int32) (n2 : Ob), F_Law_state x1 x2 o0 o1 o2 = some (r, n2) ∧ (True) := by
  obtain ⟨f4412, f4413⟩ := id g0
  rw [F_Law_state]
  obtain ⟨k_3, v2, e4415, p4414⟩ := t_PF_state x1 x2 o0 o1 (ok2_)
  rw [e4415, bind2_s]
  by_cases c4416 : k_3 = 0
  · rw [if_pos c4416]
    (try simp (disch := (first | omega | (simp only [Int32.reduceToInt]; omega) | (simp (disch := first | omega | (simp only [Int32.reduceToInt]; omega)) only [tadd, tsub, mul6, neg1, Int32.reduceToInt]; omega))) only [neg1, mul6, g_s, g_l, tadd, tsub, inb_iff, Int32.lt_iff_toInt_lt, Int32.le_iff_toInt_le, i32_eq, b2i_0, Int32.reduceToInt, reduceIte, Nat.reduceEqDiff] at c4416)
    rw [show (inb (0 : Int32) 1) = true from inb_iff.mpr ⟨tu_, tu_⟩, chk_tr]
    refine ⟨_, _, rfl, tu_⟩
  · rw [if_neg c4416]
    (try simp (disch := (first | omega | (simp only [Int32.reduceToInt]; omega) | (simp (disch := first | omega | (simp only [Int32.reduceToInt]; omega)) only [tadd, tsub, mul6, neg1, Int32.reduceToInt]; omega))) only [neg1, mul6, g_s, g_l, tadd, tsub, inb_iff, Int32.lt_iff_toInt_lt, Int32.le_iff_toInt_le, i32_eq, b2i_0, Int32.reduceToInt, reduceIte, Nat.reduceEqDiff] at c4416)
    by_cases c4417 : k_3 = 1
    · rw [if_pos c4417]
      (try simp (disch := (first | omega | (simp only [Int32.reduceToInt]; omega) | (simp (disch := first | omega | (simp only [Int32.reduceToInt]; omega)) only [tadd, tsub, mul6, neg1, Int32.reduceToInt]; omega))) only [neg1, mul6, g_s, g_l, tadd, tsub, inb_iff, Int32.lt_iff_toInt_lt, Int32.le_iff_toInt_le, i32_eq, b2i_0, Int32.reduceToInt, reduceIte, Nat.reduceEqDiff] at c4417)
      refine ⟨_, _, rfl, tu_⟩
    · rw [if_neg c4417]
      (try simp (disch := (first | omega | (simp only [Int32.reduceToInt]; omega) | (simp (disch := first | omega | (simp only [Int32.reduceToInt]; omega)) only [tadd, tsub, mul6, neg1, Int32.reduceToInt]; omega))) only [neg1, mul6, g_s, g_l, tadd, tsub, inb_iff, Int32.lt_iff_toInt_lt, Int32.le_iff_toInt_le, i32_eq, b2i_0, Int32.reduceToInt, reduceIte, Nat.reduceEqDiff] at c4417)
      by_cases c4418 : k_3 = 3
      · rw [if_pos c4418]
        (try simp (disch := (first | omega | (simp only [Int32.reduceToInt]; omega) | (simp (disch := first | omega | (simp only [Int32.reduceToInt]; omega)) only [tadd, tsub, mul6, neg1, Int32.reduceToInt]; omega))) only [neg1, mul6, g_s, g_l, tadd, tsub, inb_iff, Int32.lt_iff_toInt_lt, Int32.le_iff_toInt_le, i32_eq, b2i_0, Int32.reduceToInt, reduceIte, Nat.reduceEqDiff] at c4418)
        refine ⟨_, _, rfl, tu_⟩
      · rw [if_neg c4418]
        (try simp (disch := (first | omega | (simp only [Int32.reduceToInt]; omega) | (simp (disch := first | omega | (simp only [Int32.reduceToInt]; omega)) only [tadd, tsub, mul6, neg1, Int32.reduceToInt]; omega))) only [neg1, mul6, g_s, g_l, tadd, tsub, inb_iff, Int32.lt_iff_toInt_lt, Int32.le_iff_toInt_le, i32_eq, b2i_0, Int32.reduceToInt, reduceIte, Nat.reduceEqDiff] at c4418)
        exfalso
        exact tu_
set_option maxHeartbeats 1000000 in
theorem t_Law_size (x1 : Int32) (x2 : Int32) (x3 : Int32) (o0 : Ob) (o1 : Ob) (o2 : Ob) (g0 : okPF o0) : ∃ (r : Int32) (n2 : Ob), F_Law_size x1 x2 x3 o0 o1 o2 = some (r, n2) ∧ (True) := by
  obtain ⟨f4419, f4420⟩ := id g0
  rw [F_Law_size]
  obtain ⟨k_3, v2, e4422, p4421⟩ := t_PF_size x1 x2 x3 o0 o1 (ok2_)
  rw [e4422, bind2_s]
  by_cases c4423 : k_3 = 0
  · rw [if_pos c4423]
    (try simp (disch := (first | omega | (simp only [Int32.reduceToInt]; omega) | (simp (disch := first | omega | (simp only [Int32.reduceToInt]; omega)) only [tadd, tsub, mul6, neg1, Int32.reduceToInt]; omega))) only [neg1, mul6, g_s, g_l, tadd, tsub, inb_iff, Int32.lt_iff_toInt_lt, Int32.le_iff_toInt_le, i32_eq, b2i_0, Int32.reduceToInt, reduceIte, Nat.reduceEqDiff] at c4423)
    rw [show (inb (0 : Int32) 1) = true from inb_iff.mpr ⟨tu_, tu_⟩, chk_tr]
    refine ⟨_, _, rfl, tu_⟩
  · rw [if_neg c4423]
    (try simp (disch := (first | omega | (simp only [Int32.reduceToInt]; omega) | (simp (disch := first | omega | (simp only [Int32.reduceToInt]; omega)) only [tadd, tsub, mul6, neg1, Int32.reduceToInt]; omega))) only [neg1, mul6, g_s, g_l, tadd, tsub, inb_iff, Int32.lt_iff_toInt_lt, Int32.le_iff_toInt_le, i32_eq, b2i_0, Int32.reduceToInt, reduceIte, Nat.reduceEqDiff] at c4423)
    by_cases c4424 : k_3 = 3
    · rw [if_pos c4424]
      (try simp (disch := (first | omega | (simp only [Int32.reduceToInt]; omega) | (simp (disch := first | omega | (simp only [Int32.reduceToInt]; omega)) only [tadd, tsub, mul6, neg1, Int32.reduceToInt]; omega))) only [neg1, mul6, g_s, g_l, tadd, tsub, inb_iff, Int32.lt_iff_toInt_lt, Int32.le_iff_toInt_le, i32_eq, b2i_0, Int32.reduceToInt, reduceIte, Nat.reduceEqDiff] at c4424)
      refine ⟨_, _, rfl, tu_⟩
    · rw [if_neg c4424]
      (try simp (disch := (first | omega | (simp only [Int32.reduceToInt]; omega) | (simp (disch := first | omega | (simp only [Int32.reduceToInt]; omega)) only [tadd, tsub, mul6, neg1, Int32.reduceToInt]; omega))) only [neg1, mul6, g_s, g_l, tadd, tsub, inb_iff, Int32.lt_iff_toInt_lt, Int32.le_iff_toInt_le, i32_eq, b2i_0, Int32.reduceToInt, reduceIte, Nat.reduceEqDiff] at c4424)
      by_cases c4425 : k_3 = 2
      · rw [if_pos c4425]
        (try simp (disch := (first | omega | (simp only [Int32.reduceToInt]; omega) | (simp (disch := first | omega | (simp only [Int32.reduceToInt]; omega)) only [tadd, tsub, mul6, neg1, Int32.reduceToInt]; omega))) only [neg1, mul6, g_s, g_l, tadd, tsub, inb_iff, Int32.lt_iff_toInt_lt, Int32.le_iff_toInt_le, i32_eq, b2i_0, Int32.reduceToInt, reduceIte, Nat.reduceEqDiff] at c4425)
        refine ⟨_, _, rfl, tu_⟩
      · rw [if_neg c4425]
        (try simp (disch := (first | omega | (simp only [Int32.reduceToInt]; omega) | (simp (disch := first | omega | (simp only [Int32.reduceToInt]; omega)) only [tadd, tsub, mul6, neg1, Int32.reduceToInt]; omega))) only [neg1, mul6, g_s, g_l, tadd, tsub, inb_iff, Int32.lt_iff_toInt_lt, Int32.le_iff_toInt_le, i32_eq, b2i_0, Int32.reduceToInt, reduceIte, Nat.reduceEqDiff] at c4425)
        by_cases c4426 : k_3 = 1
        · rw [if_pos c4426]
          (try simp (disch := (first | omega | (simp only [Int32.reduceToInt]; omega) | (simp (disch := first | omega | (simp only [Int32.reduceToInt]; omega)) only [tadd, tsub, mul6, neg1, Int32.reduceToInt]; omega))) only [neg1, mul6, g_s, g_l, tadd, tsub, inb_iff, Int32.lt_iff_toInt_lt, Int32.le_iff_toInt_le, i32_eq, b2i_0, Int32.reduceToInt, reduceIte, Nat.reduceEqDiff] at c4426)
          refine ⟨_, _, rfl, tu_⟩
        · rw [if_neg c4426]
          (try simp (disch := (first | omega | (simp only [Int32.reduceToInt]; omega) | (simp (disch := first | omega | (simp only [Int32.reduceToInt]; omega)) only [tadd, tsub, mul6, neg1, Int32.reduceToInt]; omega))) only [neg1, mul6, g_s, g_l, tadd, tsub, inb_iff, Int32.lt_iff_toInt_lt, Int32.le_iff_toInt_le, i32_eq, b2i_0, Int32.reduceToInt, reduceIte, Nat.reduceEqDiff] at c4426)
          exfalso
          exact tu_
set_option maxHeartbeats 1000000 in
theorem t_Law_ring (x1 : Int32) (o0 : Ob) (o1 : Ob) (o2 : Ob) (g0 : okPF o0) (g1 : okText o1) : ∃ (r : Int32) (n2 : Ob), F_Law_ring x1 o0 o1 o2 = some (r, n2) ∧ (True) := by
  obtain ⟨f4427, f4428⟩ := id g0
  obtain ⟨f4429, f4430, f4431, f4432, f4433, f4434, f4435, f4436, f4437⟩ := id g1
  rw [F_Law_ring]
  obtain ⟨k_3, v2, e4439, p4438⟩ := t_PF_ring x1 o0 o1 (ok2_) (ok9_)
  rw [e4439, bind2_s]
  by_cases c4440 : k_3 = 0
  · rw [if_pos c4440]
    (try simp (disch := (first | omega | (simp only [Int32.reduceToInt]; omega) | (simp (disch := first | omega | (simp only [Int32.reduceToInt]; omega)) only [tadd, tsub, mul6, neg1, Int32.reduceToInt]; omega))) only [neg1, mul6, g_s, g_l, tadd, tsub, inb_iff, Int32.lt_iff_toInt_lt, Int32.le_iff_toInt_le, i32_eq, b2i_0, Int32.reduceToInt, reduceIte, Nat.reduceEqDiff] at c4440)
    rw [show (inb (0 : Int32) 1) = true from inb_iff.mpr ⟨tu_, tu_⟩, chk_tr]
    refine ⟨_, _, rfl, tu_⟩
  · rw [if_neg c4440]
    (try simp (disch := (first | omega | (simp only [Int32.reduceToInt]; omega) | (simp (disch := first | omega | (simp only [Int32.reduceToInt]; omega)) only [tadd, tsub, mul6, neg1, Int32.reduceToInt]; omega))) only [neg1, mul6, g_s, g_l, tadd, tsub, inb_iff, Int32.lt_iff_toInt_lt, Int32.le_iff_toInt_le, i32_eq, b2i_0, Int32.reduceToInt, reduceIte, Nat.reduceEqDiff] at c4440)
    by_cases c4441 : k_3 = 1
    · rw [if_pos c4441]
      (try simp (disch := (first | omega | (simp only [Int32.reduceToInt]; omega) | (simp (disch := first | omega | (simp only [Int32.reduceToInt]; omega)) only [tadd, tsub, mul6, neg1, Int32.reduceToInt]; omega))) only [neg1, mul6, g_s, g_l, tadd, tsub, inb_iff, Int32.lt_iff_toInt_lt, Int32.le_iff_toInt_le, i32_eq, b2i_0, Int32.reduceToInt, reduceIte, Nat.reduceEqDiff] at c4441)
      refine ⟨_, _, rfl, tu_⟩
    · rw [if_neg c4441]
      (try simp (disch := (first | omega | (simp only [Int32.reduceToInt]; omega) | (simp (disch := first | omega | (simp only [Int32.reduceToInt]; omega)) only [tadd, tsub, mul6, neg1, Int32.reduceToInt]; omega))) only [neg1, mul6, g_s, g_l, tadd, tsub, inb_iff, Int32.lt_iff_toInt_lt, Int32.le_iff_toInt_le, i32_eq, b2i_0, Int32.reduceToInt, reduceIte, Nat.reduceEqDiff] at c4441)
      by_cases c4442 : k_3 = 2
      · rw [if_pos c4442]
        (try simp (disch := (first | omega | (simp only [Int32.reduceToInt]; omega) | (simp (disch := first | omega | (simp only [Int32.reduceToInt]; omega)) only [tadd, tsub, mul6, neg1, Int32.reduceToInt]; omega))) only [neg1, mul6, g_s, g_l, tadd, tsub, inb_iff, Int32.lt_iff_toInt_lt, Int32.le_iff_toInt_le, i32_eq, b2i_0, Int32.reduceToInt, reduceIte, Nat.reduceEqDiff] at c4442)
        refine ⟨_, _, rfl, tu_⟩
      · rw [if_neg c4442]
        (try simp (disch := (first | omega | (simp only [Int32.reduceToInt]; omega) | (simp (disch := first | omega | (simp only [Int32.reduceToInt]; omega)) only [tadd, tsub, mul6, neg1, Int32.reduceToInt]; omega))) only [neg1, mul6, g_s, g_l, tadd, tsub, inb_iff, Int32.lt_iff_toInt_lt, Int32.le_iff_toInt_le, i32_eq, b2i_0, Int32.reduceToInt, reduceIte, Nat.reduceEqDiff] at c4442)
        exfalso
        exact tu_
set_option maxHeartbeats 1000000 in
theorem t_Law_condition (x1 : Int32) (x2 : Int32) (o0 : Ob) (o1 : Ob) (o2 : Ob) (g0 : okPF o0) : ∃ (r : Int32) (n2 : Ob), F_Law_condition x1 x2 o0 o1 o2 = some (r, n2) ∧ (True) := by
  obtain ⟨f4443, f4444⟩ := id g0
  rw [F_Law_condition]
  obtain ⟨k_3, v2, e4446, p4445⟩ := t_PF_condition x1 x2 o0 o1 (ok2_)
  rw [e4446, bind2_s]
  by_cases c4447 : k_3 = 0
  · rw [if_pos c4447]
    (try simp (disch := (first | omega | (simp only [Int32.reduceToInt]; omega) | (simp (disch := first | omega | (simp only [Int32.reduceToInt]; omega)) only [tadd, tsub, mul6, neg1, Int32.reduceToInt]; omega))) only [neg1, mul6, g_s, g_l, tadd, tsub, inb_iff, Int32.lt_iff_toInt_lt, Int32.le_iff_toInt_le, i32_eq, b2i_0, Int32.reduceToInt, reduceIte, Nat.reduceEqDiff] at c4447)
    rw [show (inb (0 : Int32) 1) = true from inb_iff.mpr ⟨tu_, tu_⟩, chk_tr]
    refine ⟨_, _, rfl, tu_⟩
  · rw [if_neg c4447]
    (try simp (disch := (first | omega | (simp only [Int32.reduceToInt]; omega) | (simp (disch := first | omega | (simp only [Int32.reduceToInt]; omega)) only [tadd, tsub, mul6, neg1, Int32.reduceToInt]; omega))) only [neg1, mul6, g_s, g_l, tadd, tsub, inb_iff, Int32.lt_iff_toInt_lt, Int32.le_iff_toInt_le, i32_eq, b2i_0, Int32.reduceToInt, reduceIte, Nat.reduceEqDiff] at c4447)
    by_cases c4448 : k_3 = 1
    · rw [if_pos c4448]
      (try simp (disch := (first | omega | (simp only [Int32.reduceToInt]; omega) | (simp (disch := first | omega | (simp only [Int32.reduceToInt]; omega)) only [tadd, tsub, mul6, neg1, Int32.reduceToInt]; omega))) only [neg1, mul6, g_s, g_l, tadd, tsub, inb_iff, Int32.lt_iff_toInt_lt, Int32.le_iff_toInt_le, i32_eq, b2i_0, Int32.reduceToInt, reduceIte, Nat.reduceEqDiff] at c4448)
      refine ⟨_, _, rfl, tu_⟩
    · rw [if_neg c4448]
      (try simp (disch := (first | omega | (simp only [Int32.reduceToInt]; omega) | (simp (disch := first | omega | (simp only [Int32.reduceToInt]; omega)) only [tadd, tsub, mul6, neg1, Int32.reduceToInt]; omega))) only [neg1, mul6, g_s, g_l, tadd, tsub, inb_iff, Int32.lt_iff_toInt_lt, Int32.le_iff_toInt_le, i32_eq, b2i_0, Int32.reduceToInt, reduceIte, Nat.reduceEqDiff] at c4448)
      by_cases c4449 : k_3 = 3
      · rw [if_pos c4449]
        (try simp (disch := (first | omega | (simp only [Int32.reduceToInt]; omega) | (simp (disch := first | omega | (simp only [Int32.reduceToInt]; omega)) only [tadd, tsub, mul6, neg1, Int32.reduceToInt]; omega))) only [neg1, mul6, g_s, g_l, tadd, tsub, inb_iff, Int32.lt_iff_toInt_lt, Int32.le_iff_toInt_le, i32_eq, b2i_0, Int32.reduceToInt, reduceIte, Nat.reduceEqDiff] at c4449)
        refine ⟨_, _, rfl, tu_⟩
      · rw [if_neg c4449]
        (try simp (disch := (first | omega | (simp only [Int32.reduceToInt]; omega) | (simp (disch := first | omega | (simp only [Int32.reduceToInt]; omega)) only [tadd, tsub, mul6, neg1, Int32.reduceToInt]; omega))) only [neg1, mul6, g_s, g_l, tadd, tsub, inb_iff, Int32.lt_iff_toInt_lt, Int32.le_iff_toInt_le, i32_eq, b2i_0, Int32.reduceToInt, reduceIte, Nat.reduceEqDiff] at c4449)
        exfalso
        exact tu_
set_option maxHeartbeats 1000000 in
theorem t_Law_line (x1 : Int32) (x2 : Int32) (o0 : Ob) (o1 : Ob) (o2 : Ob) (g0 : okPF o0) (g1 : okText o1) : ∃ (r : Int32) (n2 : Ob), F_Law_line x1 x2 o0 o1 o2 = some (r, n2) ∧ (True) := by
  obtain ⟨f4450, f4451⟩ := id g0
  obtain ⟨f4452, f4453, f4454, f4455, f4456, f4457, f4458, f4459, f4460⟩ := id g1
  rw [F_Law_line]
  obtain ⟨k_3, v2, e4462, p4461⟩ := t_PF_line x1 x2 o0 o1 (ok2_) (ok9_)
  rw [e4462, bind2_s]
  by_cases c4463 : k_3 = 0
  · rw [if_pos c4463]
    (try simp (disch := (first | omega | (simp only [Int32.reduceToInt]; omega) | (simp (disch := first | omega | (simp only [Int32.reduceToInt]; omega)) only [tadd, tsub, mul6, neg1, Int32.reduceToInt]; omega))) only [neg1, mul6, g_s, g_l, tadd, tsub, inb_iff, Int32.lt_iff_toInt_lt, Int32.le_iff_toInt_le, i32_eq, b2i_0, Int32.reduceToInt, reduceIte, Nat.reduceEqDiff] at c4463)
    rw [show (inb (0 : Int32) 1) = true from inb_iff.mpr ⟨tu_, tu_⟩, chk_tr]
    refine ⟨_, _, rfl, tu_⟩
  · rw [if_neg c4463]
    (try simp (disch := (first | omega | (simp only [Int32.reduceToInt]; omega) | (simp (disch := first | omega | (simp only [Int32.reduceToInt]; omega)) only [tadd, tsub, mul6, neg1, Int32.reduceToInt]; omega))) only [neg1, mul6, g_s, g_l, tadd, tsub, inb_iff, Int32.lt_iff_toInt_lt, Int32.le_iff_toInt_le, i32_eq, b2i_0, Int32.reduceToInt, reduceIte, Nat.reduceEqDiff] at c4463)
    by_cases c4464 : k_3 = 1
    · rw [if_pos c4464]
      (try simp (disch := (first | omega | (simp only [Int32.reduceToInt]; omega) | (simp (disch := first | omega | (simp only [Int32.reduceToInt]; omega)) only [tadd, tsub, mul6, neg1, Int32.reduceToInt]; omega))) only [neg1, mul6, g_s, g_l, tadd, tsub, inb_iff, Int32.lt_iff_toInt_lt, Int32.le_iff_toInt_le, i32_eq, b2i_0, Int32.reduceToInt, reduceIte, Nat.reduceEqDiff] at c4464)
      refine ⟨_, _, rfl, tu_⟩
    · rw [if_neg c4464]
      (try simp (disch := (first | omega | (simp only [Int32.reduceToInt]; omega) | (simp (disch := first | omega | (simp only [Int32.reduceToInt]; omega)) only [tadd, tsub, mul6, neg1, Int32.reduceToInt]; omega))) only [neg1, mul6, g_s, g_l, tadd, tsub, inb_iff, Int32.lt_iff_toInt_lt, Int32.le_iff_toInt_le, i32_eq, b2i_0, Int32.reduceToInt, reduceIte, Nat.reduceEqDiff] at c4464)
      by_cases c4465 : k_3 = 3
      · rw [if_pos c4465]
        (try simp (disch := (first | omega | (simp only [Int32.reduceToInt]; omega) | (simp (disch := first | omega | (simp only [Int32.reduceToInt]; omega)) only [tadd, tsub, mul6, neg1, Int32.reduceToInt]; omega))) only [neg1, mul6, g_s, g_l, tadd, tsub, inb_iff, Int32.lt_iff_toInt_lt, Int32.le_iff_toInt_le, i32_eq, b2i_0, Int32.reduceToInt, reduceIte, Nat.reduceEqDiff] at c4465)
        refine ⟨_, _, rfl, tu_⟩
      · rw [if_neg c4465]
        (try simp (disch := (first | omega | (simp only [Int32.reduceToInt]; omega) | (simp (disch := first | omega | (simp only [Int32.reduceToInt]; omega)) only [tadd, tsub, mul6, neg1, Int32.reduceToInt]; omega))) only [neg1, mul6, g_s, g_l, tadd, tsub, inb_iff, Int32.lt_iff_toInt_lt, Int32.le_iff_toInt_le, i32_eq, b2i_0, Int32.reduceToInt, reduceIte, Nat.reduceEqDiff] at c4465)
        exfalso
        exact tu_
set_option maxHeartbeats 1000000 in
theorem t_Law_needs (x1 : Int32) (x2 : Int32) (o0 : Ob) (o1 : Ob) (o2 : Ob) (g0 : okPF o0) (g1 : okText o1) : ∃ (r : Int32) (n2 : Ob), F_Law_needs x1 x2 o0 o1 o2 = some (r, n2) ∧ (True) := by
  obtain ⟨f4466, f4467⟩ := id g0
  obtain ⟨f4468, f4469, f4470, f4471, f4472, f4473, f4474, f4475, f4476⟩ := id g1
  rw [F_Law_needs]
  obtain ⟨k_3, v2, e4478, p4477⟩ := t_PF_needs x1 x2 o0 o1 (ok2_) (ok9_)
  rw [e4478, bind2_s]
  by_cases c4479 : k_3 = 0
  · rw [if_pos c4479]
    (try simp (disch := (first | omega | (simp only [Int32.reduceToInt]; omega) | (simp (disch := first | omega | (simp only [Int32.reduceToInt]; omega)) only [tadd, tsub, mul6, neg1, Int32.reduceToInt]; omega))) only [neg1, mul6, g_s, g_l, tadd, tsub, inb_iff, Int32.lt_iff_toInt_lt, Int32.le_iff_toInt_le, i32_eq, b2i_0, Int32.reduceToInt, reduceIte, Nat.reduceEqDiff] at c4479)
    by_cases c4480 : (b2i v2) = 0
    · rw [if_pos c4480]
      have c4480 := b2i_0.mp c4480
      subst c4480
      rw [show (inb (0 : Int32) 1) = true from inb_iff.mpr ⟨tu_, tu_⟩, chk_tr]
      refine ⟨_, _, rfl, tu_⟩
    · rw [if_neg c4480]
      have c4480 := b2i_1 c4480
      subst c4480
      rw [show (inb (0 : Int32) 1) = true from inb_iff.mpr ⟨tu_, tu_⟩, chk_tr]
      refine ⟨_, _, rfl, tu_⟩
  · rw [if_neg c4479]
    (try simp (disch := (first | omega | (simp only [Int32.reduceToInt]; omega) | (simp (disch := first | omega | (simp only [Int32.reduceToInt]; omega)) only [tadd, tsub, mul6, neg1, Int32.reduceToInt]; omega))) only [neg1, mul6, g_s, g_l, tadd, tsub, inb_iff, Int32.lt_iff_toInt_lt, Int32.le_iff_toInt_le, i32_eq, b2i_0, Int32.reduceToInt, reduceIte, Nat.reduceEqDiff] at c4479)
    by_cases c4481 : k_3 = 1
    · rw [if_pos c4481]
      (try simp (disch := (first | omega | (simp only [Int32.reduceToInt]; omega) | (simp (disch := first | omega | (simp only [Int32.reduceToInt]; omega)) only [tadd, tsub, mul6, neg1, Int32.reduceToInt]; omega))) only [neg1, mul6, g_s, g_l, tadd, tsub, inb_iff, Int32.lt_iff_toInt_lt, Int32.le_iff_toInt_le, i32_eq, b2i_0, Int32.reduceToInt, reduceIte, Nat.reduceEqDiff] at c4481)
      refine ⟨_, _, rfl, tu_⟩
    · rw [if_neg c4481]
      (try simp (disch := (first | omega | (simp only [Int32.reduceToInt]; omega) | (simp (disch := first | omega | (simp only [Int32.reduceToInt]; omega)) only [tadd, tsub, mul6, neg1, Int32.reduceToInt]; omega))) only [neg1, mul6, g_s, g_l, tadd, tsub, inb_iff, Int32.lt_iff_toInt_lt, Int32.le_iff_toInt_le, i32_eq, b2i_0, Int32.reduceToInt, reduceIte, Nat.reduceEqDiff] at c4481)
      by_cases c4482 : k_3 = 3
      · rw [if_pos c4482]
        (try simp (disch := (first | omega | (simp only [Int32.reduceToInt]; omega) | (simp (disch := first | omega | (simp only [Int32.reduceToInt]; omega)) only [tadd, tsub, mul6, neg1, Int32.reduceToInt]; omega))) only [neg1, mul6, g_s, g_l, tadd, tsub, inb_iff, Int32.lt_iff_toInt_lt, Int32.le_iff_toInt_le, i32_eq, b2i_0, Int32.reduceToInt, reduceIte, Nat.reduceEqDiff] at c4482)
        refine ⟨_, _, rfl, tu_⟩
      · rw [if_neg c4482]
        (try simp (disch := (first | omega | (simp only [Int32.reduceToInt]; omega) | (simp (disch := first | omega | (simp only [Int32.reduceToInt]; omega)) only [tadd, tsub, mul6, neg1, Int32.reduceToInt]; omega))) only [neg1, mul6, g_s, g_l, tadd, tsub, inb_iff, Int32.lt_iff_toInt_lt, Int32.le_iff_toInt_le, i32_eq, b2i_0, Int32.reduceToInt, reduceIte, Nat.reduceEqDiff] at c4482)
        exfalso
        exact tu_
set_option maxHeartbeats 1000000 in
theorem t_Law_limit (x1 : Int32) (x2 : Int32) (o0 : Ob) (o1 : Ob) (o2 : Ob) (o3 : Ob) (o4 : Ob) (o5 : Ob) (g0 : okPF o0) (g1 : okReckoner o2) (g2 : okText o3) (g3 : okSteps o4) : ∃ (r : Int32) (n2 : Ob) (n5 : Ob), F_Law_limit x1 x2 o0 o1 o2 o3 o4 o5 = some (r, n2, n5) ∧ (okReckoner n2) ∧ (KO o2 n2) := by
  obtain ⟨f4483, f4484⟩ := id g0
  obtain ⟨f4485, f4486⟩ := id g1
  obtain ⟨f4487, f4488, f4489, f4490, f4491, f4492, f4493, f4494, f4495⟩ := id g2
  obtain ⟨f4496, f4497, f4498, f4499, f4500, f4501⟩ := id g3
  rw [F_Law_limit]
  obtain ⟨k_4, v2, o_3, e4505, p4502, p4503, p4504⟩ := t_PF_limit x1 x2 o0 o1 o2 o3 o4 (ok2_) (ok2_) (ok9_) (ok6_)
  rw [e4505, bind3_s]
  obtain ⟨f4506, f4507⟩ := id p4502
  by_cases c4508 : k_4 = 0
  · rw [if_pos c4508]
    (try simp (disch := (first | omega | (simp only [Int32.reduceToInt]; omega) | (simp (disch := first | omega | (simp only [Int32.reduceToInt]; omega)) only [tadd, tsub, mul6, neg1, Int32.reduceToInt]; omega))) only [neg1, mul6, g_s, g_l, tadd, tsub, inb_iff, Int32.lt_iff_toInt_lt, Int32.le_iff_toInt_le, i32_eq, b2i_0, Int32.reduceToInt, reduceIte, Nat.reduceEqDiff] at c4508)
    rw [show (inb (0 : Int32) 1) = true from inb_iff.mpr ⟨tu_, tu_⟩, chk_tr]
    refine ⟨_, _, _, rfl, ok2_, ko_⟩
  · rw [if_neg c4508]
    (try simp (disch := (first | omega | (simp only [Int32.reduceToInt]; omega) | (simp (disch := first | omega | (simp only [Int32.reduceToInt]; omega)) only [tadd, tsub, mul6, neg1, Int32.reduceToInt]; omega))) only [neg1, mul6, g_s, g_l, tadd, tsub, inb_iff, Int32.lt_iff_toInt_lt, Int32.le_iff_toInt_le, i32_eq, b2i_0, Int32.reduceToInt, reduceIte, Nat.reduceEqDiff] at c4508)
    by_cases c4509 : k_4 = 1
    · rw [if_pos c4509]
      (try simp (disch := (first | omega | (simp only [Int32.reduceToInt]; omega) | (simp (disch := first | omega | (simp only [Int32.reduceToInt]; omega)) only [tadd, tsub, mul6, neg1, Int32.reduceToInt]; omega))) only [neg1, mul6, g_s, g_l, tadd, tsub, inb_iff, Int32.lt_iff_toInt_lt, Int32.le_iff_toInt_le, i32_eq, b2i_0, Int32.reduceToInt, reduceIte, Nat.reduceEqDiff] at c4509)
      refine ⟨_, _, _, rfl, ok2_, ko_⟩
    · rw [if_neg c4509]
      (try simp (disch := (first | omega | (simp only [Int32.reduceToInt]; omega) | (simp (disch := first | omega | (simp only [Int32.reduceToInt]; omega)) only [tadd, tsub, mul6, neg1, Int32.reduceToInt]; omega))) only [neg1, mul6, g_s, g_l, tadd, tsub, inb_iff, Int32.lt_iff_toInt_lt, Int32.le_iff_toInt_le, i32_eq, b2i_0, Int32.reduceToInt, reduceIte, Nat.reduceEqDiff] at c4509)
      by_cases c4510 : k_4 = 2
      · rw [if_pos c4510]
        (try simp (disch := (first | omega | (simp only [Int32.reduceToInt]; omega) | (simp (disch := first | omega | (simp only [Int32.reduceToInt]; omega)) only [tadd, tsub, mul6, neg1, Int32.reduceToInt]; omega))) only [neg1, mul6, g_s, g_l, tadd, tsub, inb_iff, Int32.lt_iff_toInt_lt, Int32.le_iff_toInt_le, i32_eq, b2i_0, Int32.reduceToInt, reduceIte, Nat.reduceEqDiff] at c4510)
        refine ⟨_, _, _, rfl, ok2_, ko_⟩
      · rw [if_neg c4510]
        (try simp (disch := (first | omega | (simp only [Int32.reduceToInt]; omega) | (simp (disch := first | omega | (simp only [Int32.reduceToInt]; omega)) only [tadd, tsub, mul6, neg1, Int32.reduceToInt]; omega))) only [neg1, mul6, g_s, g_l, tadd, tsub, inb_iff, Int32.lt_iff_toInt_lt, Int32.le_iff_toInt_le, i32_eq, b2i_0, Int32.reduceToInt, reduceIte, Nat.reduceEqDiff] at c4510)
        exfalso
        exact tu_
set_option maxHeartbeats 1000000 in
theorem t_Law_check (x1 : Int32) (o0 : Ob) (o1 : Ob) (o2 : Ob) (o3 : Ob) (o4 : Ob) (o5 : Ob) (o6 : Ob) (g0 : okPF o0) (g1 : okReckoner o2) (g2 : okText o3) (g3 : okSteps o5) (g4 : OC o3) : ∃ (r : Int32) (n2 : Ob) (n4 : Ob) (n6 : Ob), F_Law_check x1 o0 o1 o2 o3 o4 o5 o6 = some (r, n2, n4, n6) ∧ (okReckoner n2) ∧ (KO o2 n2) := by
  obtain ⟨f4511, f4512⟩ := id g0
  obtain ⟨f4513, f4514⟩ := id g1
  obtain ⟨f4515, f4516, f4517, f4518, f4519, f4520, f4521, f4522, f4523⟩ := id g2
  obtain ⟨f4524, f4525, f4526, f4527, f4528, f4529⟩ := id g3
  rw [F_Law_check]
  obtain ⟨k_5, v2, o_3, o_4, e4533, p4530, p4531, p4532⟩ := t_PF_check x1 o0 o1 o2 o3 o4 o5 (ok2_) (ok2_) (ok9_) (ok6_) (oc_)
  rw [e4533, bind4_s]
  obtain ⟨f4534, f4535⟩ := id p4530
  by_cases c4536 : k_5 = 0
  · rw [if_pos c4536]
    (try simp (disch := (first | omega | (simp only [Int32.reduceToInt]; omega) | (simp (disch := first | omega | (simp only [Int32.reduceToInt]; omega)) only [tadd, tsub, mul6, neg1, Int32.reduceToInt]; omega))) only [neg1, mul6, g_s, g_l, tadd, tsub, inb_iff, Int32.lt_iff_toInt_lt, Int32.le_iff_toInt_le, i32_eq, b2i_0, Int32.reduceToInt, reduceIte, Nat.reduceEqDiff] at c4536)
    rw [show (inb (0 : Int32) 1) = true from inb_iff.mpr ⟨tu_, tu_⟩, chk_tr]
    refine ⟨_, _, _, _, rfl, ok2_, ko_⟩
  · rw [if_neg c4536]
    (try simp (disch := (first | omega | (simp only [Int32.reduceToInt]; omega) | (simp (disch := first | omega | (simp only [Int32.reduceToInt]; omega)) only [tadd, tsub, mul6, neg1, Int32.reduceToInt]; omega))) only [neg1, mul6, g_s, g_l, tadd, tsub, inb_iff, Int32.lt_iff_toInt_lt, Int32.le_iff_toInt_le, i32_eq, b2i_0, Int32.reduceToInt, reduceIte, Nat.reduceEqDiff] at c4536)
    by_cases c4537 : k_5 = 1
    · rw [if_pos c4537]
      (try simp (disch := (first | omega | (simp only [Int32.reduceToInt]; omega) | (simp (disch := first | omega | (simp only [Int32.reduceToInt]; omega)) only [tadd, tsub, mul6, neg1, Int32.reduceToInt]; omega))) only [neg1, mul6, g_s, g_l, tadd, tsub, inb_iff, Int32.lt_iff_toInt_lt, Int32.le_iff_toInt_le, i32_eq, b2i_0, Int32.reduceToInt, reduceIte, Nat.reduceEqDiff] at c4537)
      refine ⟨_, _, _, _, rfl, ok2_, ko_⟩
    · rw [if_neg c4537]
      (try simp (disch := (first | omega | (simp only [Int32.reduceToInt]; omega) | (simp (disch := first | omega | (simp only [Int32.reduceToInt]; omega)) only [tadd, tsub, mul6, neg1, Int32.reduceToInt]; omega))) only [neg1, mul6, g_s, g_l, tadd, tsub, inb_iff, Int32.lt_iff_toInt_lt, Int32.le_iff_toInt_le, i32_eq, b2i_0, Int32.reduceToInt, reduceIte, Nat.reduceEqDiff] at c4537)
      by_cases c4538 : k_5 = 2
      · rw [if_pos c4538]
        (try simp (disch := (first | omega | (simp only [Int32.reduceToInt]; omega) | (simp (disch := first | omega | (simp only [Int32.reduceToInt]; omega)) only [tadd, tsub, mul6, neg1, Int32.reduceToInt]; omega))) only [neg1, mul6, g_s, g_l, tadd, tsub, inb_iff, Int32.lt_iff_toInt_lt, Int32.le_iff_toInt_le, i32_eq, b2i_0, Int32.reduceToInt, reduceIte, Nat.reduceEqDiff] at c4538)
        refine ⟨_, _, _, _, rfl, ok2_, ko_⟩
      · rw [if_neg c4538]
        (try simp (disch := (first | omega | (simp only [Int32.reduceToInt]; omega) | (simp (disch := first | omega | (simp only [Int32.reduceToInt]; omega)) only [tadd, tsub, mul6, neg1, Int32.reduceToInt]; omega))) only [neg1, mul6, g_s, g_l, tadd, tsub, inb_iff, Int32.lt_iff_toInt_lt, Int32.le_iff_toInt_le, i32_eq, b2i_0, Int32.reduceToInt, reduceIte, Nat.reduceEqDiff] at c4538)
        exfalso
        exact tu_
set_option maxHeartbeats 1000000 in
theorem t_Law_version (o0 : Ob) (o1 : Ob) (o2 : Ob) (o3 : Ob) (g0 : okPF o0) : ∃ (r : Int32) (n0 : Ob) (n2 : Ob) (n3 : Ob), F_Law_version o0 o1 o2 o3 = some (r, n0, n2, n3) ∧ (okPF n0) := by
  obtain ⟨f4539, f4540⟩ := id g0
  rw [F_Law_version]
  obtain ⟨k_5, v2, o_3, o_4, e4543, p4541, p4542⟩ := t_PF_version o0 o1 o2 (ok2_)
  rw [e4543, bind4_s]
  obtain ⟨f4544, f4545⟩ := id p4541
  by_cases c4546 : k_5 = 0
  · rw [if_pos c4546]
    (try simp (disch := (first | omega | (simp only [Int32.reduceToInt]; omega) | (simp (disch := first | omega | (simp only [Int32.reduceToInt]; omega)) only [tadd, tsub, mul6, neg1, Int32.reduceToInt]; omega))) only [neg1, mul6, g_s, g_l, tadd, tsub, inb_iff, Int32.lt_iff_toInt_lt, Int32.le_iff_toInt_le, i32_eq, b2i_0, Int32.reduceToInt, reduceIte, Nat.reduceEqDiff] at c4546)
    rw [show (inb (0 : Int32) 1) = true from inb_iff.mpr ⟨tu_, tu_⟩, chk_tr]
    refine ⟨_, _, _, _, rfl, ok2_⟩
  · rw [if_neg c4546]
    (try simp (disch := (first | omega | (simp only [Int32.reduceToInt]; omega) | (simp (disch := first | omega | (simp only [Int32.reduceToInt]; omega)) only [tadd, tsub, mul6, neg1, Int32.reduceToInt]; omega))) only [neg1, mul6, g_s, g_l, tadd, tsub, inb_iff, Int32.lt_iff_toInt_lt, Int32.le_iff_toInt_le, i32_eq, b2i_0, Int32.reduceToInt, reduceIte, Nat.reduceEqDiff] at c4546)
    by_cases c4547 : k_5 = 1
    · rw [if_pos c4547]
      (try simp (disch := (first | omega | (simp only [Int32.reduceToInt]; omega) | (simp (disch := first | omega | (simp only [Int32.reduceToInt]; omega)) only [tadd, tsub, mul6, neg1, Int32.reduceToInt]; omega))) only [neg1, mul6, g_s, g_l, tadd, tsub, inb_iff, Int32.lt_iff_toInt_lt, Int32.le_iff_toInt_le, i32_eq, b2i_0, Int32.reduceToInt, reduceIte, Nat.reduceEqDiff] at c4547)
      refine ⟨_, _, _, _, rfl, ok2_⟩
    · rw [if_neg c4547]
      (try simp (disch := (first | omega | (simp only [Int32.reduceToInt]; omega) | (simp (disch := first | omega | (simp only [Int32.reduceToInt]; omega)) only [tadd, tsub, mul6, neg1, Int32.reduceToInt]; omega))) only [neg1, mul6, g_s, g_l, tadd, tsub, inb_iff, Int32.lt_iff_toInt_lt, Int32.le_iff_toInt_le, i32_eq, b2i_0, Int32.reduceToInt, reduceIte, Nat.reduceEqDiff] at c4547)
      exfalso
      exact tu_
set_option maxHeartbeats 1000000 in
theorem t_Law_differs (x1 : Int32) (x2 : Int32) (o0 : Ob) (o1 : Ob) (o2 : Ob) (o3 : Ob) (g0 : okPF o0) : ∃ (r : Int32) (n3 : Ob), F_Law_differs x1 x2 o0 o1 o2 o3 = some (r, n3) ∧ (True) := by
  obtain ⟨f4548, f4549⟩ := id g0
  rw [F_Law_differs]
  obtain ⟨k_3, v2, e4551, p4550⟩ := t_PF_differs x1 x2 o0 o1 o2 (ok2_)
  rw [e4551, bind2_s]
  by_cases c4552 : k_3 = 0
  · rw [if_pos c4552]
    (try simp (disch := (first | omega | (simp only [Int32.reduceToInt]; omega) | (simp (disch := first | omega | (simp only [Int32.reduceToInt]; omega)) only [tadd, tsub, mul6, neg1, Int32.reduceToInt]; omega))) only [neg1, mul6, g_s, g_l, tadd, tsub, inb_iff, Int32.lt_iff_toInt_lt, Int32.le_iff_toInt_le, i32_eq, b2i_0, Int32.reduceToInt, reduceIte, Nat.reduceEqDiff] at c4552)
    rw [show (inb (0 : Int32) 1) = true from inb_iff.mpr ⟨tu_, tu_⟩, chk_tr]
    refine ⟨_, _, rfl, tu_⟩
  · rw [if_neg c4552]
    (try simp (disch := (first | omega | (simp only [Int32.reduceToInt]; omega) | (simp (disch := first | omega | (simp only [Int32.reduceToInt]; omega)) only [tadd, tsub, mul6, neg1, Int32.reduceToInt]; omega))) only [neg1, mul6, g_s, g_l, tadd, tsub, inb_iff, Int32.lt_iff_toInt_lt, Int32.le_iff_toInt_le, i32_eq, b2i_0, Int32.reduceToInt, reduceIte, Nat.reduceEqDiff] at c4552)
    by_cases c4553 : k_3 = 1
    · rw [if_pos c4553]
      (try simp (disch := (first | omega | (simp only [Int32.reduceToInt]; omega) | (simp (disch := first | omega | (simp only [Int32.reduceToInt]; omega)) only [tadd, tsub, mul6, neg1, Int32.reduceToInt]; omega))) only [neg1, mul6, g_s, g_l, tadd, tsub, inb_iff, Int32.lt_iff_toInt_lt, Int32.le_iff_toInt_le, i32_eq, b2i_0, Int32.reduceToInt, reduceIte, Nat.reduceEqDiff] at c4553)
      refine ⟨_, _, rfl, tu_⟩
    · rw [if_neg c4553]
      (try simp (disch := (first | omega | (simp only [Int32.reduceToInt]; omega) | (simp (disch := first | omega | (simp only [Int32.reduceToInt]; omega)) only [tadd, tsub, mul6, neg1, Int32.reduceToInt]; omega))) only [neg1, mul6, g_s, g_l, tadd, tsub, inb_iff, Int32.lt_iff_toInt_lt, Int32.le_iff_toInt_le, i32_eq, b2i_0, Int32.reduceToInt, reduceIte, Nat.reduceEqDiff] at c4553)
      by_cases c4554 : k_3 = 3
      · rw [if_pos c4554]
        (try simp (disch := (first | omega | (simp only [Int32.reduceToInt]; omega) | (simp (disch := first | omega | (simp only [Int32.reduceToInt]; omega)) only [tadd, tsub, mul6, neg1, Int32.reduceToInt]; omega))) only [neg1, mul6, g_s, g_l, tadd, tsub, inb_iff, Int32.lt_iff_toInt_lt, Int32.le_iff_toInt_le, i32_eq, b2i_0, Int32.reduceToInt, reduceIte, Nat.reduceEqDiff] at c4554)
        refine ⟨_, _, rfl, tu_⟩
      · rw [if_neg c4554]
        (try simp (disch := (first | omega | (simp only [Int32.reduceToInt]; omega) | (simp (disch := first | omega | (simp only [Int32.reduceToInt]; omega)) only [tadd, tsub, mul6, neg1, Int32.reduceToInt]; omega))) only [neg1, mul6, g_s, g_l, tadd, tsub, inb_iff, Int32.lt_iff_toInt_lt, Int32.le_iff_toInt_le, i32_eq, b2i_0, Int32.reduceToInt, reduceIte, Nat.reduceEqDiff] at c4554)
        by_cases c4555 : k_3 = 2
        · rw [if_pos c4555]
          (try simp (disch := (first | omega | (simp only [Int32.reduceToInt]; omega) | (simp (disch := first | omega | (simp only [Int32.reduceToInt]; omega)) only [tadd, tsub, mul6, neg1, Int32.reduceToInt]; omega))) only [neg1, mul6, g_s, g_l, tadd, tsub, inb_iff, Int32.lt_iff_toInt_lt, Int32.le_iff_toInt_le, i32_eq, b2i_0, Int32.reduceToInt, reduceIte, Nat.reduceEqDiff] at c4555)
          refine ⟨_, _, rfl, tu_⟩
        · rw [if_neg c4555]
          (try simp (disch := (first | omega | (simp only [Int32.reduceToInt]; omega) | (simp (disch := first | omega | (simp only [Int32.reduceToInt]; omega)) only [tadd, tsub, mul6, neg1, Int32.reduceToInt]; omega))) only [neg1, mul6, g_s, g_l, tadd, tsub, inb_iff, Int32.lt_iff_toInt_lt, Int32.le_iff_toInt_le, i32_eq, b2i_0, Int32.reduceToInt, reduceIte, Nat.reduceEqDiff] at c4555)
          exfalso
          exact tu_
set_option maxHeartbeats 1000000 in
theorem t_Law_same (o0 : Ob) (o1 : Ob) (o2 : Ob) (o3 : Ob) (o4 : Ob) (o5 : Ob) (o6 : Ob) (g0 : okPF o0) (g1 : okReckoner o2) (g2 : okText o3) (g3 : okSteps o5) (g4 : OC o3) : ∃ (r : Int32) (n2 : Ob) (n4 : Ob) (n6 : Ob), F_Law_same o0 o1 o2 o3 o4 o5 o6 = some (r, n2, n4, n6) ∧ (okReckoner n2) ∧ (KO o2 n2) := by
  obtain ⟨f4556, f4557⟩ := id g0
  obtain ⟨f4558, f4559⟩ := id g1
  obtain ⟨f4560, f4561, f4562, f4563, f4564, f4565, f4566, f4567, f4568⟩ := id g2
  obtain ⟨f4569, f4570, f4571, f4572, f4573, f4574⟩ := id g3
  rw [F_Law_same]
  obtain ⟨k_5, v2, o_3, o_4, e4578, p4575, p4576, p4577⟩ := t_PF_same o0 o1 o2 o3 o4 o5 (ok2_) (ok2_) (ok9_) (ok6_) (oc_)
  rw [e4578, bind4_s]
  obtain ⟨f4579, f4580⟩ := id p4575
  by_cases c4581 : k_5 = 0
  · rw [if_pos c4581]
    (try simp (disch := (first | omega | (simp only [Int32.reduceToInt]; omega) | (simp (disch := first | omega | (simp only [Int32.reduceToInt]; omega)) only [tadd, tsub, mul6, neg1, Int32.reduceToInt]; omega))) only [neg1, mul6, g_s, g_l, tadd, tsub, inb_iff, Int32.lt_iff_toInt_lt, Int32.le_iff_toInt_le, i32_eq, b2i_0, Int32.reduceToInt, reduceIte, Nat.reduceEqDiff] at c4581)
    by_cases c4582 : (b2i v2) = 0
    · rw [if_pos c4582]
      have c4582 := b2i_0.mp c4582
      subst c4582
      rw [show (inb (0 : Int32) 1) = true from inb_iff.mpr ⟨tu_, tu_⟩, chk_tr]
      refine ⟨_, _, _, _, rfl, ok2_, ko_⟩
    · rw [if_neg c4582]
      have c4582 := b2i_1 c4582
      subst c4582
      rw [show (inb (0 : Int32) 1) = true from inb_iff.mpr ⟨tu_, tu_⟩, chk_tr]
      refine ⟨_, _, _, _, rfl, ok2_, ko_⟩
  · rw [if_neg c4581]
    (try simp (disch := (first | omega | (simp only [Int32.reduceToInt]; omega) | (simp (disch := first | omega | (simp only [Int32.reduceToInt]; omega)) only [tadd, tsub, mul6, neg1, Int32.reduceToInt]; omega))) only [neg1, mul6, g_s, g_l, tadd, tsub, inb_iff, Int32.lt_iff_toInt_lt, Int32.le_iff_toInt_le, i32_eq, b2i_0, Int32.reduceToInt, reduceIte, Nat.reduceEqDiff] at c4581)
    by_cases c4583 : k_5 = 1
    · rw [if_pos c4583]
      (try simp (disch := (first | omega | (simp only [Int32.reduceToInt]; omega) | (simp (disch := first | omega | (simp only [Int32.reduceToInt]; omega)) only [tadd, tsub, mul6, neg1, Int32.reduceToInt]; omega))) only [neg1, mul6, g_s, g_l, tadd, tsub, inb_iff, Int32.lt_iff_toInt_lt, Int32.le_iff_toInt_le, i32_eq, b2i_0, Int32.reduceToInt, reduceIte, Nat.reduceEqDiff] at c4583)
      refine ⟨_, _, _, _, rfl, ok2_, ko_⟩
    · rw [if_neg c4583]
      (try simp (disch := (first | omega | (simp only [Int32.reduceToInt]; omega) | (simp (disch := first | omega | (simp only [Int32.reduceToInt]; omega)) only [tadd, tsub, mul6, neg1, Int32.reduceToInt]; omega))) only [neg1, mul6, g_s, g_l, tadd, tsub, inb_iff, Int32.lt_iff_toInt_lt, Int32.le_iff_toInt_le, i32_eq, b2i_0, Int32.reduceToInt, reduceIte, Nat.reduceEqDiff] at c4583)
      exfalso
      exact tu_
