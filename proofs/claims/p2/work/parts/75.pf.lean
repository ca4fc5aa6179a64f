set_option maxHeartbeats 1000000 in
theorem t_PF_demandRead (o0 : Ob) (g0 : okPF o0) : ∃ (kx : Nat) (u_ : Unit), F_PF_demandRead o0 = some (kx, u_) ∧ (kx = 0 ∨ kx = 1) := by
  obtain ⟨f3595, f3596⟩ := id g0
  rw [F_PF_demandRead]
  by_cases c3597 : (g32 o0 2 0) = 0
  · rw [if_pos c3597]
    (try simp (disch := (first | omega | (simp only [Int32.reduceToInt]; omega) | (simp (disch := first | omega | (simp only [Int32.reduceToInt]; omega)) only [tadd, tsub, mul6, neg1, Int32.reduceToInt]; omega))) only [neg1, mul6, g_s, g_l, tadd, tsub, inb_iff, Int32.lt_iff_toInt_lt, Int32.le_iff_toInt_le, i32_eq, b2i_0, Int32.reduceToInt, reduceIte, Nat.reduceEqDiff] at c3597)
    refine ⟨_, _, rfl, tu_⟩
  · rw [if_neg c3597]
    (try simp (disch := (first | omega | (simp only [Int32.reduceToInt]; omega) | (simp (disch := first | omega | (simp only [Int32.reduceToInt]; omega)) only [tadd, tsub, mul6, neg1, Int32.reduceToInt]; omega))) only [neg1, mul6, g_s, g_l, tadd, tsub, inb_iff, Int32.lt_iff_toInt_lt, Int32.le_iff_toInt_le, i32_eq, b2i_0, Int32.reduceToInt, reduceIte, Nat.reduceEqDiff] at c3597)
    have q3598 : ∃ (u_ : Unit), (some ()) = some u_ ∧ ((0 : Nat) = 0 ∨ (0 : Nat) = 1) := by
      refine ⟨_, rfl, tu_⟩
    obtain ⟨y3601, e3599, p3600⟩ := q3598
    exact ⟨0, y3601, by rw [e3599]; rfl, p3600⟩
set_option maxHeartbeats 1000000 in
theorem t_PF_demandWorkedOut (o0 : Ob) (g0 : okPF o0) : ∃ (kx : Nat) (u_ : Unit), F_PF_demandWorkedOut o0 = some (kx, u_) ∧ (kx = 0 ∨ kx = 1) := by
  obtain ⟨f3602, f3603⟩ := id g0
  rw [F_PF_demandWorkedOut]
  by_cases c3604 : (g32 o0 3 0) = 0
  · rw [if_pos c3604]
    (try simp (disch := (first | omega | (simp only [Int32.reduceToInt]; omega) | (simp (disch := first | omega | (simp only [Int32.reduceToInt]; omega)) only [tadd, tsub, mul6, neg1, Int32.reduceToInt]; omega))) only [neg1, mul6, g_s, g_l, tadd, tsub, inb_iff, Int32.lt_iff_toInt_lt, Int32.le_iff_toInt_le, i32_eq, b2i_0, Int32.reduceToInt, reduceIte, Nat.reduceEqDiff] at c3604)
    refine ⟨_, _, rfl, tu_⟩
  · rw [if_neg c3604]
    (try simp (disch := (first | omega | (simp only [Int32.reduceToInt]; omega) | (simp (disch := first | omega | (simp only [Int32.reduceToInt]; omega)) only [tadd, tsub, mul6, neg1, Int32.reduceToInt]; omega))) only [neg1, mul6, g_s, g_l, tadd, tsub, inb_iff, Int32.lt_iff_toInt_lt, Int32.le_iff_toInt_le, i32_eq, b2i_0, Int32.reduceToInt, reduceIte, Nat.reduceEqDiff] at c3604)
    have q3605 : ∃ (u_ : Unit), (some ()) = some u_ ∧ ((0 : Nat) = 0 ∨ (0 : Nat) = 1) := by
      refine ⟨_, rfl, tu_⟩
    obtain ⟨y3608, e3606, p3607⟩ := q3605
    exact ⟨0, y3608, by rw [e3606]; rfl, p3607⟩
set_option maxHeartbeats 1000000 in
theorem t_PF_demandNotNegative (x0 : Int32)  : ∃ (kx : Nat) (u_ : Unit), F_PF_demandNotNegative x0 = some (kx, u_) ∧ (kx = 0 ∧ 0 ≤ x0.toInt ∨ kx = 2) := by
  rw [F_PF_demandNotNegative]
  by_cases c3609 : 0 ≤ x0
  · rw [if_pos c3609]
    (try simp (disch := (first | omega | (simp only [Int32.reduceToInt]; omega) | (simp (disch := first | omega | (simp only [Int32.reduceToInt]; omega)) only [tadd, tsub, mul6, neg1, Int32.reduceToInt]; omega))) only [neg1, mul6, g_s, g_l, tadd, tsub, inb_iff, Int32.lt_iff_toInt_lt, Int32.le_iff_toInt_le, i32_eq, b2i_0, Int32.reduceToInt, reduceIte, Nat.reduceEqDiff] at c3609)
    have q3610 : ∃ (u_ : Unit), (some ()) = some u_ ∧ ((0 : Nat) = 0 ∧ 0 ≤ x0.toInt ∨ (0 : Nat) = 2) := by
      refine ⟨_, rfl, tu_⟩
    obtain ⟨y3613, e3611, p3612⟩ := q3610
    exact ⟨0, y3613, by rw [e3611]; rfl, p3612⟩
  · rw [if_neg c3609]
    (try simp (disch := (first | omega | (simp only [Int32.reduceToInt]; omega) | (simp (disch := first | omega | (simp only [Int32.reduceToInt]; omega)) only [tadd, tsub, mul6, neg1, Int32.reduceToInt]; omega))) only [neg1, mul6, g_s, g_l, tadd, tsub, inb_iff, Int32.lt_iff_toInt_lt, Int32.le_iff_toInt_le, i32_eq, b2i_0, Int32.reduceToInt, reduceIte, Nat.reduceEqDiff] at c3609)
    refine ⟨_, _, rfl, tu_⟩
set_option maxHeartbeats 1000000 in
theorem t_PF_demandIndex (x0 : Int32) (x1 : Int32)  : ∃ (kx : Nat) (u_ : Unit), F_PF_demandIndex x0 x1 = some (kx, u_) ∧ (kx = 0 ∧ 0 ≤ x0.toInt ∧ x0.toInt < x1.toInt ∨ kx = 3) := by
  rw [F_PF_demandIndex]
  by_cases c3614 : x0 < 0
  · rw [if_pos c3614]
    (try simp (disch := (first | omega | (simp only [Int32.reduceToInt]; omega) | (simp (disch := first | omega | (simp only [Int32.reduceToInt]; omega)) only [tadd, tsub, mul6, neg1, Int32.reduceToInt]; omega))) only [neg1, mul6, g_s, g_l, tadd, tsub, inb_iff, Int32.lt_iff_toInt_lt, Int32.le_iff_toInt_le, i32_eq, b2i_0, Int32.reduceToInt, reduceIte, Nat.reduceEqDiff] at c3614)
    refine ⟨_, _, rfl, tu_⟩
  · rw [if_neg c3614]
    (try simp (disch := (first | omega | (simp only [Int32.reduceToInt]; omega) | (simp (disch := first | omega | (simp only [Int32.reduceToInt]; omega)) only [tadd, tsub, mul6, neg1, Int32.reduceToInt]; omega))) only [neg1, mul6, g_s, g_l, tadd, tsub, inb_iff, Int32.lt_iff_toInt_lt, Int32.le_iff_toInt_le, i32_eq, b2i_0, Int32.reduceToInt, reduceIte, Nat.reduceEqDiff] at c3614)
    by_cases c3615 : x0 < x1
    · rw [if_pos c3615]
      (try simp (disch := (first | omega | (simp only [Int32.reduceToInt]; omega) | (simp (disch := first | omega | (simp only [Int32.reduceToInt]; omega)) only [tadd, tsub, mul6, neg1, Int32.reduceToInt]; omega))) only [neg1, mul6, g_s, g_l, tadd, tsub, inb_iff, Int32.lt_iff_toInt_lt, Int32.le_iff_toInt_le, i32_eq, b2i_0, Int32.reduceToInt, reduceIte, Nat.reduceEqDiff] at c3615)
      have q3616 : ∃ (u_ : Unit), (some ()) = some u_ ∧ ((0 : Nat) = 0 ∧ 0 ≤ x0.toInt ∧ x0.toInt < x1.toInt ∨ (0 : Nat) = 3) := by
        refine ⟨_, rfl, tu_⟩
      obtain ⟨y3619, e3617, p3618⟩ := q3616
      exact ⟨0, y3619, by rw [e3617]; rfl, p3618⟩
    · rw [if_neg c3615]
      (try simp (disch := (first | omega | (simp only [Int32.reduceToInt]; omega) | (simp (disch := first | omega | (simp only [Int32.reduceToInt]; omega)) only [tadd, tsub, mul6, neg1, Int32.reduceToInt]; omega))) only [neg1, mul6, g_s, g_l, tadd, tsub, inb_iff, Int32.lt_iff_toInt_lt, Int32.le_iff_toInt_le, i32_eq, b2i_0, Int32.reduceToInt, reduceIte, Nat.reduceEqDiff] at c3615)
      refine ⟨_, _, rfl, tu_⟩
set_option maxHeartbeats 1000000 in
theorem t_PF_demandZeroOrOne (x0 : Int32)  : ∃ (kx : Nat) (u_ : Unit), F_PF_demandZeroOrOne x0 = some (kx, u_) ∧ (kx = 0 ∨ kx = 2) := by
  rw [F_PF_demandZeroOrOne]
  by_cases c3620 : x0 = 0
  · rw [if_pos c3620]
    (try simp (disch := (first | omega | (simp only [Int32.reduceToInt]; omega) | (simp (disch := first | omega | (simp only [Int32.reduceToInt]; omega)) only [tadd, tsub, mul6, neg1, Int32.reduceToInt]; omega))) only [neg1, mul6, g_s, g_l, tadd, tsub, inb_iff, Int32.lt_iff_toInt_lt, Int32.le_iff_toInt_le, i32_eq, b2i_0, Int32.reduceToInt, reduceIte, Nat.reduceEqDiff] at c3620)
    have q3621 : ∃ (u_ : Unit), (some ()) = some u_ ∧ ((0 : Nat) = 0 ∨ (0 : Nat) = 2) := by
      refine ⟨_, rfl, tu_⟩
    obtain ⟨y3624, e3622, p3623⟩ := q3621
    exact ⟨0, y3624, by rw [e3622]; rfl, p3623⟩
  · rw [if_neg c3620]
    (try simp (disch := (first | omega | (simp only [Int32.reduceToInt]; omega) | (simp (disch := first | omega | (simp only [Int32.reduceToInt]; omega)) only [tadd, tsub, mul6, neg1, Int32.reduceToInt]; omega))) only [neg1, mul6, g_s, g_l, tadd, tsub, inb_iff, Int32.lt_iff_toInt_lt, Int32.le_iff_toInt_le, i32_eq, b2i_0, Int32.reduceToInt, reduceIte, Nat.reduceEqDiff] at c3620)
    by_cases c3625 : x0 = (1 : Int32)
    · rw [if_pos c3625]
      (try simp (disch := (first | omega | (simp only [Int32.reduceToInt]; omega) | (simp (disch := first | omega | (simp only [Int32.reduceToInt]; omega)) only [tadd, tsub, mul6, neg1, Int32.reduceToInt]; omega))) only [neg1, mul6, g_s, g_l, tadd, tsub, inb_iff, Int32.lt_iff_toInt_lt, Int32.le_iff_toInt_le, i32_eq, b2i_0, Int32.reduceToInt, reduceIte, Nat.reduceEqDiff] at c3625)
      have q3626 : ∃ (u_ : Unit), (some ()) = some u_ ∧ ((0 : Nat) = 0 ∨ (0 : Nat) = 2) := by
        refine ⟨_, rfl, tu_⟩
      obtain ⟨y3629, e3627, p3628⟩ := q3626
      exact ⟨0, y3629, by rw [e3627]; rfl, p3628⟩
    · rw [if_neg c3625]
      (try simp (disch := (first | omega | (simp only [Int32.reduceToInt]; omega) | (simp (disch := first | omega | (simp only [Int32.reduceToInt]; omega)) only [tadd, tsub, mul6, neg1, Int32.reduceToInt]; omega))) only [neg1, mul6, g_s, g_l, tadd, tsub, inb_iff, Int32.lt_iff_toInt_lt, Int32.le_iff_toInt_le, i32_eq, b2i_0, Int32.reduceToInt, reduceIte, Nat.reduceEqDiff] at c3625)
      refine ⟨_, _, rfl, tu_⟩
set_option maxHeartbeats 1000000 in
theorem t_PF_cellNumber (x0 : Int32) (x1 : Int32)  : ∃ (kx : Nat) (r : Int32), F_PF_cellNumber x0 x1 = some (kx, r) ∧ (kx = 0 ∧ 0 ≤ r.toInt ∧ r.toInt < 60 ∨ kx = 3) := by
  rw [F_PF_cellNumber]
  obtain ⟨k_2, u_3, e3631, p3630⟩ := t_PF_demandIndex x0 (10 : Int32)
  rw [e3631, bind2_s]
  (try simp (disch := (first | omega | (simp only [Int32.reduceToInt]; omega) | (simp (disch := first | omega | (simp only [Int32.reduceToInt]; omega)) only [tadd, tsub, mul6, neg1, Int32.reduceToInt]; omega))) only [neg1, mul6, g_s, g_l, tadd, tsub, inb_iff, Int32.lt_iff_toInt_lt, Int32.le_iff_toInt_le, i32_eq, b2i_0, Int32.reduceToInt, reduceIte, Nat.reduceEqDiff] at p3630)
  by_cases c3632 : k_2 = 0
  · rw [if_pos c3632]
    (try simp (disch := (first | omega | (simp only [Int32.reduceToInt]; omega) | (simp (disch := first | omega | (simp only [Int32.reduceToInt]; omega)) only [tadd, tsub, mul6, neg1, Int32.reduceToInt]; omega))) only [neg1, mul6, g_s, g_l, tadd, tsub, inb_iff, Int32.lt_iff_toInt_lt, Int32.le_iff_toInt_le, i32_eq, b2i_0, Int32.reduceToInt, reduceIte, Nat.reduceEqDiff] at c3632)
    obtain ⟨k_6, u_7, e3634, p3633⟩ := t_PF_demandIndex x1 (6 : Int32)
    rw [e3634, bind2_s]
    (try simp (disch := (first | omega | (simp only [Int32.reduceToInt]; omega) | (simp (disch := first | omega | (simp only [Int32.reduceToInt]; omega)) only [tadd, tsub, mul6, neg1, Int32.reduceToInt]; omega))) only [neg1, mul6, g_s, g_l, tadd, tsub, inb_iff, Int32.lt_iff_toInt_lt, Int32.le_iff_toInt_le, i32_eq, b2i_0, Int32.reduceToInt, reduceIte, Nat.reduceEqDiff] at p3633)
    by_cases c3635 : k_6 = 0
    · rw [if_pos c3635]
      (try simp (disch := (first | omega | (simp only [Int32.reduceToInt]; omega) | (simp (disch := first | omega | (simp only [Int32.reduceToInt]; omega)) only [tadd, tsub, mul6, neg1, Int32.reduceToInt]; omega))) only [neg1, mul6, g_s, g_l, tadd, tsub, inb_iff, Int32.lt_iff_toInt_lt, Int32.le_iff_toInt_le, i32_eq, b2i_0, Int32.reduceToInt, reduceIte, Nat.reduceEqDiff] at c3635)
      have q3636 : ∃ (r : Int32), (some (((6 : Int32) * x0) + x1)) = some r ∧ ((0 : Nat) = 0 ∧ 0 ≤ r.toInt ∧ r.toInt < 60 ∨ (0 : Nat) = 3) := by
        refine ⟨_, rfl, tu_⟩
      obtain ⟨y3639, e3637, p3638⟩ := q3636
      exact ⟨0, y3639, by rw [e3637]; rfl, p3638⟩
    · rw [if_neg c3635]
      (try simp (disch := (first | omega | (simp only [Int32.reduceToInt]; omega) | (simp (disch := first | omega | (simp only [Int32.reduceToInt]; omega)) only [tadd, tsub, mul6, neg1, Int32.reduceToInt]; omega))) only [neg1, mul6, g_s, g_l, tadd, tsub, inb_iff, Int32.lt_iff_toInt_lt, Int32.le_iff_toInt_le, i32_eq, b2i_0, Int32.reduceToInt, reduceIte, Nat.reduceEqDiff] at c3635)
      refine ⟨_, _, rfl, tu_⟩
  · rw [if_neg c3632]
    (try simp (disch := (first | omega | (simp only [Int32.reduceToInt]; omega) | (simp (disch := first | omega | (simp only [Int32.reduceToInt]; omega)) only [tadd, tsub, mul6, neg1, Int32.reduceToInt]; omega))) only [neg1, mul6, g_s, g_l, tadd, tsub, inb_iff, Int32.lt_iff_toInt_lt, Int32.le_iff_toInt_le, i32_eq, b2i_0, Int32.reduceToInt, reduceIte, Nat.reduceEqDiff] at c3632)
    refine ⟨_, _, rfl, tu_⟩
theorem t_PF_unit (x1 : Int32) (o0 o1 : Ob) (g0 : okPF o0) (g1 : okReader o1) : ∃ (r : Bool) (n1 : Ob), F_PF_unit x1 o0 o1 = some (r, n1) ∧ (okReader n1) ∧ ((r = decide (33 ≤ x1.toInt ∧ x1.toInt ≤ 126 ∧ (g32 o1 2 0).toInt < 400)) ∧ ((g32 n1 2 0).toInt = (g32 o1 2 0).toInt + (if r = true then 1 else 0))) := by
  obtain ⟨f1, f2, f3, f4⟩ := id g1
  have z33 : (33 : Int32).toInt = 33 := rfl
  have z126 : (126 : Int32).toInt = 126 := rfl
  have z400 : (400 : Int32).toInt = 400 := rfl
  rw [F_PF_unit]
  by_cases c1 : x1 < (33 : Int32)
  · rw [if_pos c1]
    have c1 := Int32.lt_iff_toInt_lt.mp c1
    exact ⟨false, o1, rfl, g1, (decide_eq_false (by omega)).symm, by rw [if_neg (by decide)]; exact (Int.add_zero _).symm⟩
  rw [if_neg c1]
  have c1 : ¬ x1.toInt < 33 := fun z => c1 (Int32.lt_iff_toInt_lt.mpr (by omega))
  by_cases c2 : (126 : Int32) < x1
  · rw [if_pos c2]
    have c2 := Int32.lt_iff_toInt_lt.mp c2
    exact ⟨false, o1, rfl, g1, (decide_eq_false (by omega)).symm, by rw [if_neg (by decide)]; exact (Int.add_zero _).symm⟩
  rw [if_neg c2]
  have c2 : ¬ 126 < x1.toInt := fun z => c2 (Int32.lt_iff_toInt_lt.mpr (by omega))
  rw [F_Reader_collect]
  by_cases c3 : (g32 o1 2 0) < (400 : Int32)
  · rw [if_pos c3]
    have c3 := Int32.lt_iff_toInt_lt.mp c3
    rw [show (inb (g32 o1 2 0) 400) = true from inb_iff.mpr ⟨f1, by omega⟩, chk_tr, bind2_s, if_neg (by decide)]
    have e := add1 (x := g32 o1 2 0) (by omega)
    refine ⟨true, _, rfl, ⟨?_, ?_, ?_, ?_⟩, (decide_eq_true (by omega)).symm, ?_⟩
    · show 0 ≤ ((g32 o1 2 0) + (1 : Int32)).toInt; omega
    · show ((g32 o1 2 0) + (1 : Int32)).toInt ≤ 400; omega
    · exact AR.ne (by decide) (AR.ne (by decide) (AR.eq nar_c0 nar_c1 f3))
    · exact AR.ne (by decide) (AR.ne (by decide) (AR.ne (by decide) f4))
    · rw [if_pos rfl]; exact e
  · rw [if_neg c3, bind2_s, if_pos (by decide)]
    have c3 : ¬ (g32 o1 2 0).toInt < 400 := fun z => c3 (Int32.lt_iff_toInt_lt.mpr (by omega))
    exact ⟨false, o1, rfl, g1, (decide_eq_false (by omega)).symm, by rw [if_neg (by decide)]; exact (Int.add_zero _).symm⟩
set_option maxHeartbeats 1000000 in
theorem t_PF_write (x1 : Int32) (o0 : Ob) (o1 : Ob) (g0 : okPF o0) (g1 : okText o1) : ∃ (kx : Nat) (r : Int32), F_PF_write x1 o0 o1 = some (kx, r) ∧ (kx = 0 ∨ kx = 1 ∨ kx = 2) := by
  obtain ⟨f3640, f3641⟩ := id g0
  obtain ⟨f3642, f3643, f3644, f3645, f3646, f3647, f3648, f3649, f3650⟩ := id g1
  rw [F_PF_write]
  obtain ⟨k_2, u_3, e3652, p3651⟩ := t_PF_demandRead o0 (ok2_)
  rw [e3652, bind2_s]
  by_cases c3653 : k_2 = 0
  · rw [if_pos c3653]
    (try simp (disch := (first | omega | (simp only [Int32.reduceToInt]; omega) | (simp (disch := first | omega | (simp only [Int32.reduceToInt]; omega)) only [tadd, tsub, mul6, neg1, Int32.reduceToInt]; omega))) only [neg1, mul6, g_s, g_l, tadd, tsub, inb_iff, Int32.lt_iff_toInt_lt, Int32.le_iff_toInt_le, i32_eq, b2i_0, Int32.reduceToInt, reduceIte, Nat.reduceEqDiff] at c3653)
    obtain ⟨k_6, u_7, e3655, p3654⟩ := t_PF_demandNotNegative x1
    rw [e3655, bind2_s]
    by_cases c3656 : k_6 = 0
    · rw [if_pos c3656]
      (try simp (disch := (first | omega | (simp only [Int32.reduceToInt]; omega) | (simp (disch := first | omega | (simp only [Int32.reduceToInt]; omega)) only [tadd, tsub, mul6, neg1, Int32.reduceToInt]; omega))) only [neg1, mul6, g_s, g_l, tadd, tsub, inb_iff, Int32.lt_iff_toInt_lt, Int32.le_iff_toInt_le, i32_eq, b2i_0, Int32.reduceToInt, reduceIte, Nat.reduceEqDiff] at c3656)
      have q3657 : ∃ (r : Int32), (if (g32 o1 1 0) ≤ x1 then (some (-1 : Int32)) else (chk (inb x1 400) (some (g32 o1 0 (Int32.toNatClampNeg x1))))) = some r ∧ ((0 : Nat) = 0 ∨ (0 : Nat) = 1 ∨ (0 : Nat) = 2) := by
        by_cases c3661 : (g32 o1 1 0) ≤ x1
        · rw [if_pos c3661]
          (try simp (disch := (first | omega | (simp only [Int32.reduceToInt]; omega) | (simp (disch := first | omega | (simp only [Int32.reduceToInt]; omega)) only [tadd, tsub, mul6, neg1, Int32.reduceToInt]; omega))) only [neg1, mul6, g_s, g_l, tadd, tsub, inb_iff, Int32.lt_iff_toInt_lt, Int32.le_iff_toInt_le, i32_eq, b2i_0, Int32.reduceToInt, reduceIte, Nat.reduceEqDiff] at c3661)
          refine ⟨_, rfl, tu_⟩
        · rw [if_neg c3661]
          (try simp (disch := (first | omega | (simp only [Int32.reduceToInt]; omega) | (simp (disch := first | omega | (simp only [Int32.reduceToInt]; omega)) only [tadd, tsub, mul6, neg1, Int32.reduceToInt]; omega))) only [neg1, mul6, g_s, g_l, tadd, tsub, inb_iff, Int32.lt_iff_toInt_lt, Int32.le_iff_toInt_le, i32_eq, b2i_0, Int32.reduceToInt, reduceIte, Nat.reduceEqDiff] at c3661)
          rw [show (inb x1 400) = true from inb_iff.mpr ⟨tu_, tu_⟩, chk_tr]
          refine ⟨_, rfl, tu_⟩
      obtain ⟨y3660, e3658, p3659⟩ := q3657
      exact ⟨0, y3660, by rw [e3658]; rfl, p3659⟩
    · rw [if_neg c3656]
      (try simp (disch := (first | omega | (simp only [Int32.reduceToInt]; omega) | (simp (disch := first | omega | (simp only [Int32.reduceToInt]; omega)) only [tadd, tsub, mul6, neg1, Int32.reduceToInt]; omega))) only [neg1, mul6, g_s, g_l, tadd, tsub, inb_iff, Int32.lt_iff_toInt_lt, Int32.le_iff_toInt_le, i32_eq, b2i_0, Int32.reduceToInt, reduceIte, Nat.reduceEqDiff] at c3656)
      refine ⟨_, _, rfl, tu_⟩
  · rw [if_neg c3653]
    (try simp (disch := (first | omega | (simp only [Int32.reduceToInt]; omega) | (simp (disch := first | omega | (simp only [Int32.reduceToInt]; omega)) only [tadd, tsub, mul6, neg1, Int32.reduceToInt]; omega))) only [neg1, mul6, g_s, g_l, tadd, tsub, inb_iff, Int32.lt_iff_toInt_lt, Int32.le_iff_toInt_le, i32_eq, b2i_0, Int32.reduceToInt, reduceIte, Nat.reduceEqDiff] at c3653)
    refine ⟨_, _, rfl, tu_⟩
set_option maxHeartbeats 1000000 in
theorem t_PF_set (x1 : Int32) (x2 : Int64) (x4 : Int64) (o0 : Ob) (o1 : Ob) (o2 : Ob) (o3 : Ob) (o4 : Ob) (g0 : okPF o0) (g1 : okReckoner o2) (g2 : okText o3) (g3 : okSteps o4) (g4 : OC o3) : ∃ (kx : Nat) (r : Bool) (n0 : Ob) (n1 : Ob) (n2 : Ob), F_PF_set x1 x2 x4 o0 o1 o2 o3 o4 = some (kx, r, n0, n1, n2) ∧ (okPF n0) ∧ (okReckoner n2) ∧ (kx = 0 ∨ kx = 2 ∨ kx = 3) := by
  obtain ⟨f3662, f3663⟩ := id g0
  obtain ⟨f3664, f3665⟩ := id g1
  obtain ⟨f3666, f3667, f3668, f3669, f3670, f3671, f3672, f3673, f3674⟩ := id g2
  obtain ⟨f3675, f3676, f3677, f3678, f3679, f3680⟩ := id g3
  rw [F_PF_set]
  obtain ⟨k_2, u_3, e3682, p3681⟩ := t_PF_demandIndex x1 (8 : Int32)
  rw [e3682, bind2_s]
  (try simp (disch := (first | omega | (simp only [Int32.reduceToInt]; omega) | (simp (disch := first | omega | (simp only [Int32.reduceToInt]; omega)) only [tadd, tsub, mul6, neg1, Int32.reduceToInt]; omega))) only [neg1, mul6, g_s, g_l, tadd, tsub, inb_iff, Int32.lt_iff_toInt_lt, Int32.le_iff_toInt_le, i32_eq, b2i_0, Int32.reduceToInt, reduceIte, Nat.reduceEqDiff] at p3681)
  by_cases c3683 : k_2 = 0
  · rw [if_pos c3683]
    (try simp (disch := (first | omega | (simp only [Int32.reduceToInt]; omega) | (simp (disch := first | omega | (simp only [Int32.reduceToInt]; omega)) only [tadd, tsub, mul6, neg1, Int32.reduceToInt]; omega))) only [neg1, mul6, g_s, g_l, tadd, tsub, inb_iff, Int32.lt_iff_toInt_lt, Int32.le_iff_toInt_le, i32_eq, b2i_0, Int32.reduceToInt, reduceIte, Nat.reduceEqDiff] at c3683)
    by_cases c3684 : (lg_cmp x4 (1 : Int64)) < 0
    · rw [if_pos c3684]
      (try simp (disch := (first | omega | (simp only [Int32.reduceToInt]; omega) | (simp (disch := first | omega | (simp only [Int32.reduceToInt]; omega)) only [tadd, tsub, mul6, neg1, Int32.reduceToInt]; omega))) only [neg1, mul6, g_s, g_l, tadd, tsub, inb_iff, Int32.lt_iff_toInt_lt, Int32.le_iff_toInt_le, i32_eq, b2i_0, Int32.reduceToInt, reduceIte, Nat.reduceEqDiff] at c3684)
      refine ⟨_, _, _, _, _, rfl, ok2_, ok2_, tu_⟩
    · rw [if_neg c3684]
      (try simp (disch := (first | omega | (simp only [Int32.reduceToInt]; omega) | (simp (disch := first | omega | (simp only [Int32.reduceToInt]; omega)) only [tadd, tsub, mul6, neg1, Int32.reduceToInt]; omega))) only [neg1, mul6, g_s, g_l, tadd, tsub, inb_iff, Int32.lt_iff_toInt_lt, Int32.le_iff_toInt_le, i32_eq, b2i_0, Int32.reduceToInt, reduceIte, Nat.reduceEqDiff] at c3684)
      by_cases c3685 : 0 < (lg_cmp x4 (1000000000 : Int64))
      · rw [if_pos c3685]
        (try simp (disch := (first | omega | (simp only [Int32.reduceToInt]; omega) | (simp (disch := first | omega | (simp only [Int32.reduceToInt]; omega)) only [tadd, tsub, mul6, neg1, Int32.reduceToInt]; omega))) only [neg1, mul6, g_s, g_l, tadd, tsub, inb_iff, Int32.lt_iff_toInt_lt, Int32.le_iff_toInt_le, i32_eq, b2i_0, Int32.reduceToInt, reduceIte, Nat.reduceEqDiff] at c3685)
        refine ⟨_, _, _, _, _, rfl, ok2_, ok2_, tu_⟩
      · rw [if_neg c3685]
        (try simp (disch := (first | omega | (simp only [Int32.reduceToInt]; omega) | (simp (disch := first | omega | (simp only [Int32.reduceToInt]; omega)) only [tadd, tsub, mul6, neg1, Int32.reduceToInt]; omega))) only [neg1, mul6, g_s, g_l, tadd, tsub, inb_iff, Int32.lt_iff_toInt_lt, Int32.le_iff_toInt_le, i32_eq, b2i_0, Int32.reduceToInt, reduceIte, Nat.reduceEqDiff] at c3685)
        by_cases c3686 : 0 < (lg_cmp x2 (1000000000 : Int64))
        · rw [if_pos c3686]
          (try simp (disch := (first | omega | (simp only [Int32.reduceToInt]; omega) | (simp (disch := first | omega | (simp only [Int32.reduceToInt]; omega)) only [tadd, tsub, mul6, neg1, Int32.reduceToInt]; omega))) only [neg1, mul6, g_s, g_l, tadd, tsub, inb_iff, Int32.lt_iff_toInt_lt, Int32.le_iff_toInt_le, i32_eq, b2i_0, Int32.reduceToInt, reduceIte, Nat.reduceEqDiff] at c3686)
          refine ⟨_, _, _, _, _, rfl, ok2_, ok2_, tu_⟩
        · rw [if_neg c3686]
          (try simp (disch := (first | omega | (simp only [Int32.reduceToInt]; omega) | (simp (disch := first | omega | (simp only [Int32.reduceToInt]; omega)) only [tadd, tsub, mul6, neg1, Int32.reduceToInt]; omega))) only [neg1, mul6, g_s, g_l, tadd, tsub, inb_iff, Int32.lt_iff_toInt_lt, Int32.le_iff_toInt_le, i32_eq, b2i_0, Int32.reduceToInt, reduceIte, Nat.reduceEqDiff] at c3686)
          by_cases c3687 : 0 ≤ (lg_cmp x2 (-1000000000 : Int64))
          · rw [if_pos c3687]
            (try simp (disch := (first | omega | (simp only [Int32.reduceToInt]; omega) | (simp (disch := first | omega | (simp only [Int32.reduceToInt]; omega)) only [tadd, tsub, mul6, neg1, Int32.reduceToInt]; omega))) only [neg1, mul6, g_s, g_l, tadd, tsub, inb_iff, Int32.lt_iff_toInt_lt, Int32.le_iff_toInt_le, i32_eq, b2i_0, Int32.reduceToInt, reduceIte, Nat.reduceEqDiff] at c3687)
            have q3688 : ∃ (r : Bool) (n0 : Ob) (n1 : Ob) (n2 : Ob), (bind2 (F_Reckoner_changeOption x1 x2 x4 o2) (fun v10 o_11 => if (b2i v10) = 0 then (some (v10, o0, o1, o_11)) else (if (g32 o0 3 0) = 0 then (some (v10, o0, o1, o_11)) else (bind3 (F_Reckoner_workOutHanging x1 o_11 o3 o4 o1) (fun v15 o_16 o_17 => some (v10, (s64 o0 9 0 ((g64 o0 9 0) + (Int32.toInt64 v15))), o_17, o_16)))))) = some (r, n0, n1, n2) ∧ (okPF n0) ∧ (okReckoner n2) ∧ ((0 : Nat) = 0 ∨ (0 : Nat) = 2 ∨ (0 : Nat) = 3) := by
              obtain ⟨v10, o_11, e3698, p3697⟩ := t_Reckoner_changeOption x1 x2 x4 o2 (ok2_) (tu_) (tu_)
              rw [e3698, bind2_s]
              obtain ⟨f3699, f3700⟩ := id p3697
              by_cases c3701 : (b2i v10) = 0
              · rw [if_pos c3701]
                have c3701 := b2i_0.mp c3701
                subst c3701
                refine ⟨_, _, _, _, rfl, ok2_, ok2_, tu_⟩
              · rw [if_neg c3701]
                have c3701 := b2i_1 c3701
                subst c3701
                by_cases c3702 : (g32 o0 3 0) = 0
                · rw [if_pos c3702]
                  (try simp (disch := (first | omega | (simp only [Int32.reduceToInt]; omega) | (simp (disch := first | omega | (simp only [Int32.reduceToInt]; omega)) only [tadd, tsub, mul6, neg1, Int32.reduceToInt]; omega))) only [neg1, mul6, g_s, g_l, tadd, tsub, inb_iff, Int32.lt_iff_toInt_lt, Int32.le_iff_toInt_le, i32_eq, b2i_0, Int32.reduceToInt, reduceIte, Nat.reduceEqDiff] at c3702)
                  refine ⟨_, _, _, _, rfl, ok2_, ok2_, tu_⟩
                · rw [if_neg c3702]
                  (try simp (disch := (first | omega | (simp only [Int32.reduceToInt]; omega) | (simp (disch := first | omega | (simp only [Int32.reduceToInt]; omega)) only [tadd, tsub, mul6, neg1, Int32.reduceToInt]; omega))) only [neg1, mul6, g_s, g_l, tadd, tsub, inb_iff, Int32.lt_iff_toInt_lt, Int32.le_iff_toInt_le, i32_eq, b2i_0, Int32.reduceToInt, reduceIte, Nat.reduceEqDiff] at c3702)
                  obtain ⟨v15, o_16, o_17, e3704, p3703⟩ := t_Reckoner_workOutHanging x1 o_11 o3 o4 o1 (ok2_) (ok9_) (ok6_) (oc_)
                  rw [e3704, bind3_s]
                  obtain ⟨f3705, f3706⟩ := id p3703
                  refine ⟨_, _, _, _, rfl, ok2_, ok2_, tu_⟩
            obtain ⟨y3693, y3694, y3695, y3696, e3689, p3690, p3691, p3692⟩ := q3688
            exact ⟨0, y3693, y3694, y3695, y3696, by rw [e3689]; rfl, p3690, p3691, p3692⟩
          · rw [if_neg c3687]
            (try simp (disch := (first | omega | (simp only [Int32.reduceToInt]; omega) | (simp (disch := first | omega | (simp only [Int32.reduceToInt]; omega)) only [tadd, tsub, mul6, neg1, Int32.reduceToInt]; omega))) only [neg1, mul6, g_s, g_l, tadd, tsub, inb_iff, Int32.lt_iff_toInt_lt, Int32.le_iff_toInt_le, i32_eq, b2i_0, Int32.reduceToInt, reduceIte, Nat.reduceEqDiff] at c3687)
            refine ⟨_, _, _, _, _, rfl, ok2_, ok2_, tu_⟩
  · rw [if_neg c3683]
    (try simp (disch := (first | omega | (simp only [Int32.reduceToInt]; omega) | (simp (disch := first | omega | (simp only [Int32.reduceToInt]; omega)) only [tadd, tsub, mul6, neg1, Int32.reduceToInt]; omega))) only [neg1, mul6, g_s, g_l, tadd, tsub, inb_iff, Int32.lt_iff_toInt_lt, Int32.le_iff_toInt_le, i32_eq, b2i_0, Int32.reduceToInt, reduceIte, Nat.reduceEqDiff] at c3683)
    refine ⟨_, _, _, _, _, rfl, ok2_, ok2_, tu_⟩
set_option maxHeartbeats 1000000 in
theorem t_PF_run_43 (o3 : Ob) (o4 : Ob) : ∀ (n : Nat) (x1 : Int32) (o0 : Ob) (o1 : Ob) (o2 : Ob), (okPF o0) → (okReckoner o2) → (okText o3) → (okSteps o4) → (0 ≤ x1.toInt) → (x1.toInt ≤ 24) → (24 - x1.toInt < (n : Int)) → ∃ (r : Int32) (n0 : Ob) (n1 : Ob) (n2 : Ob), F_PF_run_43 o3 o4 n x1 o0 o1 o2 = some (r, n0, n1, n2) ∧ (okPF n0) ∧ (okReckoner n2) := by
  intro n
  induction n with
  | zero =>
    intro x1 o0 o1 o2 g0 g1 g2 g3 g4 g5 g6
    obtain ⟨f3707, f3708⟩ := id g0
    obtain ⟨f3709, f3710⟩ := id g1
    obtain ⟨f3711, f3712, f3713, f3714, f3715, f3716, f3717, f3718, f3719⟩ := id g2
    obtain ⟨f3720, f3721, f3722, f3723, f3724, f3725⟩ := id g3
    exfalso
    (try simp (disch := (first | omega | (simp only [Int32.reduceToInt]; omega) | (simp (disch := first | omega | (simp only [Int32.reduceToInt]; omega)) only [tadd, tsub, mul6, neg1, Int32.reduceToInt]; omega))) only [neg1, mul6, g_s, g_l, tadd, tsub, inb_iff, Int32.lt_iff_toInt_lt, Int32.le_iff_toInt_le, i32_eq, b2i_0, Int32.reduceToInt, reduceIte, Nat.reduceEqDiff] at g6)
    exact ari_
  | succ n ih =>
    intro x1 o0 o1 o2 g0 g1 g2 g3 g4 g5 g6
    obtain ⟨f3726, f3727⟩ := id g0
    obtain ⟨f3728, f3729⟩ := id g1
    obtain ⟨f3730, f3731, f3732, f3733, f3734, f3735, f3736, f3737, f3738⟩ := id g2
    obtain ⟨f3739, f3740, f3741, f3742, f3743, f3744⟩ := id g3
    rw [F_PF_run_43]
    (try simp (disch := (first | omega | (simp only [Int32.reduceToInt]; omega) | (simp (disch := first | omega | (simp only [Int32.reduceToInt]; omega)) only [tadd, tsub, mul6, neg1, Int32.reduceToInt]; omega))) only [neg1, mul6, g_s, g_l, tadd, tsub, inb_iff, Int32.lt_iff_toInt_lt, Int32.le_iff_toInt_le, i32_eq, b2i_0, Int32.reduceToInt, reduceIte, Nat.reduceEqDiff] at g6)
    by_cases c3745 : (g32 o3 3 0) ≤ x1
    · rw [if_pos c3745]
      (try simp (disch := (first | omega | (simp only [Int32.reduceToInt]; omega) | (simp (disch := first | omega | (simp only [Int32.reduceToInt]; omega)) only [tadd, tsub, mul6, neg1, Int32.reduceToInt]; omega))) only [neg1, mul6, g_s, g_l, tadd, tsub, inb_iff, Int32.lt_iff_toInt_lt, Int32.le_iff_toInt_le, i32_eq, b2i_0, Int32.reduceToInt, reduceIte, Nat.reduceEqDiff] at c3745)
      refine ⟨_, _, _, _, rfl, ok2_, ok2_⟩
    · rw [if_neg c3745]
      (try simp (disch := (first | omega | (simp only [Int32.reduceToInt]; omega) | (simp (disch := first | omega | (simp only [Int32.reduceToInt]; omega)) only [tadd, tsub, mul6, neg1, Int32.reduceToInt]; omega))) only [neg1, mul6, g_s, g_l, tadd, tsub, inb_iff, Int32.lt_iff_toInt_lt, Int32.le_iff_toInt_le, i32_eq, b2i_0, Int32.reduceToInt, reduceIte, Nat.reduceEqDiff] at c3745)
      rw [show (inb x1 24) = true from inb_iff.mpr ⟨tu_, tu_⟩, chk_tr]
      have a3747 := f3734 (Int32.toNatClampNeg x1)
      by_cases c3746 : (g32 o3 4 (Int32.toNatClampNeg x1)) = (-1 : Int32)
      · rw [if_pos c3746]
        (try simp (disch := (first | omega | (simp only [Int32.reduceToInt]; omega) | (simp (disch := first | omega | (simp only [Int32.reduceToInt]; omega)) only [tadd, tsub, mul6, neg1, Int32.reduceToInt]; omega))) only [neg1, mul6, g_s, g_l, tadd, tsub, inb_iff, Int32.lt_iff_toInt_lt, Int32.le_iff_toInt_le, i32_eq, b2i_0, Int32.reduceToInt, reduceIte, Nat.reduceEqDiff] at c3746)
        obtain ⟨y3748, y3749, y3750, y3751, e3754, p3752, p3753⟩ := ih (x1 + (1 : Int32)) o0 o1 o2 (ok2_) (ok2_) (ok9_) (ok6_) (tu_) (tu_) tu_
        obtain ⟨f3755, f3756⟩ := id p3752
        obtain ⟨f3757, f3758⟩ := id p3753
        refine ⟨y3748, y3749, y3750, y3751, e3754, ok2_, ok2_⟩
      · rw [if_neg c3746]
        (try simp (disch := (first | omega | (simp only [Int32.reduceToInt]; omega) | (simp (disch := first | omega | (simp only [Int32.reduceToInt]; omega)) only [tadd, tsub, mul6, neg1, Int32.reduceToInt]; omega))) only [neg1, mul6, g_s, g_l, tadd, tsub, inb_iff, Int32.lt_iff_toInt_lt, Int32.le_iff_toInt_le, i32_eq, b2i_0, Int32.reduceToInt, reduceIte, Nat.reduceEqDiff] at c3746)
        rw [show (inb (g32 o3 4 (Int32.toNatClampNeg x1)) 60) = true from inb_iff.mpr ⟨tu_, tu_⟩, chk_tr]
        by_cases c3759 : (g32 o1 0 (Int32.toNatClampNeg (g32 o3 4 (Int32.toNatClampNeg x1)))) = (1 : Int32)
        · rw [if_pos c3759]
          (try simp (disch := (first | omega | (simp only [Int32.reduceToInt]; omega) | (simp (disch := first | omega | (simp only [Int32.reduceToInt]; omega)) only [tadd, tsub, mul6, neg1, Int32.reduceToInt]; omega))) only [neg1, mul6, g_s, g_l, tadd, tsub, inb_iff, Int32.lt_iff_toInt_lt, Int32.le_iff_toInt_le, i32_eq, b2i_0, Int32.reduceToInt, reduceIte, Nat.reduceEqDiff] at c3759)
          obtain ⟨y3760, y3761, y3762, y3763, e3766, p3764, p3765⟩ := ih (x1 + (1 : Int32)) o0 o1 o2 (ok2_) (ok2_) (ok9_) (ok6_) (tu_) (tu_) tu_
          obtain ⟨f3767, f3768⟩ := id p3764
          obtain ⟨f3769, f3770⟩ := id p3765
          refine ⟨y3760, y3761, y3762, y3763, e3766, ok2_, ok2_⟩
        · rw [if_neg c3759]
          (try simp (disch := (first | omega | (simp only [Int32.reduceToInt]; omega) | (simp (disch := first | omega | (simp only [Int32.reduceToInt]; omega)) only [tadd, tsub, mul6, neg1, Int32.reduceToInt]; omega))) only [neg1, mul6, g_s, g_l, tadd, tsub, inb_iff, Int32.lt_iff_toInt_lt, Int32.le_iff_toInt_le, i32_eq, b2i_0, Int32.reduceToInt, reduceIte, Nat.reduceEqDiff] at c3759)
          refine ⟨_, _, _, _, rfl, ok2_, ok2_⟩
set_option maxHeartbeats 1000000 in
theorem t_PF_run (o0 : Ob) (o1 : Ob) (o2 : Ob) (o3 : Ob) (o4 : Ob) (g0 : okPF o0) (g1 : okReckoner o2) (g2 : okText o3) (g3 : okSteps o4) (g4 : OC o3) : ∃ (kx : Nat) (r : Int32) (n0 : Ob) (n1 : Ob) (n2 : Ob), F_PF_run o0 o1 o2 o3 o4 = some (kx, r, n0, n1, n2) ∧ (okPF n0) ∧ (okReckoner n2) ∧ (kx = 0 ∨ kx = 1) := by
  obtain ⟨f3771, f3772⟩ := id g0
  obtain ⟨f3773, f3774⟩ := id g1
  obtain ⟨f3775, f3776, f3777, f3778, f3779, f3780, f3781, f3782, f3783⟩ := id g2
  obtain ⟨f3784, f3785, f3786, f3787, f3788, f3789⟩ := id g3
  rw [F_PF_run]
  obtain ⟨k_2, u_3, e3791, p3790⟩ := t_PF_demandRead o0 (ok2_)
  rw [e3791, bind2_s]
  by_cases c3792 : k_2 = 0
  · rw [if_pos c3792]
    (try simp (disch := (first | omega | (simp only [Int32.reduceToInt]; omega) | (simp (disch := first | omega | (simp only [Int32.reduceToInt]; omega)) only [tadd, tsub, mul6, neg1, Int32.reduceToInt]; omega))) only [neg1, mul6, g_s, g_l, tadd, tsub, inb_iff, Int32.lt_iff_toInt_lt, Int32.le_iff_toInt_le, i32_eq, b2i_0, Int32.reduceToInt, reduceIte, Nat.reduceEqDiff] at c3792)
    have q3793 : ∃ (r : Int32) (n0 : Ob) (n1 : Ob) (n2 : Ob), (bind2 (F_Reckoner_workOutAll o2 o3 o4 o1) (fun o_6 o_7 => F_PF_run_43 o3 o4 fuel (0 : Int32) (s64 (s32 o0 3 0 (1 : Int32)) 9 0 ((g64 o0 9 0) + (Int32.toInt64 (g32 o3 11 0)))) o_7 o_6)) = some (r, n0, n1, n2) ∧ (okPF n0) ∧ (okReckoner n2) ∧ ((0 : Nat) = 0 ∨ (0 : Nat) = 1) := by
      obtain ⟨o_6, o_7, e3803, p3802⟩ := t_Reckoner_workOutAll o2 o3 o4 o1 (ok2_) (ok9_) (ok6_) (oc_)
      rw [e3803, bind2_s]
      obtain ⟨f3804, f3805⟩ := id p3802
      obtain ⟨y3806, y3807, y3808, y3809, e3812, p3810, p3811⟩ := t_PF_run_43 o3 o4 fuel (0 : Int32) (s64 (s32 o0 3 0 (1 : Int32)) 9 0 ((g64 o0 9 0) + (Int32.toInt64 (g32 o3 11 0)))) o_7 o_6 (ok2_) (ok2_) (ok9_) (ok6_) (tu_) (tu_) tu_
      obtain ⟨f3813, f3814⟩ := id p3810
      obtain ⟨f3815, f3816⟩ := id p3811
      refine ⟨y3806, y3807, y3808, y3809, e3812, ok2_, ok2_, tu_⟩
    obtain ⟨y3798, y3799, y3800, y3801, e3794, p3795, p3796, p3797⟩ := q3793
    exact ⟨0, y3798, y3799, y3800, y3801, by rw [e3794]; rfl, p3795, p3796, p3797⟩
  · rw [if_neg c3792]
    (try simp (disch := (first | omega | (simp only [Int32.reduceToInt]; omega) | (simp (disch := first | omega | (simp only [Int32.reduceToInt]; omega)) only [tadd, tsub, mul6, neg1, Int32.reduceToInt]; omega))) only [neg1, mul6, g_s, g_l, tadd, tsub, inb_iff, Int32.lt_iff_toInt_lt, Int32.le_iff_toInt_le, i32_eq, b2i_0, Int32.reduceToInt, reduceIte, Nat.reduceEqDiff] at c3792)
    refine ⟨_, _, _, _, _, rfl, ok2_, ok2_, tu_⟩
set_option maxHeartbeats 1000000 in
theorem t_PF_state (x1 : Int32) (x2 : Int32) (o0 : Ob) (o1 : Ob) (g0 : okPF o0) : ∃ (kx : Nat) (r : Int32), F_PF_state x1 x2 o0 o1 = some (kx, r) ∧ (kx = 0 ∨ kx = 1 ∨ kx = 3) := by
  obtain ⟨f3817, f3818⟩ := id g0
  rw [F_PF_state]
  obtain ⟨k_2, u_3, e3820, p3819⟩ := t_PF_demandWorkedOut o0 (ok2_)
  rw [e3820, bind2_s]
  by_cases c3821 : k_2 = 0
  · rw [if_pos c3821]
    (try simp (disch := (first | omega | (simp only [Int32.reduceToInt]; omega) | (simp (disch := first | omega | (simp only [Int32.reduceToInt]; omega)) only [tadd, tsub, mul6, neg1, Int32.reduceToInt]; omega))) only [neg1, mul6, g_s, g_l, tadd, tsub, inb_iff, Int32.lt_iff_toInt_lt, Int32.le_iff_toInt_le, i32_eq, b2i_0, Int32.reduceToInt, reduceIte, Nat.reduceEqDiff] at c3821)
    obtain ⟨k_7, v6, e3823, p3822⟩ := t_PF_cellNumber x1 x2
    rw [e3823, bind2_s]
    by_cases c3824 : k_7 = 0
    · rw [if_pos c3824]
      (try simp (disch := (first | omega | (simp only [Int32.reduceToInt]; omega) | (simp (disch := first | omega | (simp only [Int32.reduceToInt]; omega)) only [tadd, tsub, mul6, neg1, Int32.reduceToInt]; omega))) only [neg1, mul6, g_s, g_l, tadd, tsub, inb_iff, Int32.lt_iff_toInt_lt, Int32.le_iff_toInt_le, i32_eq, b2i_0, Int32.reduceToInt, reduceIte, Nat.reduceEqDiff] at c3824)
      have q3825 : ∃ (r : Int32), (chk (inb v6 60) (some (g32 o1 0 (Int32.toNatClampNeg v6)))) = some r ∧ ((0 : Nat) = 0 ∨ (0 : Nat) = 1 ∨ (0 : Nat) = 3) := by
        rw [show (inb v6 60) = true from inb_iff.mpr ⟨tu_, tu_⟩, chk_tr]
        refine ⟨_, rfl, tu_⟩
      obtain ⟨y3828, e3826, p3827⟩ := q3825
      exact ⟨0, y3828, by rw [e3826]; rfl, p3827⟩
    · rw [if_neg c3824]
      (try simp (disch := (first | omega | (simp only [Int32.reduceToInt]; omega) | (simp (disch := first | omega | (simp only [Int32.reduceToInt]; omega)) only [tadd, tsub, mul6, neg1, Int32.reduceToInt]; omega))) only [neg1, mul6, g_s, g_l, tadd, tsub, inb_iff, Int32.lt_iff_toInt_lt, Int32.le_iff_toInt_le, i32_eq, b2i_0, Int32.reduceToInt, reduceIte, Nat.reduceEqDiff] at c3824)
      refine ⟨_, _, rfl, tu_⟩
  · rw [if_neg c3821]
    (try simp (disch := (first | omega | (simp only [Int32.reduceToInt]; omega) | (simp (disch := first | omega | (simp only [Int32.reduceToInt]; omega)) only [tadd, tsub, mul6, neg1, Int32.reduceToInt]; omega))) only [neg1, mul6, g_s, g_l, tadd, tsub, inb_iff, Int32.lt_iff_toInt_lt, Int32.le_iff_toInt_le, i32_eq, b2i_0, Int32.reduceToInt, reduceIte, Nat.reduceEqDiff] at c3821)
    refine ⟨_, _, rfl, tu_⟩
set_option maxHeartbeats 1000000 in
theorem t_PF_size (x1 : Int32) (x2 : Int32) (x3 : Int32) (o0 : Ob) (o1 : Ob) (g0 : okPF o0) : ∃ (kx : Nat) (r : Int64), F_PF_size x1 x2 x3 o0 o1 = some (kx, r) ∧ (kx = 0 ∨ kx = 1 ∨ kx = 2 ∨ kx = 3) := by
  obtain ⟨f3829, f3830⟩ := id g0
  rw [F_PF_size]
  obtain ⟨k_3, v2, e3832, p3831⟩ := t_PF_cellNumber x1 x2
  rw [e3832, bind2_s]
  by_cases c3833 : k_3 = 0
  · rw [if_pos c3833]
    (try simp (disch := (first | omega | (simp only [Int32.reduceToInt]; omega) | (simp (disch := first | omega | (simp only [Int32.reduceToInt]; omega)) only [tadd, tsub, mul6, neg1, Int32.reduceToInt]; omega))) only [neg1, mul6, g_s, g_l, tadd, tsub, inb_iff, Int32.lt_iff_toInt_lt, Int32.le_iff_toInt_le, i32_eq, b2i_0, Int32.reduceToInt, reduceIte, Nat.reduceEqDiff] at c3833)
    obtain ⟨k_6, u_7, e3835, p3834⟩ := t_PF_demandZeroOrOne x3
    rw [e3835, bind2_s]
    by_cases c3836 : k_6 = 0
    · rw [if_pos c3836]
      (try simp (disch := (first | omega | (simp only [Int32.reduceToInt]; omega) | (simp (disch := first | omega | (simp only [Int32.reduceToInt]; omega)) only [tadd, tsub, mul6, neg1, Int32.reduceToInt]; omega))) only [neg1, mul6, g_s, g_l, tadd, tsub, inb_iff, Int32.lt_iff_toInt_lt, Int32.le_iff_toInt_le, i32_eq, b2i_0, Int32.reduceToInt, reduceIte, Nat.reduceEqDiff] at c3836)
      obtain ⟨k_10, u_11, e3838, p3837⟩ := t_PF_demandWorkedOut o0 (ok2_)
      rw [e3838, bind2_s]
      by_cases c3839 : k_10 = 0
      · rw [if_pos c3839]
        (try simp (disch := (first | omega | (simp only [Int32.reduceToInt]; omega) | (simp (disch := first | omega | (simp only [Int32.reduceToInt]; omega)) only [tadd, tsub, mul6, neg1, Int32.reduceToInt]; omega))) only [neg1, mul6, g_s, g_l, tadd, tsub, inb_iff, Int32.lt_iff_toInt_lt, Int32.le_iff_toInt_le, i32_eq, b2i_0, Int32.reduceToInt, reduceIte, Nat.reduceEqDiff] at c3839)
        rw [show (inb v2 60) = true from inb_iff.mpr ⟨tu_, tu_⟩, chk_tr]
        by_cases c3840 : (g32 o1 0 (Int32.toNatClampNeg v2)) = (1 : Int32)
        · rw [if_pos c3840]
          (try simp (disch := (first | omega | (simp only [Int32.reduceToInt]; omega) | (simp (disch := first | omega | (simp only [Int32.reduceToInt]; omega)) only [tadd, tsub, mul6, neg1, Int32.reduceToInt]; omega))) only [neg1, mul6, g_s, g_l, tadd, tsub, inb_iff, Int32.lt_iff_toInt_lt, Int32.le_iff_toInt_le, i32_eq, b2i_0, Int32.reduceToInt, reduceIte, Nat.reduceEqDiff] at c3840)
          have q3841 : ∃ (r : Int64), (if x3 = 0 then (some (g64 o1 1 (Int32.toNatClampNeg v2))) else (some (g64 o1 2 (Int32.toNatClampNeg v2)))) = some r ∧ ((0 : Nat) = 0 ∨ (0 : Nat) = 1 ∨ (0 : Nat) = 2 ∨ (0 : Nat) = 3) := by
            by_cases c3845 : x3 = 0
            · rw [if_pos c3845]
              (try simp (disch := (first | omega | (simp only [Int32.reduceToInt]; omega) | (simp (disch := first | omega | (simp only [Int32.reduceToInt]; omega)) only [tadd, tsub, mul6, neg1, Int32.reduceToInt]; omega))) only [neg1, mul6, g_s, g_l, tadd, tsub, inb_iff, Int32.lt_iff_toInt_lt, Int32.le_iff_toInt_le, i32_eq, b2i_0, Int32.reduceToInt, reduceIte, Nat.reduceEqDiff] at c3845)
              refine ⟨_, rfl, tu_⟩
            · rw [if_neg c3845]
              (try simp (disch := (first | omega | (simp only [Int32.reduceToInt]; omega) | (simp (disch := first | omega | (simp only [Int32.reduceToInt]; omega)) only [tadd, tsub, mul6, neg1, Int32.reduceToInt]; omega))) only [neg1, mul6, g_s, g_l, tadd, tsub, inb_iff, Int32.lt_iff_toInt_lt, Int32.le_iff_toInt_le, i32_eq, b2i_0, Int32.reduceToInt, reduceIte, Nat.reduceEqDiff] at c3845)
              refine ⟨_, rfl, tu_⟩
          obtain ⟨y3844, e3842, p3843⟩ := q3841
          exact ⟨0, y3844, by rw [e3842]; rfl, p3843⟩
        · rw [if_neg c3840]
          (try simp (disch := (first | omega | (simp only [Int32.reduceToInt]; omega) | (simp (disch := first | omega | (simp only [Int32.reduceToInt]; omega)) only [tadd, tsub, mul6, neg1, Int32.reduceToInt]; omega))) only [neg1, mul6, g_s, g_l, tadd, tsub, inb_iff, Int32.lt_iff_toInt_lt, Int32.le_iff_toInt_le, i32_eq, b2i_0, Int32.reduceToInt, reduceIte, Nat.reduceEqDiff] at c3840)
          refine ⟨_, _, rfl, tu_⟩
      · rw [if_neg c3839]
        (try simp (disch := (first | omega | (simp only [Int32.reduceToInt]; omega) | (simp (disch := first | omega | (simp only [Int32.reduceToInt]; omega)) only [tadd, tsub, mul6, neg1, Int32.reduceToInt]; omega))) only [neg1, mul6, g_s, g_l, tadd, tsub, inb_iff, Int32.lt_iff_toInt_lt, Int32.le_iff_toInt_le, i32_eq, b2i_0, Int32.reduceToInt, reduceIte, Nat.reduceEqDiff] at c3839)
        refine ⟨_, _, rfl, tu_⟩
    · rw [if_neg c3836]
      (try simp (disch := (first | omega | (simp only [Int32.reduceToInt]; omega) | (simp (disch := first | omega | (simp only [Int32.reduceToInt]; omega)) only [tadd, tsub, mul6, neg1, Int32.reduceToInt]; omega))) only [neg1, mul6, g_s, g_l, tadd, tsub, inb_iff, Int32.lt_iff_toInt_lt, Int32.le_iff_toInt_le, i32_eq, b2i_0, Int32.reduceToInt, reduceIte, Nat.reduceEqDiff] at c3836)
      refine ⟨_, _, rfl, tu_⟩
  · rw [if_neg c3833]
    (try simp (disch := (first | omega | (simp only [Int32.reduceToInt]; omega) | (simp (disch := first | omega | (simp only [Int32.reduceToInt]; omega)) only [tadd, tsub, mul6, neg1, Int32.reduceToInt]; omega))) only [neg1, mul6, g_s, g_l, tadd, tsub, inb_iff, Int32.lt_iff_toInt_lt, Int32.le_iff_toInt_le, i32_eq, b2i_0, Int32.reduceToInt, reduceIte, Nat.reduceEqDiff] at c3833)
    refine ⟨_, _, rfl, tu_⟩
set_option maxHeartbeats 1000000 in
theorem t_PF_ring_12 (o0 : Ob) (o1 : Ob) : ∀ (n : Nat) (x1 : Int32) (x2 : Int32) (x3 : Int32), (okPF o0) → (okText o1) → (0 ≤ x3.toInt) → (x3.toInt ≤ 60) → (60 - x3.toInt < (n : Int)) → ∃ (r : Int32), F_PF_ring_12 o0 o1 n x1 x2 x3 = some r ∧ (True) := by
  intro n
  induction n with
  | zero =>
    intro x1 x2 x3 g0 g1 g2 g3 g4
    obtain ⟨f3846, f3847⟩ := id g0
    obtain ⟨f3848, f3849, f3850, f3851, f3852, f3853, f3854, f3855, f3856⟩ := id g1
    exfalso
    (try simp (disch := (first | omega | (simp only [Int32.reduceToInt]; omega) | (simp (disch := first | omega | (simp only [Int32.reduceToInt]; omega)) only [tadd, tsub, mul6, neg1, Int32.reduceToInt]; omega))) only [neg1, mul6, g_s, g_l, tadd, tsub, inb_iff, Int32.lt_iff_toInt_lt, Int32.le_iff_toInt_le, i32_eq, b2i_0, Int32.reduceToInt, reduceIte, Nat.reduceEqDiff] at g4)
    exact ari_
  | succ n ih =>
    intro x1 x2 x3 g0 g1 g2 g3 g4
    obtain ⟨f3857, f3858⟩ := id g0
    obtain ⟨f3859, f3860, f3861, f3862, f3863, f3864, f3865, f3866, f3867⟩ := id g1
    rw [F_PF_ring_12]
    (try simp (disch := (first | omega | (simp only [Int32.reduceToInt]; omega) | (simp (disch := first | omega | (simp only [Int32.reduceToInt]; omega)) only [tadd, tsub, mul6, neg1, Int32.reduceToInt]; omega))) only [neg1, mul6, g_s, g_l, tadd, tsub, inb_iff, Int32.lt_iff_toInt_lt, Int32.le_iff_toInt_le, i32_eq, b2i_0, Int32.reduceToInt, reduceIte, Nat.reduceEqDiff] at g4)
    by_cases c3868 : (60 : Int32) ≤ x3
    · rw [if_pos c3868]
      (try simp (disch := (first | omega | (simp only [Int32.reduceToInt]; omega) | (simp (disch := first | omega | (simp only [Int32.reduceToInt]; omega)) only [tadd, tsub, mul6, neg1, Int32.reduceToInt]; omega))) only [neg1, mul6, g_s, g_l, tadd, tsub, inb_iff, Int32.lt_iff_toInt_lt, Int32.le_iff_toInt_le, i32_eq, b2i_0, Int32.reduceToInt, reduceIte, Nat.reduceEqDiff] at c3868)
      refine ⟨_, rfl, tu_⟩
    · rw [if_neg c3868]
      (try simp (disch := (first | omega | (simp only [Int32.reduceToInt]; omega) | (simp (disch := first | omega | (simp only [Int32.reduceToInt]; omega)) only [tadd, tsub, mul6, neg1, Int32.reduceToInt]; omega))) only [neg1, mul6, g_s, g_l, tadd, tsub, inb_iff, Int32.lt_iff_toInt_lt, Int32.le_iff_toInt_le, i32_eq, b2i_0, Int32.reduceToInt, reduceIte, Nat.reduceEqDiff] at c3868)
      obtain ⟨v11, e3870, p3869⟩ := t_Text_isRing x3 o1 (tu_) (tu_)
      rw [e3870, bind1_s]
      by_cases c3871 : (b2i v11) = 0
      · rw [if_pos c3871]
        have c3871 := b2i_0.mp c3871
        subst c3871
        obtain ⟨y3872, e3874, p3873⟩ := ih x1 x2 (x3 + (1 : Int32)) (ok2_) (ok9_) (tu_) (tu_) tu_
        refine ⟨y3872, e3874, tu_⟩
      · rw [if_neg c3871]
        have c3871 := b2i_1 c3871
        subst c3871
        by_cases c3875 : x2 = x1
        · rw [if_pos c3875]
          (try simp (disch := (first | omega | (simp only [Int32.reduceToInt]; omega) | (simp (disch := first | omega | (simp only [Int32.reduceToInt]; omega)) only [tadd, tsub, mul6, neg1, Int32.reduceToInt]; omega))) only [neg1, mul6, g_s, g_l, tadd, tsub, inb_iff, Int32.lt_iff_toInt_lt, Int32.le_iff_toInt_le, i32_eq, b2i_0, Int32.reduceToInt, reduceIte, Nat.reduceEqDiff] at c3875)
          refine ⟨_, rfl, tu_⟩
        · rw [if_neg c3875]
          (try simp (disch := (first | omega | (simp only [Int32.reduceToInt]; omega) | (simp (disch := first | omega | (simp only [Int32.reduceToInt]; omega)) only [tadd, tsub, mul6, neg1, Int32.reduceToInt]; omega))) only [neg1, mul6, g_s, g_l, tadd, tsub, inb_iff, Int32.lt_iff_toInt_lt, Int32.le_iff_toInt_le, i32_eq, b2i_0, Int32.reduceToInt, reduceIte, Nat.reduceEqDiff] at c3875)
          obtain ⟨y3876, e3878, p3877⟩ := ih x1 (x2 + (1 : Int32)) (x3 + (1 : Int32)) (ok2_) (ok9_) (tu_) (tu_) tu_
          refine ⟨y3876, e3878, tu_⟩
set_option maxHeartbeats 1000000 in
theorem t_PF_ring (x1 : Int32) (o0 : Ob) (o1 : Ob) (g0 : okPF o0) (g1 : okText o1) : ∃ (kx : Nat) (r : Int32), F_PF_ring x1 o0 o1 = some (kx, r) ∧ (kx = 0 ∨ kx = 1 ∨ kx = 2) := by
  obtain ⟨f3879, f3880⟩ := id g0
  obtain ⟨f3881, f3882, f3883, f3884, f3885, f3886, f3887, f3888, f3889⟩ := id g1
  rw [F_PF_ring]
  obtain ⟨k_2, u_3, e3891, p3890⟩ := t_PF_demandRead o0 (ok2_)
  rw [e3891, bind2_s]
  by_cases c3892 : k_2 = 0
  · rw [if_pos c3892]
    (try simp (disch := (first | omega | (simp only [Int32.reduceToInt]; omega) | (simp (disch := first | omega | (simp only [Int32.reduceToInt]; omega)) only [tadd, tsub, mul6, neg1, Int32.reduceToInt]; omega))) only [neg1, mul6, g_s, g_l, tadd, tsub, inb_iff, Int32.lt_iff_toInt_lt, Int32.le_iff_toInt_le, i32_eq, b2i_0, Int32.reduceToInt, reduceIte, Nat.reduceEqDiff] at c3892)
    obtain ⟨k_6, u_7, e3894, p3893⟩ := t_PF_demandNotNegative x1
    rw [e3894, bind2_s]
    by_cases c3895 : k_6 = 0
    · rw [if_pos c3895]
      (try simp (disch := (first | omega | (simp only [Int32.reduceToInt]; omega) | (simp (disch := first | omega | (simp only [Int32.reduceToInt]; omega)) only [tadd, tsub, mul6, neg1, Int32.reduceToInt]; omega))) only [neg1, mul6, g_s, g_l, tadd, tsub, inb_iff, Int32.lt_iff_toInt_lt, Int32.le_iff_toInt_le, i32_eq, b2i_0, Int32.reduceToInt, reduceIte, Nat.reduceEqDiff] at c3895)
      have q3896 : ∃ (r : Int32), (F_PF_ring_12 o0 o1 fuel x1 (0 : Int32) (0 : Int32)) = some r ∧ ((0 : Nat) = 0 ∨ (0 : Nat) = 1 ∨ (0 : Nat) = 2) := by
        obtain ⟨y3900, e3902, p3901⟩ := t_PF_ring_12 o0 o1 fuel x1 (0 : Int32) (0 : Int32) (ok2_) (ok9_) (tu_) (tu_) tu_
        refine ⟨y3900, e3902, tu_⟩
      obtain ⟨y3899, e3897, p3898⟩ := q3896
      exact ⟨0, y3899, by rw [e3897]; rfl, p3898⟩
    · rw [if_neg c3895]
      (try simp (disch := (first | omega | (simp only [Int32.reduceToInt]; omega) | (simp (disch := first | omega | (simp only [Int32.reduceToInt]; omega)) only [tadd, tsub, mul6, neg1, Int32.reduceToInt]; omega))) only [neg1, mul6, g_s, g_l, tadd, tsub, inb_iff, Int32.lt_iff_toInt_lt, Int32.le_iff_toInt_le, i32_eq, b2i_0, Int32.reduceToInt, reduceIte, Nat.reduceEqDiff] at c3895)
      refine ⟨_, _, rfl, tu_⟩
  · rw [if_neg c3892]
    (try simp (disch := (first | omega | (simp only [Int32.reduceToInt]; omega) | (simp (disch := first | omega | (simp only [Int32.reduceToInt]; omega)) only [tadd, tsub, mul6, neg1, Int32.reduceToInt]; omega))) only [neg1, mul6, g_s, g_l, tadd, tsub, inb_iff, Int32.lt_iff_toInt_lt, Int32.le_iff_toInt_le, i32_eq, b2i_0, Int32.reduceToInt, reduceIte, Nat.reduceEqDiff] at c3892)
    refine ⟨_, _, rfl, tu_⟩
set_option maxHeartbeats 1000000 in
theorem t_PF_condition (x1 : Int32) (x2 : Int32) (o0 : Ob) (o1 : Ob) (g0 : okPF o0) : ∃ (kx : Nat) (r : Int32), F_PF_condition x1 x2 o0 o1 = some (kx, r) ∧ (kx = 0 ∨ kx = 1 ∨ kx = 3) := by
  obtain ⟨f3903, f3904⟩ := id g0
  rw [F_PF_condition]
  obtain ⟨k_2, u_3, e3906, p3905⟩ := t_PF_demandWorkedOut o0 (ok2_)
  rw [e3906, bind2_s]
  by_cases c3907 : k_2 = 0
  · rw [if_pos c3907]
    (try simp (disch := (first | omega | (simp only [Int32.reduceToInt]; omega) | (simp (disch := first | omega | (simp only [Int32.reduceToInt]; omega)) only [tadd, tsub, mul6, neg1, Int32.reduceToInt]; omega))) only [neg1, mul6, g_s, g_l, tadd, tsub, inb_iff, Int32.lt_iff_toInt_lt, Int32.le_iff_toInt_le, i32_eq, b2i_0, Int32.reduceToInt, reduceIte, Nat.reduceEqDiff] at c3907)
    obtain ⟨k_7, v6, e3909, p3908⟩ := t_PF_cellNumber x1 x2
    rw [e3909, bind2_s]
    by_cases c3910 : k_7 = 0
    · rw [if_pos c3910]
      (try simp (disch := (first | omega | (simp only [Int32.reduceToInt]; omega) | (simp (disch := first | omega | (simp only [Int32.reduceToInt]; omega)) only [tadd, tsub, mul6, neg1, Int32.reduceToInt]; omega))) only [neg1, mul6, g_s, g_l, tadd, tsub, inb_iff, Int32.lt_iff_toInt_lt, Int32.le_iff_toInt_le, i32_eq, b2i_0, Int32.reduceToInt, reduceIte, Nat.reduceEqDiff] at c3910)
      have q3911 : ∃ (r : Int32), (chk (inb v6 60) (some (g32 o1 3 (Int32.toNatClampNeg v6)))) = some r ∧ ((0 : Nat) = 0 ∨ (0 : Nat) = 1 ∨ (0 : Nat) = 3) := by
        rw [show (inb v6 60) = true from inb_iff.mpr ⟨tu_, tu_⟩, chk_tr]
        refine ⟨_, rfl, tu_⟩
      obtain ⟨y3914, e3912, p3913⟩ := q3911
      exact ⟨0, y3914, by rw [e3912]; rfl, p3913⟩
    · rw [if_neg c3910]
      (try simp (disch := (first | omega | (simp only [Int32.reduceToInt]; omega) | (simp (disch := first | omega | (simp only [Int32.reduceToInt]; omega)) only [tadd, tsub, mul6, neg1, Int32.reduceToInt]; omega))) only [neg1, mul6, g_s, g_l, tadd, tsub, inb_iff, Int32.lt_iff_toInt_lt, Int32.le_iff_toInt_le, i32_eq, b2i_0, Int32.reduceToInt, reduceIte, Nat.reduceEqDiff] at c3910)
      refine ⟨_, _, rfl, tu_⟩
  · rw [if_neg c3907]
    (try simp (disch := (first | omega | (simp only [Int32.reduceToInt]; omega) | (simp (disch := first | omega | (simp only [Int32.reduceToInt]; omega)) only [tadd, tsub, mul6, neg1, Int32.reduceToInt]; omega))) only [neg1, mul6, g_s, g_l, tadd, tsub, inb_iff, Int32.lt_iff_toInt_lt, Int32.le_iff_toInt_le, i32_eq, b2i_0, Int32.reduceToInt, reduceIte, Nat.reduceEqDiff] at c3907)
    refine ⟨_, _, rfl, tu_⟩
set_option maxHeartbeats 1000000 in
theorem t_PF_line (x1 : Int32) (x2 : Int32) (o0 : Ob) (o1 : Ob) (g0 : okPF o0) (g1 : okText o1) : ∃ (kx : Nat) (r : Int32), F_PF_line x1 x2 o0 o1 = some (kx, r) ∧ (kx = 0 ∨ kx = 1 ∨ kx = 3) := by
  obtain ⟨f3915, f3916⟩ := id g0
  obtain ⟨f3917, f3918, f3919, f3920, f3921, f3922, f3923, f3924, f3925⟩ := id g1
  rw [F_PF_line]
  obtain ⟨k_2, u_3, e3927, p3926⟩ := t_PF_demandRead o0 (ok2_)
  rw [e3927, bind2_s]
  by_cases c3928 : k_2 = 0
  · rw [if_pos c3928]
    (try simp (disch := (first | omega | (simp only [Int32.reduceToInt]; omega) | (simp (disch := first | omega | (simp only [Int32.reduceToInt]; omega)) only [tadd, tsub, mul6, neg1, Int32.reduceToInt]; omega))) only [neg1, mul6, g_s, g_l, tadd, tsub, inb_iff, Int32.lt_iff_toInt_lt, Int32.le_iff_toInt_le, i32_eq, b2i_0, Int32.reduceToInt, reduceIte, Nat.reduceEqDiff] at c3928)
    obtain ⟨k_7, v6, e3930, p3929⟩ := t_PF_cellNumber x1 x2
    rw [e3930, bind2_s]
    by_cases c3931 : k_7 = 0
    · rw [if_pos c3931]
      (try simp (disch := (first | omega | (simp only [Int32.reduceToInt]; omega) | (simp (disch := first | omega | (simp only [Int32.reduceToInt]; omega)) only [tadd, tsub, mul6, neg1, Int32.reduceToInt]; omega))) only [neg1, mul6, g_s, g_l, tadd, tsub, inb_iff, Int32.lt_iff_toInt_lt, Int32.le_iff_toInt_le, i32_eq, b2i_0, Int32.reduceToInt, reduceIte, Nat.reduceEqDiff] at c3931)
      have q3932 : ∃ (r : Int32), (chk (inb v6 60) (some (g32 o1 7 (Int32.toNatClampNeg v6)))) = some r ∧ ((0 : Nat) = 0 ∨ (0 : Nat) = 1 ∨ (0 : Nat) = 3) := by
        rw [show (inb v6 60) = true from inb_iff.mpr ⟨tu_, tu_⟩, chk_tr]
        refine ⟨_, rfl, tu_⟩
      obtain ⟨y3935, e3933, p3934⟩ := q3932
      exact ⟨0, y3935, by rw [e3933]; rfl, p3934⟩
    · rw [if_neg c3931]
      (try simp (disch := (first | omega | (simp only [Int32.reduceToInt]; omega) | (simp (disch := first | omega | (simp only [Int32.reduceToInt]; omega)) only [tadd, tsub, mul6, neg1, Int32.reduceToInt]; omega))) only [neg1, mul6, g_s, g_l, tadd, tsub, inb_iff, Int32.lt_iff_toInt_lt, Int32.le_iff_toInt_le, i32_eq, b2i_0, Int32.reduceToInt, reduceIte, Nat.reduceEqDiff] at c3931)
      refine ⟨_, _, rfl, tu_⟩
  · rw [if_neg c3928]
    (try simp (disch := (first | omega | (simp only [Int32.reduceToInt]; omega) | (simp (disch := first | omega | (simp only [Int32.reduceToInt]; omega)) only [tadd, tsub, mul6, neg1, Int32.reduceToInt]; omega))) only [neg1, mul6, g_s, g_l, tadd, tsub, inb_iff, Int32.lt_iff_toInt_lt, Int32.le_iff_toInt_le, i32_eq, b2i_0, Int32.reduceToInt, reduceIte, Nat.reduceEqDiff] at c3928)
    refine ⟨_, _, rfl, tu_⟩
set_option maxHeartbeats 1000000 in
theorem t_PF_needs (x1 : Int32) (x2 : Int32) (o0 : Ob) (o1 : Ob) (g0 : okPF o0) (g1 : okText o1) : ∃ (kx : Nat) (r : Bool), F_PF_needs x1 x2 o0 o1 = some (kx, r) ∧ (kx = 0 ∨ kx = 1 ∨ kx = 3) := by
  obtain ⟨f3936, f3937⟩ := id g0
  obtain ⟨f3938, f3939, f3940, f3941, f3942, f3943, f3944, f3945, f3946⟩ := id g1
  rw [F_PF_needs]
  obtain ⟨k_2, u_3, e3948, p3947⟩ := t_PF_demandRead o0 (ok2_)
  rw [e3948, bind2_s]
  by_cases c3949 : k_2 = 0
  · rw [if_pos c3949]
    (try simp (disch := (first | omega | (simp only [Int32.reduceToInt]; omega) | (simp (disch := first | omega | (simp only [Int32.reduceToInt]; omega)) only [tadd, tsub, mul6, neg1, Int32.reduceToInt]; omega))) only [neg1, mul6, g_s, g_l, tadd, tsub, inb_iff, Int32.lt_iff_toInt_lt, Int32.le_iff_toInt_le, i32_eq, b2i_0, Int32.reduceToInt, reduceIte, Nat.reduceEqDiff] at c3949)
    obtain ⟨k_6, u_7, e3951, p3950⟩ := t_PF_demandIndex x1 (60 : Int32)
    rw [e3951, bind2_s]
    (try simp (disch := (first | omega | (simp only [Int32.reduceToInt]; omega) | (simp (disch := first | omega | (simp only [Int32.reduceToInt]; omega)) only [tadd, tsub, mul6, neg1, Int32.reduceToInt]; omega))) only [neg1, mul6, g_s, g_l, tadd, tsub, inb_iff, Int32.lt_iff_toInt_lt, Int32.le_iff_toInt_le, i32_eq, b2i_0, Int32.reduceToInt, reduceIte, Nat.reduceEqDiff] at p3950)
    by_cases c3952 : k_6 = 0
    · rw [if_pos c3952]
      (try simp (disch := (first | omega | (simp only [Int32.reduceToInt]; omega) | (simp (disch := first | omega | (simp only [Int32.reduceToInt]; omega)) only [tadd, tsub, mul6, neg1, Int32.reduceToInt]; omega))) only [neg1, mul6, g_s, g_l, tadd, tsub, inb_iff, Int32.lt_iff_toInt_lt, Int32.le_iff_toInt_le, i32_eq, b2i_0, Int32.reduceToInt, reduceIte, Nat.reduceEqDiff] at c3952)
      obtain ⟨k_10, u_11, e3954, p3953⟩ := t_PF_demandIndex x2 (60 : Int32)
      rw [e3954, bind2_s]
      (try simp (disch := (first | omega | (simp only [Int32.reduceToInt]; omega) | (simp (disch := first | omega | (simp only [Int32.reduceToInt]; omega)) only [tadd, tsub, mul6, neg1, Int32.reduceToInt]; omega))) only [neg1, mul6, g_s, g_l, tadd, tsub, inb_iff, Int32.lt_iff_toInt_lt, Int32.le_iff_toInt_le, i32_eq, b2i_0, Int32.reduceToInt, reduceIte, Nat.reduceEqDiff] at p3953)
      by_cases c3955 : k_10 = 0
      · rw [if_pos c3955]
        (try simp (disch := (first | omega | (simp only [Int32.reduceToInt]; omega) | (simp (disch := first | omega | (simp only [Int32.reduceToInt]; omega)) only [tadd, tsub, mul6, neg1, Int32.reduceToInt]; omega))) only [neg1, mul6, g_s, g_l, tadd, tsub, inb_iff, Int32.lt_iff_toInt_lt, Int32.le_iff_toInt_le, i32_eq, b2i_0, Int32.reduceToInt, reduceIte, Nat.reduceEqDiff] at c3955)
        have q3956 : ∃ (r : Bool), (bind1 (F_Text_reaches x1 x2 o1) (fun v14 => some v14)) = some r ∧ ((0 : Nat) = 0 ∨ (0 : Nat) = 1 ∨ (0 : Nat) = 3) := by
          obtain ⟨v14, e3961, p3960⟩ := t_Text_reaches x1 x2 o1 (tu_) (tu_)
          rw [e3961, bind1_s]
          refine ⟨_, rfl, tu_⟩
        obtain ⟨y3959, e3957, p3958⟩ := q3956
        exact ⟨0, y3959, by rw [e3957]; rfl, p3958⟩
      · rw [if_neg c3955]
        (try simp (disch := (first | omega | (simp only [Int32.reduceToInt]; omega) | (simp (disch := first | omega | (simp only [Int32.reduceToInt]; omega)) only [tadd, tsub, mul6, neg1, Int32.reduceToInt]; omega))) only [neg1, mul6, g_s, g_l, tadd, tsub, inb_iff, Int32.lt_iff_toInt_lt, Int32.le_iff_toInt_le, i32_eq, b2i_0, Int32.reduceToInt, reduceIte, Nat.reduceEqDiff] at c3955)
        refine ⟨_, _, rfl, tu_⟩
    · rw [if_neg c3952]
      (try simp (disch := (first | omega | (simp only [Int32.reduceToInt]; omega) | (simp (disch := first | omega | (simp only [Int32.reduceToInt]; omega)) only [tadd, tsub, mul6, neg1, Int32.reduceToInt]; omega))) only [neg1, mul6, g_s, g_l, tadd, tsub, inb_iff, Int32.lt_iff_toInt_lt, Int32.le_iff_toInt_le, i32_eq, b2i_0, Int32.reduceToInt, reduceIte, Nat.reduceEqDiff] at c3952)
      refine ⟨_, _, rfl, tu_⟩
  · rw [if_neg c3949]
    (try simp (disch := (first | omega | (simp only [Int32.reduceToInt]; omega) | (simp (disch := first | omega | (simp only [Int32.reduceToInt]; omega)) only [tadd, tsub, mul6, neg1, Int32.reduceToInt]; omega))) only [neg1, mul6, g_s, g_l, tadd, tsub, inb_iff, Int32.lt_iff_toInt_lt, Int32.le_iff_toInt_le, i32_eq, b2i_0, Int32.reduceToInt, reduceIte, Nat.reduceEqDiff] at c3949)
    refine ⟨_, _, rfl, tu_⟩
set_option maxHeartbeats 1000000 in
theorem t_PF_limit_17 (o0 : Ob) (o1 : Ob) (o3 : Ob) (o4 : Ob) : ∀ (n : Nat) (x1 : Int32) (x2 : Int32) (x3 : Int32) (x4 : Int32) (o2 : Ob), (okPF o0) → (okReckoner o2) → (okText o3) → (okSteps o4) → (0 ≤ x4.toInt) → (x4.toInt ≤ 24) → (24 - x4.toInt < (n : Int)) → ∃ (r : Int32) (n2 : Ob), F_PF_limit_17 o0 o1 o3 o4 n x1 x2 x3 x4 o2 = some (r, n2) ∧ (okReckoner n2) := by
  intro n
  induction n with
  | zero =>
    intro x1 x2 x3 x4 o2 g0 g1 g2 g3 g4 g5 g6
    obtain ⟨f3962, f3963⟩ := id g0
    obtain ⟨f3964, f3965⟩ := id g1
    obtain ⟨f3966, f3967, f3968, f3969, f3970, f3971, f3972, f3973, f3974⟩ := id g2
    obtain ⟨f3975, f3976, f3977, f3978, f3979, f3980⟩ := id g3
    exfalso
    (try simp (disch := (first | omega | (simp only [Int32.reduceToInt]; omega) | (simp (disch := first | omega | (simp only [Int32.reduceToInt]; omega)) only [tadd, tsub, mul6, neg1, Int32.reduceToInt]; omega))) only [neg1, mul6, g_s, g_l, tadd, tsub, inb_iff, Int32.lt_iff_toInt_lt, Int32.le_iff_toInt_le, i32_eq, b2i_0, Int32.reduceToInt, reduceIte, Nat.reduceEqDiff] at g6)
    exact ari_
  | succ n ih =>
    intro x1 x2 x3 x4 o2 g0 g1 g2 g3 g4 g5 g6
    obtain ⟨f3981, f3982⟩ := id g0
    obtain ⟨f3983, f3984⟩ := id g1
    obtain ⟨f3985, f3986, f3987, f3988, f3989, f3990, f3991, f3992, f3993⟩ := id g2
    obtain ⟨f3994, f3995, f3996, f3997, f3998, f3999⟩ := id g3
    rw [F_PF_limit_17]
    (try simp (disch := (first | omega | (simp only [Int32.reduceToInt]; omega) | (simp (disch := first | omega | (simp only [Int32.reduceToInt]; omega)) only [tadd, tsub, mul6, neg1, Int32.reduceToInt]; omega))) only [neg1, mul6, g_s, g_l, tadd, tsub, inb_iff, Int32.lt_iff_toInt_lt, Int32.le_iff_toInt_le, i32_eq, b2i_0, Int32.reduceToInt, reduceIte, Nat.reduceEqDiff] at g6)
    by_cases c4000 : (g32 o3 3 0) ≤ x4
    · rw [if_pos c4000]
      (try simp (disch := (first | omega | (simp only [Int32.reduceToInt]; omega) | (simp (disch := first | omega | (simp only [Int32.reduceToInt]; omega)) only [tadd, tsub, mul6, neg1, Int32.reduceToInt]; omega))) only [neg1, mul6, g_s, g_l, tadd, tsub, inb_iff, Int32.lt_iff_toInt_lt, Int32.le_iff_toInt_le, i32_eq, b2i_0, Int32.reduceToInt, reduceIte, Nat.reduceEqDiff] at c4000)
      refine ⟨_, _, rfl, ok2_⟩
    · rw [if_neg c4000]
      (try simp (disch := (first | omega | (simp only [Int32.reduceToInt]; omega) | (simp (disch := first | omega | (simp only [Int32.reduceToInt]; omega)) only [tadd, tsub, mul6, neg1, Int32.reduceToInt]; omega))) only [neg1, mul6, g_s, g_l, tadd, tsub, inb_iff, Int32.lt_iff_toInt_lt, Int32.le_iff_toInt_le, i32_eq, b2i_0, Int32.reduceToInt, reduceIte, Nat.reduceEqDiff] at c4000)
      obtain ⟨v15, o_16, e4002, p4001⟩ := t_Reckoner_whyBroken x4 o2 o3 o4 o1 (ok2_) (ok9_) (ok6_) (tu_) (tu_)
      rw [e4002, bind2_s]
      obtain ⟨f4003, f4004⟩ := id p4001
      by_cases c4005 : v15 = 0
      · rw [if_pos c4005]
        (try simp (disch := (first | omega | (simp only [Int32.reduceToInt]; omega) | (simp (disch := first | omega | (simp only [Int32.reduceToInt]; omega)) only [tadd, tsub, mul6, neg1, Int32.reduceToInt]; omega))) only [neg1, mul6, g_s, g_l, tadd, tsub, inb_iff, Int32.lt_iff_toInt_lt, Int32.le_iff_toInt_le, i32_eq, b2i_0, Int32.reduceToInt, reduceIte, Nat.reduceEqDiff] at c4005)
        obtain ⟨y4006, y4007, e4009, p4008⟩ := ih x1 x2 x3 (x4 + (1 : Int32)) o_16 (ok2_) (ok2_) (ok9_) (ok6_) (tu_) (tu_) tu_
        obtain ⟨f4010, f4011⟩ := id p4008
        refine ⟨y4006, y4007, e4009, ok2_⟩
      · rw [if_neg c4005]
        (try simp (disch := (first | omega | (simp only [Int32.reduceToInt]; omega) | (simp (disch := first | omega | (simp only [Int32.reduceToInt]; omega)) only [tadd, tsub, mul6, neg1, Int32.reduceToInt]; omega))) only [neg1, mul6, g_s, g_l, tadd, tsub, inb_iff, Int32.lt_iff_toInt_lt, Int32.le_iff_toInt_le, i32_eq, b2i_0, Int32.reduceToInt, reduceIte, Nat.reduceEqDiff] at c4005)
        by_cases c4012 : x3 = x1
        · rw [if_pos c4012]
          (try simp (disch := (first | omega | (simp only [Int32.reduceToInt]; omega) | (simp (disch := first | omega | (simp only [Int32.reduceToInt]; omega)) only [tadd, tsub, mul6, neg1, Int32.reduceToInt]; omega))) only [neg1, mul6, g_s, g_l, tadd, tsub, inb_iff, Int32.lt_iff_toInt_lt, Int32.le_iff_toInt_le, i32_eq, b2i_0, Int32.reduceToInt, reduceIte, Nat.reduceEqDiff] at c4012)
          by_cases c4013 : x2 = 0
          · rw [if_pos c4013]
            (try simp (disch := (first | omega | (simp only [Int32.reduceToInt]; omega) | (simp (disch := first | omega | (simp only [Int32.reduceToInt]; omega)) only [tadd, tsub, mul6, neg1, Int32.reduceToInt]; omega))) only [neg1, mul6, g_s, g_l, tadd, tsub, inb_iff, Int32.lt_iff_toInt_lt, Int32.le_iff_toInt_le, i32_eq, b2i_0, Int32.reduceToInt, reduceIte, Nat.reduceEqDiff] at c4013)
            refine ⟨_, _, rfl, ok2_⟩
          · rw [if_neg c4013]
            (try simp (disch := (first | omega | (simp only [Int32.reduceToInt]; omega) | (simp (disch := first | omega | (simp only [Int32.reduceToInt]; omega)) only [tadd, tsub, mul6, neg1, Int32.reduceToInt]; omega))) only [neg1, mul6, g_s, g_l, tadd, tsub, inb_iff, Int32.lt_iff_toInt_lt, Int32.le_iff_toInt_le, i32_eq, b2i_0, Int32.reduceToInt, reduceIte, Nat.reduceEqDiff] at c4013)
            refine ⟨_, _, rfl, ok2_⟩
        · rw [if_neg c4012]
          (try simp (disch := (first | omega | (simp only [Int32.reduceToInt]; omega) | (simp (disch := first | omega | (simp only [Int32.reduceToInt]; omega)) only [tadd, tsub, mul6, neg1, Int32.reduceToInt]; omega))) only [neg1, mul6, g_s, g_l, tadd, tsub, inb_iff, Int32.lt_iff_toInt_lt, Int32.le_iff_toInt_le, i32_eq, b2i_0, Int32.reduceToInt, reduceIte, Nat.reduceEqDiff] at c4012)
          obtain ⟨y4014, y4015, e4017, p4016⟩ := ih x1 x2 (x3 + (1 : Int32)) (x4 + (1 : Int32)) o_16 (ok2_) (ok2_) (ok9_) (ok6_) (tu_) (tu_) tu_
          obtain ⟨f4018, f4019⟩ := id p4016
          refine ⟨y4014, y4015, e4017, ok2_⟩
set_option maxHeartbeats 1000000 in
theorem t_PF_limit (x1 : Int32) (x2 : Int32) (o0 : Ob) (o1 : Ob) (o2 : Ob) (o3 : Ob) (o4 : Ob) (g0 : okPF o0) (g1 : okReckoner o2) (g2 : okText o3) (g3 : okSteps o4) : ∃ (kx : Nat) (r : Int32) (n2 : Ob), F_PF_limit x1 x2 o0 o1 o2 o3 o4 = some (kx, r, n2) ∧ (okReckoner n2) ∧ (kx = 0 ∨ kx = 1 ∨ kx = 2) := by
  obtain ⟨f4020, f4021⟩ := id g0
  obtain ⟨f4022, f4023⟩ := id g1
  obtain ⟨f4024, f4025, f4026, f4027, f4028, f4029, f4030, f4031, f4032⟩ := id g2
  obtain ⟨f4033, f4034, f4035, f4036, f4037, f4038⟩ := id g3
  rw [F_PF_limit]
  obtain ⟨k_2, u_3, e4040, p4039⟩ := t_PF_demandWorkedOut o0 (ok2_)
  rw [e4040, bind2_s]
  by_cases c4041 : k_2 = 0
  · rw [if_pos c4041]
    (try simp (disch := (first | omega | (simp only [Int32.reduceToInt]; omega) | (simp (disch := first | omega | (simp only [Int32.reduceToInt]; omega)) only [tadd, tsub, mul6, neg1, Int32.reduceToInt]; omega))) only [neg1, mul6, g_s, g_l, tadd, tsub, inb_iff, Int32.lt_iff_toInt_lt, Int32.le_iff_toInt_le, i32_eq, b2i_0, Int32.reduceToInt, reduceIte, Nat.reduceEqDiff] at c4041)
    obtain ⟨k_6, u_7, e4043, p4042⟩ := t_PF_demandNotNegative x1
    rw [e4043, bind2_s]
    by_cases c4044 : k_6 = 0
    · rw [if_pos c4044]
      (try simp (disch := (first | omega | (simp only [Int32.reduceToInt]; omega) | (simp (disch := first | omega | (simp only [Int32.reduceToInt]; omega)) only [tadd, tsub, mul6, neg1, Int32.reduceToInt]; omega))) only [neg1, mul6, g_s, g_l, tadd, tsub, inb_iff, Int32.lt_iff_toInt_lt, Int32.le_iff_toInt_le, i32_eq, b2i_0, Int32.reduceToInt, reduceIte, Nat.reduceEqDiff] at c4044)
      obtain ⟨k_10, u_11, e4046, p4045⟩ := t_PF_demandZeroOrOne x2
      rw [e4046, bind2_s]
      by_cases c4047 : k_10 = 0
      · rw [if_pos c4047]
        (try simp (disch := (first | omega | (simp only [Int32.reduceToInt]; omega) | (simp (disch := first | omega | (simp only [Int32.reduceToInt]; omega)) only [tadd, tsub, mul6, neg1, Int32.reduceToInt]; omega))) only [neg1, mul6, g_s, g_l, tadd, tsub, inb_iff, Int32.lt_iff_toInt_lt, Int32.le_iff_toInt_le, i32_eq, b2i_0, Int32.reduceToInt, reduceIte, Nat.reduceEqDiff] at c4047)
        have q4048 : ∃ (r : Int32) (n2 : Ob), (F_PF_limit_17 o0 o1 o3 o4 fuel x1 x2 (0 : Int32) (0 : Int32) o2) = some (r, n2) ∧ (okReckoner n2) ∧ ((0 : Nat) = 0 ∨ (0 : Nat) = 1 ∨ (0 : Nat) = 2) := by
          obtain ⟨y4054, y4055, e4057, p4056⟩ := t_PF_limit_17 o0 o1 o3 o4 fuel x1 x2 (0 : Int32) (0 : Int32) o2 (ok2_) (ok2_) (ok9_) (ok6_) (tu_) (tu_) tu_
          obtain ⟨f4058, f4059⟩ := id p4056
          refine ⟨y4054, y4055, e4057, ok2_, tu_⟩
        obtain ⟨y4052, y4053, e4049, p4050, p4051⟩ := q4048
        exact ⟨0, y4052, y4053, by rw [e4049]; rfl, p4050, p4051⟩
      · rw [if_neg c4047]
        (try simp (disch := (first | omega | (simp only [Int32.reduceToInt]; omega) | (simp (disch := first | omega | (simp only [Int32.reduceToInt]; omega)) only [tadd, tsub, mul6, neg1, Int32.reduceToInt]; omega))) only [neg1, mul6, g_s, g_l, tadd, tsub, inb_iff, Int32.lt_iff_toInt_lt, Int32.le_iff_toInt_le, i32_eq, b2i_0, Int32.reduceToInt, reduceIte, Nat.reduceEqDiff] at c4047)
        refine ⟨_, _, _, rfl, ok2_, tu_⟩
    · rw [if_neg c4044]
      (try simp (disch := (first | omega | (simp only [Int32.reduceToInt]; omega) | (simp (disch := first | omega | (simp only [Int32.reduceToInt]; omega)) only [tadd, tsub, mul6, neg1, Int32.reduceToInt]; omega))) only [neg1, mul6, g_s, g_l, tadd, tsub, inb_iff, Int32.lt_iff_toInt_lt, Int32.le_iff_toInt_le, i32_eq, b2i_0, Int32.reduceToInt, reduceIte, Nat.reduceEqDiff] at c4044)
      refine ⟨_, _, _, rfl, ok2_, tu_⟩
  · rw [if_neg c4041]
    (try simp (disch := (first | omega | (simp only [Int32.reduceToInt]; omega) | (simp (disch := first | omega | (simp only [Int32.reduceToInt]; omega)) only [tadd, tsub, mul6, neg1, Int32.reduceToInt]; omega))) only [neg1, mul6, g_s, g_l, tadd, tsub, inb_iff, Int32.lt_iff_toInt_lt, Int32.le_iff_toInt_le, i32_eq, b2i_0, Int32.reduceToInt, reduceIte, Nat.reduceEqDiff] at c4041)
    refine ⟨_, _, _, rfl, ok2_, tu_⟩
set_option maxHeartbeats 1000000 in
theorem t_PF_check_62 (o0 : Ob) (o1 : Ob) (o3 : Ob) (o5 : Ob) : ∀ (n : Nat) (x1 : Int32) (x2 : Int64) (x4 : Int64) (x6 : Int32) (x7 : Int32) (o2 : Ob) (o4 : Ob), (okPF o0) → (okReckoner o2) → (okText o3) → (okSteps o5) → (OC o3) → (x1.toInt ≤ 50) → (0 ≤ x7.toInt) → (x7.toInt ≤ 51) → (51 - x7.toInt < (n : Int)) → ∃ (r : Int32) (n2 : Ob) (n4 : Ob), F_PF_check_62 o0 o1 o3 o5 n x1 x2 x4 x6 x7 o2 o4 = some (r, n2, n4) ∧ (okReckoner n2) := by
  intro n
  induction n with
  | zero =>
    intro x1 x2 x4 x6 x7 o2 o4 g0 g1 g2 g3 g4 g5 g6 g7 g8
    obtain ⟨f4060, f4061⟩ := id g0
    obtain ⟨f4062, f4063⟩ := id g1
    obtain ⟨f4064, f4065, f4066, f4067, f4068, f4069, f4070, f4071, f4072⟩ := id g2
    obtain ⟨f4073, f4074, f4075, f4076, f4077, f4078⟩ := id g3
    exfalso
    (try simp (disch := (first | omega | (simp only [Int32.reduceToInt]; omega) | (simp (disch := first | omega | (simp only [Int32.reduceToInt]; omega)) only [tadd, tsub, mul6, neg1, Int32.reduceToInt]; omega))) only [neg1, mul6, g_s, g_l, tadd, tsub, inb_iff, Int32.lt_iff_toInt_lt, Int32.le_iff_toInt_le, i32_eq, b2i_0, Int32.reduceToInt, reduceIte, Nat.reduceEqDiff] at g8)
    exact ari_
  | succ n ih =>
    intro x1 x2 x4 x6 x7 o2 o4 g0 g1 g2 g3 g4 g5 g6 g7 g8
    obtain ⟨f4079, f4080⟩ := id g0
    obtain ⟨f4081, f4082⟩ := id g1
    obtain ⟨f4083, f4084, f4085, f4086, f4087, f4088, f4089, f4090, f4091⟩ := id g2
    obtain ⟨f4092, f4093, f4094, f4095, f4096, f4097⟩ := id g3
    rw [F_PF_check_62]
    (try simp (disch := (first | omega | (simp only [Int32.reduceToInt]; omega) | (simp (disch := first | omega | (simp only [Int32.reduceToInt]; omega)) only [tadd, tsub, mul6, neg1, Int32.reduceToInt]; omega))) only [neg1, mul6, g_s, g_l, tadd, tsub, inb_iff, Int32.lt_iff_toInt_lt, Int32.le_iff_toInt_le, i32_eq, b2i_0, Int32.reduceToInt, reduceIte, Nat.reduceEqDiff] at g8)
    by_cases c4098 : x1 < x7
    · rw [if_pos c4098]
      (try simp (disch := (first | omega | (simp only [Int32.reduceToInt]; omega) | (simp (disch := first | omega | (simp only [Int32.reduceToInt]; omega)) only [tadd, tsub, mul6, neg1, Int32.reduceToInt]; omega))) only [neg1, mul6, g_s, g_l, tadd, tsub, inb_iff, Int32.lt_iff_toInt_lt, Int32.le_iff_toInt_le, i32_eq, b2i_0, Int32.reduceToInt, reduceIte, Nat.reduceEqDiff] at c4098)
      rw [show (inb (0 : Int32) 8) = true from inb_iff.mpr ⟨tu_, tu_⟩, chk_tr]
      refine ⟨_, _, _, rfl, ok2_⟩
    · rw [if_neg c4098]
      (try simp (disch := (first | omega | (simp only [Int32.reduceToInt]; omega) | (simp (disch := first | omega | (simp only [Int32.reduceToInt]; omega)) only [tadd, tsub, mul6, neg1, Int32.reduceToInt]; omega))) only [neg1, mul6, g_s, g_l, tadd, tsub, inb_iff, Int32.lt_iff_toInt_lt, Int32.le_iff_toInt_le, i32_eq, b2i_0, Int32.reduceToInt, reduceIte, Nat.reduceEqDiff] at c4098)
      by_cases c4099 : x6 = (-1 : Int32)
      · rw [if_pos c4099]
        (try simp (disch := (first | omega | (simp only [Int32.reduceToInt]; omega) | (simp (disch := first | omega | (simp only [Int32.reduceToInt]; omega)) only [tadd, tsub, mul6, neg1, Int32.reduceToInt]; omega))) only [neg1, mul6, g_s, g_l, tadd, tsub, inb_iff, Int32.lt_iff_toInt_lt, Int32.le_iff_toInt_le, i32_eq, b2i_0, Int32.reduceToInt, reduceIte, Nat.reduceEqDiff] at c4099)
        by_cases c4100 : (lg_cmp (x2 + ((Int32.toInt64 x7) * x4)) (1000000000 : Int64)) ≤ 0
        · rw [if_pos c4100]
          (try simp (disch := (first | omega | (simp only [Int32.reduceToInt]; omega) | (simp (disch := first | omega | (simp only [Int32.reduceToInt]; omega)) only [tadd, tsub, mul6, neg1, Int32.reduceToInt]; omega))) only [neg1, mul6, g_s, g_l, tadd, tsub, inb_iff, Int32.lt_iff_toInt_lt, Int32.le_iff_toInt_le, i32_eq, b2i_0, Int32.reduceToInt, reduceIte, Nat.reduceEqDiff] at c4100)
          rw [show (inb (0 : Int32) 8) = true from inb_iff.mpr ⟨tu_, tu_⟩, chk_tr]
          obtain ⟨v18, o_19, o_20, e4102, p4101⟩ := t_Reckoner_workOutHanging (0 : Int32) (s64 o2 0 (Int32.toNatClampNeg (0 : Int32)) (x2 + ((Int32.toInt64 x7) * x4))) o3 o5 o4 (ok2_) (ok9_) (ok6_) (oc_)
          rw [e4102, bind3_s]
          obtain ⟨f4103, f4104⟩ := id p4101
          obtain ⟨v22, o_23, e4106, p4105⟩ := t_Reckoner_isAnyBroken o_19 o3 o5 o_20 (ok2_) (ok9_) (ok6_)
          rw [e4106, bind2_s]
          obtain ⟨f4107, f4108⟩ := id p4105
          by_cases c4109 : (b2i v22) = 0
          · rw [if_pos c4109]
            have c4109 := b2i_0.mp c4109
            subst c4109
            obtain ⟨y4110, y4111, y4112, e4114, p4113⟩ := ih x1 x2 x4 x6 (x7 + (1 : Int32)) o_23 o_20 (ok2_) (ok2_) (ok9_) (ok6_) (oc_) (tu_) (tu_) (tu_) tu_
            obtain ⟨f4115, f4116⟩ := id p4113
            refine ⟨y4110, y4111, y4112, e4114, ok2_⟩
          · rw [if_neg c4109]
            have c4109 := b2i_1 c4109
            subst c4109
            obtain ⟨y4117, y4118, y4119, e4121, p4120⟩ := ih x1 x2 x4 x7 (x7 + (1 : Int32)) o_23 o_20 (ok2_) (ok2_) (ok9_) (ok6_) (oc_) (tu_) (tu_) (tu_) tu_
            obtain ⟨f4122, f4123⟩ := id p4120
            refine ⟨y4117, y4118, y4119, e4121, ok2_⟩
        · rw [if_neg c4100]
          (try simp (disch := (first | omega | (simp only [Int32.reduceToInt]; omega) | (simp (disch := first | omega | (simp only [Int32.reduceToInt]; omega)) only [tadd, tsub, mul6, neg1, Int32.reduceToInt]; omega))) only [neg1, mul6, g_s, g_l, tadd, tsub, inb_iff, Int32.lt_iff_toInt_lt, Int32.le_iff_toInt_le, i32_eq, b2i_0, Int32.reduceToInt, reduceIte, Nat.reduceEqDiff] at c4100)
          rw [show (inb (0 : Int32) 8) = true from inb_iff.mpr ⟨tu_, tu_⟩, chk_tr]
          refine ⟨_, _, _, rfl, ok2_⟩
      · rw [if_neg c4099]
        (try simp (disch := (first | omega | (simp only [Int32.reduceToInt]; omega) | (simp (disch := first | omega | (simp only [Int32.reduceToInt]; omega)) only [tadd, tsub, mul6, neg1, Int32.reduceToInt]; omega))) only [neg1, mul6, g_s, g_l, tadd, tsub, inb_iff, Int32.lt_iff_toInt_lt, Int32.le_iff_toInt_le, i32_eq, b2i_0, Int32.reduceToInt, reduceIte, Nat.reduceEqDiff] at c4099)
        rw [show (inb (0 : Int32) 8) = true from inb_iff.mpr ⟨tu_, tu_⟩, chk_tr]
        refine ⟨_, _, _, rfl, ok2_⟩
set_option maxHeartbeats 1000000 in
theorem t_PF_check (x1 : Int32) (o0 : Ob) (o1 : Ob) (o2 : Ob) (o3 : Ob) (o4 : Ob) (o5 : Ob) (g0 : okPF o0) (g1 : okReckoner o2) (g2 : okText o3) (g3 : okSteps o5) (g4 : OC o3) : ∃ (kx : Nat) (r : Int32) (n2 : Ob) (n4 : Ob), F_PF_check x1 o0 o1 o2 o3 o4 o5 = some (kx, r, n2, n4) ∧ (okReckoner n2) ∧ (kx = 0 ∨ kx = 1 ∨ kx = 2) := by
  obtain ⟨f4124, f4125⟩ := id g0
  obtain ⟨f4126, f4127⟩ := id g1
  obtain ⟨f4128, f4129, f4130, f4131, f4132, f4133, f4134, f4135, f4136⟩ := id g2
  obtain ⟨f4137, f4138, f4139, f4140, f4141, f4142⟩ := id g3
  rw [F_PF_check]
  obtain ⟨k_2, u_3, e4144, p4143⟩ := t_PF_demandWorkedOut o0 (ok2_)
  rw [e4144, bind2_s]
  by_cases c4145 : k_2 = 0
  · rw [if_pos c4145]
    (try simp (disch := (first | omega | (simp only [Int32.reduceToInt]; omega) | (simp (disch := first | omega | (simp only [Int32.reduceToInt]; omega)) only [tadd, tsub, mul6, neg1, Int32.reduceToInt]; omega))) only [neg1, mul6, g_s, g_l, tadd, tsub, inb_iff, Int32.lt_iff_toInt_lt, Int32.le_iff_toInt_le, i32_eq, b2i_0, Int32.reduceToInt, reduceIte, Nat.reduceEqDiff] at c4145)
    by_cases c4146 : x1 < 0
    · rw [if_pos c4146]
      (try simp (disch := (first | omega | (simp only [Int32.reduceToInt]; omega) | (simp (disch := first | omega | (simp only [Int32.reduceToInt]; omega)) only [tadd, tsub, mul6, neg1, Int32.reduceToInt]; omega))) only [neg1, mul6, g_s, g_l, tadd, tsub, inb_iff, Int32.lt_iff_toInt_lt, Int32.le_iff_toInt_le, i32_eq, b2i_0, Int32.reduceToInt, reduceIte, Nat.reduceEqDiff] at c4146)
      refine ⟨_, _, _, _, rfl, ok2_, tu_⟩
    · rw [if_neg c4146]
      (try simp (disch := (first | omega | (simp only [Int32.reduceToInt]; omega) | (simp (disch := first | omega | (simp only [Int32.reduceToInt]; omega)) only [tadd, tsub, mul6, neg1, Int32.reduceToInt]; omega))) only [neg1, mul6, g_s, g_l, tadd, tsub, inb_iff, Int32.lt_iff_toInt_lt, Int32.le_iff_toInt_le, i32_eq, b2i_0, Int32.reduceToInt, reduceIte, Nat.reduceEqDiff] at c4146)
      by_cases c4147 : x1 ≤ (50 : Int32)
      · rw [if_pos c4147]
        (try simp (disch := (first | omega | (simp only [Int32.reduceToInt]; omega) | (simp (disch := first | omega | (simp only [Int32.reduceToInt]; omega)) only [tadd, tsub, mul6, neg1, Int32.reduceToInt]; omega))) only [neg1, mul6, g_s, g_l, tadd, tsub, inb_iff, Int32.lt_iff_toInt_lt, Int32.le_iff_toInt_le, i32_eq, b2i_0, Int32.reduceToInt, reduceIte, Nat.reduceEqDiff] at c4147)
        have q4148 : ∃ (r : Int32) (n2 : Ob) (n4 : Ob), (chk (inb (0 : Int32) 8) (bind1 (F_Cells_copyFrom o4 o1) (fun o_10 => F_PF_check_62 o0 o1 o3 o5 fuel x1 (g64 o2 0 (Int32.toNatClampNeg (0 : Int32))) (g64 o2 1 (Int32.toNatClampNeg (0 : Int32))) (-1 : Int32) (0 : Int32) o2 o_10))) = some (r, n2, n4) ∧ (okReckoner n2) ∧ ((0 : Nat) = 0 ∨ (0 : Nat) = 1 ∨ (0 : Nat) = 2) := by
          rw [show (inb (0 : Int32) 8) = true from inb_iff.mpr ⟨tu_, tu_⟩, chk_tr]
          obtain ⟨o_10, e4156, p4155⟩ := t_Cells_copyFrom o4 o1
          rw [e4156, bind1_s]
          obtain ⟨y4157, y4158, y4159, e4161, p4160⟩ := t_PF_check_62 o0 o1 o3 o5 fuel x1 (g64 o2 0 (Int32.toNatClampNeg (0 : Int32))) (g64 o2 1 (Int32.toNatClampNeg (0 : Int32))) (-1 : Int32) (0 : Int32) o2 o_10 (ok2_) (ok2_) (ok9_) (ok6_) (oc_) (tu_) (tu_) (tu_) tu_
          obtain ⟨f4162, f4163⟩ := id p4160
          refine ⟨y4157, y4158, y4159, e4161, ok2_, tu_⟩
        obtain ⟨y4152, y4153, y4154, e4149, p4150, p4151⟩ := q4148
        exact ⟨0, y4152, y4153, y4154, by rw [e4149]; rfl, p4150, p4151⟩
      · rw [if_neg c4147]
        (try simp (disch := (first | omega | (simp only [Int32.reduceToInt]; omega) | (simp (disch := first | omega | (simp only [Int32.reduceToInt]; omega)) only [tadd, tsub, mul6, neg1, Int32.reduceToInt]; omega))) only [neg1, mul6, g_s, g_l, tadd, tsub, inb_iff, Int32.lt_iff_toInt_lt, Int32.le_iff_toInt_le, i32_eq, b2i_0, Int32.reduceToInt, reduceIte, Nat.reduceEqDiff] at c4147)
        refine ⟨_, _, _, _, rfl, ok2_, tu_⟩
  · rw [if_neg c4145]
    (try simp (disch := (first | omega | (simp only [Int32.reduceToInt]; omega) | (simp (disch := first | omega | (simp only [Int32.reduceToInt]; omega)) only [tadd, tsub, mul6, neg1, Int32.reduceToInt]; omega))) only [neg1, mul6, g_s, g_l, tadd, tsub, inb_iff, Int32.lt_iff_toInt_lt, Int32.le_iff_toInt_le, i32_eq, b2i_0, Int32.reduceToInt, reduceIte, Nat.reduceEqDiff] at c4145)
    refine ⟨_, _, _, _, rfl, ok2_, tu_⟩
set_option maxHeartbeats 1000000 in
theorem t_PF_same_21 (o0 : Ob) (o1 : Ob) (o3 : Ob) (o5 : Ob) : ∀ (n : Nat) (x1 : Int32) (o2 : Ob) (o4 : Ob), (okPF o0) → (okReckoner o2) → (okText o3) → (okSteps o5) → (0 ≤ x1.toInt) → (x1.toInt ≤ 60) → (60 - x1.toInt < (n : Int)) → ∃ (r : Bool) (n2 : Ob) (n4 : Ob), F_PF_same_21 o0 o1 o3 o5 n x1 o2 o4 = some (r, n2, n4) ∧ (okReckoner n2) := by
  intro n
  induction n with
  | zero =>
    intro x1 o2 o4 g0 g1 g2 g3 g4 g5 g6
    obtain ⟨f4164, f4165⟩ := id g0
    obtain ⟨f4166, f4167⟩ := id g1
    obtain ⟨f4168, f4169, f4170, f4171, f4172, f4173, f4174, f4175, f4176⟩ := id g2
    obtain ⟨f4177, f4178, f4179, f4180, f4181, f4182⟩ := id g3
    exfalso
    (try simp (disch := (first | omega | (simp only [Int32.reduceToInt]; omega) | (simp (disch := first | omega | (simp only [Int32.reduceToInt]; omega)) only [tadd, tsub, mul6, neg1, Int32.reduceToInt]; omega))) only [neg1, mul6, g_s, g_l, tadd, tsub, inb_iff, Int32.lt_iff_toInt_lt, Int32.le_iff_toInt_le, i32_eq, b2i_0, Int32.reduceToInt, reduceIte, Nat.reduceEqDiff] at g6)
    exact ari_
  | succ n ih =>
    intro x1 o2 o4 g0 g1 g2 g3 g4 g5 g6
    obtain ⟨f4183, f4184⟩ := id g0
    obtain ⟨f4185, f4186⟩ := id g1
    obtain ⟨f4187, f4188, f4189, f4190, f4191, f4192, f4193, f4194, f4195⟩ := id g2
    obtain ⟨f4196, f4197, f4198, f4199, f4200, f4201⟩ := id g3
    rw [F_PF_same_21]
    (try simp (disch := (first | omega | (simp only [Int32.reduceToInt]; omega) | (simp (disch := first | omega | (simp only [Int32.reduceToInt]; omega)) only [tadd, tsub, mul6, neg1, Int32.reduceToInt]; omega))) only [neg1, mul6, g_s, g_l, tadd, tsub, inb_iff, Int32.lt_iff_toInt_lt, Int32.le_iff_toInt_le, i32_eq, b2i_0, Int32.reduceToInt, reduceIte, Nat.reduceEqDiff] at g6)
    by_cases c4202 : (60 : Int32) ≤ x1
    · rw [if_pos c4202]
      (try simp (disch := (first | omega | (simp only [Int32.reduceToInt]; omega) | (simp (disch := first | omega | (simp only [Int32.reduceToInt]; omega)) only [tadd, tsub, mul6, neg1, Int32.reduceToInt]; omega))) only [neg1, mul6, g_s, g_l, tadd, tsub, inb_iff, Int32.lt_iff_toInt_lt, Int32.le_iff_toInt_le, i32_eq, b2i_0, Int32.reduceToInt, reduceIte, Nat.reduceEqDiff] at c4202)
      refine ⟨_, _, _, rfl, ok2_⟩
    · rw [if_neg c4202]
      (try simp (disch := (first | omega | (simp only [Int32.reduceToInt]; omega) | (simp (disch := first | omega | (simp only [Int32.reduceToInt]; omega)) only [tadd, tsub, mul6, neg1, Int32.reduceToInt]; omega))) only [neg1, mul6, g_s, g_l, tadd, tsub, inb_iff, Int32.lt_iff_toInt_lt, Int32.le_iff_toInt_le, i32_eq, b2i_0, Int32.reduceToInt, reduceIte, Nat.reduceEqDiff] at c4202)
      obtain ⟨v10, e4204, p4203⟩ := t_Cells_isAsIn x1 o1 o4 (tu_) (tu_)
      rw [e4204, bind1_s]
      by_cases c4205 : (b2i v10) = 0
      · rw [if_pos c4205]
        have c4205 := b2i_0.mp c4205
        subst c4205
        refine ⟨_, _, _, rfl, ok2_⟩
      · rw [if_neg c4205]
        have c4205 := b2i_1 c4205
        subst c4205
        rw [show (inb x1 60) = true from inb_iff.mpr ⟨tu_, tu_⟩, chk_tr]
        by_cases c4206 : (g32 o1 3 (Int32.toNatClampNeg x1)) = (g32 o4 3 (Int32.toNatClampNeg x1))
        · rw [if_pos c4206]
          (try simp (disch := (first | omega | (simp only [Int32.reduceToInt]; omega) | (simp (disch := first | omega | (simp only [Int32.reduceToInt]; omega)) only [tadd, tsub, mul6, neg1, Int32.reduceToInt]; omega))) only [neg1, mul6, g_s, g_l, tadd, tsub, inb_iff, Int32.lt_iff_toInt_lt, Int32.le_iff_toInt_le, i32_eq, b2i_0, Int32.reduceToInt, reduceIte, Nat.reduceEqDiff] at c4206)
          obtain ⟨y4207, y4208, y4209, e4211, p4210⟩ := ih (x1 + (1 : Int32)) o2 o4 (ok2_) (ok2_) (ok9_) (ok6_) (tu_) (tu_) tu_
          obtain ⟨f4212, f4213⟩ := id p4210
          refine ⟨y4207, y4208, y4209, e4211, ok2_⟩
        · rw [if_neg c4206]
          (try simp (disch := (first | omega | (simp only [Int32.reduceToInt]; omega) | (simp (disch := first | omega | (simp only [Int32.reduceToInt]; omega)) only [tadd, tsub, mul6, neg1, Int32.reduceToInt]; omega))) only [neg1, mul6, g_s, g_l, tadd, tsub, inb_iff, Int32.lt_iff_toInt_lt, Int32.le_iff_toInt_le, i32_eq, b2i_0, Int32.reduceToInt, reduceIte, Nat.reduceEqDiff] at c4206)
          refine ⟨_, _, _, rfl, ok2_⟩
set_option maxHeartbeats 1000000 in
theorem t_PF_same (o0 : Ob) (o1 : Ob) (o2 : Ob) (o3 : Ob) (o4 : Ob) (o5 : Ob) (g0 : okPF o0) (g1 : okReckoner o2) (g2 : okText o3) (g3 : okSteps o5) (g4 : OC o3) : ∃ (kx : Nat) (r : Bool) (n2 : Ob) (n4 : Ob), F_PF_same o0 o1 o2 o3 o4 o5 = some (kx, r, n2, n4) ∧ (okReckoner n2) ∧ (kx = 0 ∨ kx = 1) := by
  obtain ⟨f4214, f4215⟩ := id g0
  obtain ⟨f4216, f4217⟩ := id g1
  obtain ⟨f4218, f4219, f4220, f4221, f4222, f4223, f4224, f4225, f4226⟩ := id g2
  obtain ⟨f4227, f4228, f4229, f4230, f4231, f4232⟩ := id g3
  rw [F_PF_same]
  obtain ⟨k_2, u_3, e4234, p4233⟩ := t_PF_demandWorkedOut o0 (ok2_)
  rw [e4234, bind2_s]
  by_cases c4235 : k_2 = 0
  · rw [if_pos c4235]
    (try simp (disch := (first | omega | (simp only [Int32.reduceToInt]; omega) | (simp (disch := first | omega | (simp only [Int32.reduceToInt]; omega)) only [tadd, tsub, mul6, neg1, Int32.reduceToInt]; omega))) only [neg1, mul6, g_s, g_l, tadd, tsub, inb_iff, Int32.lt_iff_toInt_lt, Int32.le_iff_toInt_le, i32_eq, b2i_0, Int32.reduceToInt, reduceIte, Nat.reduceEqDiff] at c4235)
    have q4236 : ∃ (r : Bool) (n2 : Ob) (n4 : Ob), (bind2 (F_Reckoner_workOutAll o2 o3 o5 o4) (fun o_6 o_7 => F_PF_same_21 o0 o1 o3 o5 fuel (0 : Int32) o_6 o_7)) = some (r, n2, n4) ∧ (okReckoner n2) ∧ ((0 : Nat) = 0 ∨ (0 : Nat) = 1) := by
      obtain ⟨o_6, o_7, e4244, p4243⟩ := t_Reckoner_workOutAll o2 o3 o5 o4 (ok2_) (ok9_) (ok6_) (oc_)
      rw [e4244, bind2_s]
      obtain ⟨f4245, f4246⟩ := id p4243
      obtain ⟨y4247, y4248, y4249, e4251, p4250⟩ := t_PF_same_21 o0 o1 o3 o5 fuel (0 : Int32) o_6 o_7 (ok2_) (ok2_) (ok9_) (ok6_) (tu_) (tu_) tu_
      obtain ⟨f4252, f4253⟩ := id p4250
      refine ⟨y4247, y4248, y4249, e4251, ok2_, tu_⟩
    obtain ⟨y4240, y4241, y4242, e4237, p4238, p4239⟩ := q4236
    exact ⟨0, y4240, y4241, y4242, by rw [e4237]; rfl, p4238, p4239⟩
  · rw [if_neg c4235]
    (try simp (disch := (first | omega | (simp only [Int32.reduceToInt]; omega) | (simp (disch := first | omega | (simp only [Int32.reduceToInt]; omega)) only [tadd, tsub, mul6, neg1, Int32.reduceToInt]; omega))) only [neg1, mul6, g_s, g_l, tadd, tsub, inb_iff, Int32.lt_iff_toInt_lt, Int32.le_iff_toInt_le, i32_eq, b2i_0, Int32.reduceToInt, reduceIte, Nat.reduceEqDiff] at c4235)
    refine ⟨_, _, _, _, rfl, ok2_, tu_⟩
set_option maxHeartbeats 1000000 in
theorem t_PF_version (o0 : Ob) (o1 : Ob) (o2 : Ob) (g0 : okPF o0) : ∃ (kx : Nat) (r : Int32) (n0 : Ob) (n2 : Ob), F_PF_version o0 o1 o2 = some (kx, r, n0, n2) ∧ (okPF n0) ∧ (kx = 0 ∨ kx = 1) := by
  obtain ⟨f4254, f4255⟩ := id g0
  rw [F_PF_version]
  obtain ⟨k_2, u_3, e4257, p4256⟩ := t_PF_demandWorkedOut o0 (ok2_)
  rw [e4257, bind2_s]
  by_cases c4258 : k_2 = 0
  · rw [if_pos c4258]
    (try simp (disch := (first | omega | (simp only [Int32.reduceToInt]; omega) | (simp (disch := first | omega | (simp only [Int32.reduceToInt]; omega)) only [tadd, tsub, mul6, neg1, Int32.reduceToInt]; omega))) only [neg1, mul6, g_s, g_l, tadd, tsub, inb_iff, Int32.lt_iff_toInt_lt, Int32.le_iff_toInt_le, i32_eq, b2i_0, Int32.reduceToInt, reduceIte, Nat.reduceEqDiff] at c4258)
    by_cases c4259 : (g32 o0 8 0) < (4 : Int32)
    · rw [if_pos c4259]
      (try simp (disch := (first | omega | (simp only [Int32.reduceToInt]; omega) | (simp (disch := first | omega | (simp only [Int32.reduceToInt]; omega)) only [tadd, tsub, mul6, neg1, Int32.reduceToInt]; omega))) only [neg1, mul6, g_s, g_l, tadd, tsub, inb_iff, Int32.lt_iff_toInt_lt, Int32.le_iff_toInt_le, i32_eq, b2i_0, Int32.reduceToInt, reduceIte, Nat.reduceEqDiff] at c4259)
      have q4260 : ∃ (r : Int32) (n0 : Ob) (n2 : Ob), (chk (inb (g32 o0 8 0) 4) (bind1 (F_Cells_copyFrom o2 o1) (fun o_8 => some ((((g32 o0 8 0) + (1 : Int32)) - (1 : Int32)), (s32 o0 8 0 ((g32 o0 8 0) + (1 : Int32))), o_8)))) = some (r, n0, n2) ∧ (okPF n0) ∧ ((0 : Nat) = 0 ∨ (0 : Nat) = 1) := by
        rw [show (inb (g32 o0 8 0) 4) = true from inb_iff.mpr ⟨tu_, tu_⟩, chk_tr]
        obtain ⟨o_8, e4268, p4267⟩ := t_Cells_copyFrom o2 o1
        rw [e4268, bind1_s]
        refine ⟨_, _, _, rfl, ok2_, tu_⟩
      obtain ⟨y4264, y4265, y4266, e4261, p4262, p4263⟩ := q4260
      exact ⟨0, y4264, y4265, y4266, by rw [e4261]; rfl, p4262, p4263⟩
    · rw [if_neg c4259]
      (try simp (disch := (first | omega | (simp only [Int32.reduceToInt]; omega) | (simp (disch := first | omega | (simp only [Int32.reduceToInt]; omega)) only [tadd, tsub, mul6, neg1, Int32.reduceToInt]; omega))) only [neg1, mul6, g_s, g_l, tadd, tsub, inb_iff, Int32.lt_iff_toInt_lt, Int32.le_iff_toInt_le, i32_eq, b2i_0, Int32.reduceToInt, reduceIte, Nat.reduceEqDiff] at c4259)
      refine ⟨_, _, _, _, rfl, ok2_, tu_⟩
  · rw [if_neg c4258]
    (try simp (disch := (first | omega | (simp only [Int32.reduceToInt]; omega) | (simp (disch := first | omega | (simp only [Int32.reduceToInt]; omega)) only [tadd, tsub, mul6, neg1, Int32.reduceToInt]; omega))) only [neg1, mul6, g_s, g_l, tadd, tsub, inb_iff, Int32.lt_iff_toInt_lt, Int32.le_iff_toInt_le, i32_eq, b2i_0, Int32.reduceToInt, reduceIte, Nat.reduceEqDiff] at c4258)
    refine ⟨_, _, _, _, rfl, ok2_, tu_⟩
set_option maxHeartbeats 1000000 in
theorem t_PF_differs_21 (o0 : Ob) (o1 : Ob) (o2 : Ob) : ∀ (n : Nat) (x1 : Int32) (x2 : Int32) (x3 : Int32) (x4 : Int32), (okPF o0) → (0 ≤ x1.toInt) → (x1.toInt < 4) → (0 ≤ x4.toInt) → (x4.toInt ≤ 60) → (60 - x4.toInt < (n : Int)) → ∃ (r : Int32), F_PF_differs_21 o0 o1 o2 n x1 x2 x3 x4 = some r ∧ (True) := by
  intro n
  induction n with
  | zero =>
    intro x1 x2 x3 x4 g0 g1 g2 g3 g4 g5
    obtain ⟨f4269, f4270⟩ := id g0
    exfalso
    (try simp (disch := (first | omega | (simp only [Int32.reduceToInt]; omega) | (simp (disch := first | omega | (simp only [Int32.reduceToInt]; omega)) only [tadd, tsub, mul6, neg1, Int32.reduceToInt]; omega))) only [neg1, mul6, g_s, g_l, tadd, tsub, inb_iff, Int32.lt_iff_toInt_lt, Int32.le_iff_toInt_le, i32_eq, b2i_0, Int32.reduceToInt, reduceIte, Nat.reduceEqDiff] at g5)
    exact ari_
  | succ n ih =>
    intro x1 x2 x3 x4 g0 g1 g2 g3 g4 g5
    obtain ⟨f4271, f4272⟩ := id g0
    rw [F_PF_differs_21]
    (try simp (disch := (first | omega | (simp only [Int32.reduceToInt]; omega) | (simp (disch := first | omega | (simp only [Int32.reduceToInt]; omega)) only [tadd, tsub, mul6, neg1, Int32.reduceToInt]; omega))) only [neg1, mul6, g_s, g_l, tadd, tsub, inb_iff, Int32.lt_iff_toInt_lt, Int32.le_iff_toInt_le, i32_eq, b2i_0, Int32.reduceToInt, reduceIte, Nat.reduceEqDiff] at g5)
    by_cases c4273 : (60 : Int32) ≤ x4
    · rw [if_pos c4273]
      (try simp (disch := (first | omega | (simp only [Int32.reduceToInt]; omega) | (simp (disch := first | omega | (simp only [Int32.reduceToInt]; omega)) only [tadd, tsub, mul6, neg1, Int32.reduceToInt]; omega))) only [neg1, mul6, g_s, g_l, tadd, tsub, inb_iff, Int32.lt_iff_toInt_lt, Int32.le_iff_toInt_le, i32_eq, b2i_0, Int32.reduceToInt, reduceIte, Nat.reduceEqDiff] at c4273)
      refine ⟨_, rfl, tu_⟩
    · rw [if_neg c4273]
      (try simp (disch := (first | omega | (simp only [Int32.reduceToInt]; omega) | (simp (disch := first | omega | (simp only [Int32.reduceToInt]; omega)) only [tadd, tsub, mul6, neg1, Int32.reduceToInt]; omega))) only [neg1, mul6, g_s, g_l, tadd, tsub, inb_iff, Int32.lt_iff_toInt_lt, Int32.le_iff_toInt_le, i32_eq, b2i_0, Int32.reduceToInt, reduceIte, Nat.reduceEqDiff] at c4273)
      rw [show (inb x1 4) = true from inb_iff.mpr ⟨tu_, tu_⟩, chk_tr]
      obtain ⟨v16, e4275, p4274⟩ := t_Cells_isAsIn x4 o1 o2 (tu_) (tu_)
      rw [e4275, bind1_s]
      by_cases c4276 : (b2i v16) = 0
      · rw [if_pos c4276]
        have c4276 := b2i_0.mp c4276
        subst c4276
        by_cases c4277 : x3 = x2
        · rw [if_pos c4277]
          (try simp (disch := (first | omega | (simp only [Int32.reduceToInt]; omega) | (simp (disch := first | omega | (simp only [Int32.reduceToInt]; omega)) only [tadd, tsub, mul6, neg1, Int32.reduceToInt]; omega))) only [neg1, mul6, g_s, g_l, tadd, tsub, inb_iff, Int32.lt_iff_toInt_lt, Int32.le_iff_toInt_le, i32_eq, b2i_0, Int32.reduceToInt, reduceIte, Nat.reduceEqDiff] at c4277)
          refine ⟨_, rfl, tu_⟩
        · rw [if_neg c4277]
          (try simp (disch := (first | omega | (simp only [Int32.reduceToInt]; omega) | (simp (disch := first | omega | (simp only [Int32.reduceToInt]; omega)) only [tadd, tsub, mul6, neg1, Int32.reduceToInt]; omega))) only [neg1, mul6, g_s, g_l, tadd, tsub, inb_iff, Int32.lt_iff_toInt_lt, Int32.le_iff_toInt_le, i32_eq, b2i_0, Int32.reduceToInt, reduceIte, Nat.reduceEqDiff] at c4277)
          obtain ⟨y4278, e4280, p4279⟩ := ih x1 x2 (x3 + (1 : Int32)) (x4 + (1 : Int32)) (ok2_) (tu_) (tu_) (tu_) (tu_) tu_
          refine ⟨y4278, e4280, tu_⟩
      · rw [if_neg c4276]
        have c4276 := b2i_1 c4276
        subst c4276
        obtain ⟨y4281, e4283, p4282⟩ := ih x1 x2 x3 (x4 + (1 : Int32)) (ok2_) (tu_) (tu_) (tu_) (tu_) tu_
        refine ⟨y4281, e4283, tu_⟩
set_option maxHeartbeats 1000000 in
theorem t_PF_differs (x1 : Int32) (x2 : Int32) (o0 : Ob) (o1 : Ob) (o2 : Ob) (g0 : okPF o0) : ∃ (kx : Nat) (r : Int32), F_PF_differs x1 x2 o0 o1 o2 = some (kx, r) ∧ (kx = 0 ∨ kx = 1 ∨ kx = 2 ∨ kx = 3) := by
  obtain ⟨f4284, f4285⟩ := id g0
  rw [F_PF_differs]
  obtain ⟨k_2, u_3, e4287, p4286⟩ := t_PF_demandWorkedOut o0 (ok2_)
  rw [e4287, bind2_s]
  by_cases c4288 : k_2 = 0
  · rw [if_pos c4288]
    (try simp (disch := (first | omega | (simp only [Int32.reduceToInt]; omega) | (simp (disch := first | omega | (simp only [Int32.reduceToInt]; omega)) only [tadd, tsub, mul6, neg1, Int32.reduceToInt]; omega))) only [neg1, mul6, g_s, g_l, tadd, tsub, inb_iff, Int32.lt_iff_toInt_lt, Int32.le_iff_toInt_le, i32_eq, b2i_0, Int32.reduceToInt, reduceIte, Nat.reduceEqDiff] at c4288)
    obtain ⟨k_6, u_7, e4290, p4289⟩ := t_PF_demandIndex x1 (g32 o0 8 0)
    rw [e4290, bind2_s]
    by_cases c4291 : k_6 = 0
    · rw [if_pos c4291]
      (try simp (disch := (first | omega | (simp only [Int32.reduceToInt]; omega) | (simp (disch := first | omega | (simp only [Int32.reduceToInt]; omega)) only [tadd, tsub, mul6, neg1, Int32.reduceToInt]; omega))) only [neg1, mul6, g_s, g_l, tadd, tsub, inb_iff, Int32.lt_iff_toInt_lt, Int32.le_iff_toInt_le, i32_eq, b2i_0, Int32.reduceToInt, reduceIte, Nat.reduceEqDiff] at c4291)
      obtain ⟨k_10, u_11, e4293, p4292⟩ := t_PF_demandNotNegative x2
      rw [e4293, bind2_s]
      by_cases c4294 : k_10 = 0
      · rw [if_pos c4294]
        (try simp (disch := (first | omega | (simp only [Int32.reduceToInt]; omega) | (simp (disch := first | omega | (simp only [Int32.reduceToInt]; omega)) only [tadd, tsub, mul6, neg1, Int32.reduceToInt]; omega))) only [neg1, mul6, g_s, g_l, tadd, tsub, inb_iff, Int32.lt_iff_toInt_lt, Int32.le_iff_toInt_le, i32_eq, b2i_0, Int32.reduceToInt, reduceIte, Nat.reduceEqDiff] at c4294)
        have q4295 : ∃ (r : Int32), (F_PF_differs_21 o0 o1 o2 fuel x1 x2 (0 : Int32) (0 : Int32)) = some r ∧ ((0 : Nat) = 0 ∨ (0 : Nat) = 1 ∨ (0 : Nat) = 2 ∨ (0 : Nat) = 3) := by
          obtain ⟨y4299, e4301, p4300⟩ := t_PF_differs_21 o0 o1 o2 fuel x1 x2 (0 : Int32) (0 : Int32) (ok2_) (tu_) (tu_) (tu_) (tu_) tu_
          refine ⟨y4299, e4301, tu_⟩
        obtain ⟨y4298, e4296, p4297⟩ := q4295
        exact ⟨0, y4298, by rw [e4296]; rfl, p4297⟩
      · rw [if_neg c4294]
        (try simp (disch := (first | omega | (simp only [Int32.reduceToInt]; omega) | (simp (disch := first | omega | (simp only [Int32.reduceToInt]; omega)) only [tadd, tsub, mul6, neg1, Int32.reduceToInt]; omega))) only [neg1, mul6, g_s, g_l, tadd, tsub, inb_iff, Int32.lt_iff_toInt_lt, Int32.le_iff_toInt_le, i32_eq, b2i_0, Int32.reduceToInt, reduceIte, Nat.reduceEqDiff] at c4294)
        refine ⟨_, _, rfl, tu_⟩
    · rw [if_neg c4291]
      (try simp (disch := (first | omega | (simp only [Int32.reduceToInt]; omega) | (simp (disch := first | omega | (simp only [Int32.reduceToInt]; omega)) only [tadd, tsub, mul6, neg1, Int32.reduceToInt]; omega))) only [neg1, mul6, g_s, g_l, tadd, tsub, inb_iff, Int32.lt_iff_toInt_lt, Int32.le_iff_toInt_le, i32_eq, b2i_0, Int32.reduceToInt, reduceIte, Nat.reduceEqDiff] at c4291)
      refine ⟨_, _, rfl, tu_⟩
  · rw [if_neg c4288]
    (try simp (disch := (first | omega | (simp only [Int32.reduceToInt]; omega) | (simp (disch := first | omega | (simp only [Int32.reduceToInt]; omega)) only [tadd, tsub, mul6, neg1, Int32.reduceToInt]; omega))) only [neg1, mul6, g_s, g_l, tadd, tsub, inb_iff, Int32.lt_iff_toInt_lt, Int32.le_iff_toInt_le, i32_eq, b2i_0, Int32.reduceToInt, reduceIte, Nat.reduceEqDiff] at c4288)
    refine ⟨_, _, rfl, tu_⟩
set_option maxHeartbeats 1000000 in
theorem t_Law_write (x1 : Int32) (o0 : Ob) (o1 : Ob) (o2 : Ob) (g0 : okPF o0) (g1 : okText o1) : ∃ (r : Int32) (n2 : Ob), F_Law_write x1 o0 o1 o2 = some (r, n2) ∧ (True) := by
  obtain ⟨f4302, f4303⟩ := id g0
  obtain ⟨f4304, f4305, f4306, f4307, f4308, f4309, f4310, f4311, f4312⟩ := id g1
  rw [F_Law_write]
  obtain ⟨k_3, v2, e4314, p4313⟩ := t_PF_write x1 o0 o1 (ok2_) (ok9_)
  rw [e4314, bind2_s]
  by_cases c4315 : k_3 = 0
  · rw [if_pos c4315]
    (try simp (disch := (first | omega | (simp only [Int32.reduceToInt]; omega) | (simp (disch := first | omega | (simp only [Int32.reduceToInt]; omega)) only [tadd, tsub, mul6, neg1, Int32.reduceToInt]; omega))) only [neg1, mul6, g_s, g_l, tadd, tsub, inb_iff, Int32.lt_iff_toInt_lt, Int32.le_iff_toInt_le, i32_eq, b2i_0, Int32.reduceToInt, reduceIte, Nat.reduceEqDiff] at c4315)
    rw [show (inb (0 : Int32) 1) = true from inb_iff.mpr ⟨tu_, tu_⟩, chk_tr]
    refine ⟨_, _, rfl, tu_⟩
  · rw [if_neg c4315]
    (try simp (disch := (first | omega | (simp only [Int32.reduceToInt]; omega) | (simp (disch := first | omega | (simp only [Int32.reduceToInt]; omega)) only [tadd, tsub, mul6, neg1, Int32.reduceToInt]; omega))) only [neg1, mul6, g_s, g_l, tadd, tsub, inb_iff, Int32.lt_iff_toInt_lt, Int32.le_iff_toInt_le, i32_eq, b2i_0, Int32.reduceToInt, reduceIte, Nat.reduceEqDiff] at c4315)
    by_cases c4316 : k_3 = 1
    · rw [if_pos c4316]
      (try simp (disch := (first | omega | (simp only [Int32.reduceToInt]; omega) | (simp (disch := first | omega | (simp only [Int32.reduceToInt]; omega)) only [tadd, tsub, mul6, neg1, Int32.reduceToInt]; omega))) only [neg1, mul6, g_s, g_l, tadd, tsub, inb_iff, Int32.lt_iff_toInt_lt, Int32.le_iff_toInt_le, i32_eq, b2i_0, Int32.reduceToInt, reduceIte, Nat.reduceEqDiff] at c4316)
      refine ⟨_, _, rfl, tu_⟩
    · rw [if_neg c4316]
      (try simp (disch := (first | omega | (simp only [Int32.reduceToInt]; omega) | (simp (disch := first | omega | (simp only [Int32.reduceToInt]; omega)) only [tadd, tsub, mul6, neg1, Int32.reduceToInt]; omega))) only [neg1, mul6, g_s, g_l, tadd, tsub, inb_iff, Int32.lt_iff_toInt_lt, Int32.le_iff_toInt_le, i32_eq, b2i_0, Int32.reduceToInt, reduceIte, Nat.reduceEqDiff] at c4316)
      by_cases c4317 : k_3 = 2
      · rw [if_pos c4317]
        (try simp (disch := (first | omega | (simp only [Int32.reduceToInt]; omega) | (simp (disch := first | omega | (simp only [Int32.reduceToInt]; omega)) only [tadd, tsub, mul6, neg1, Int32.reduceToInt]; omega))) only [neg1, mul6, g_s, g_l, tadd, tsub, inb_iff, Int32.lt_iff_toInt_lt, Int32.le_iff_toInt_le, i32_eq, b2i_0, Int32.reduceToInt, reduceIte, Nat.reduceEqDiff] at c4317)
        refine ⟨_, _, rfl, tu_⟩
      · rw [if_neg c4317]
        (try simp (disch := (first | omega | (simp only [Int32.reduceToInt]; omega) | (simp (disch := first | omega | (simp only [Int32.reduceToInt]; omega)) only [tadd, tsub, mul6, neg1, Int32.reduceToInt]; omega))) only [neg1, mul6, g_s, g_l, tadd, tsub, inb_iff, Int32.lt_iff_toInt_lt, Int32.le_iff_toInt_le, i32_eq, b2i_0, Int32.reduceToInt, reduceIte, Nat.reduceEqDiff] at c4317)
        exfalso
        exact tu_
set_option maxHeartbeats 1000000 in
theorem t_Law_set (x1 : Int32) (x2 : Int64) (x4 : Int64) (o0 : Ob) (o1 : Ob) (o2 : Ob) (o3 : Ob) (o4 : Ob) (o5 : Ob) (g0 : okPF o0) (g1 : okReckoner o2) (g2 : okText o3) (g3 : okSteps o4) (g4 : OC o3) : ∃ (r : Int32) (n0 : Ob) (n1 : Ob) (n2 : Ob) (n5 : Ob), F_Law_set x1 x2 x4 o0 o1 o2 o3 o4 o5 = some (r, n0, n1, n2, n5) ∧ (okPF n0) ∧ (okReckoner n2) := by
  obtain ⟨f4318, f4319⟩ := id g0
  obtain ⟨f4320, f4321⟩ := id g1
  obtain ⟨f4322, f4323, f4324, f4325, f4326, f4327, f4328, f4329, f4330⟩ := id g2
  obtain ⟨f4331, f4332, f4333, f4334, f4335, f4336⟩ := id g3
  rw [F_Law_set]
  obtain ⟨k_6, v2, o_3, o_4, o_5, e4340, p4337, p4338, p4339⟩ := t_PF_set x1 x2 x4 o0 o1 o2 o3 o4 (ok2_) (ok2_) (ok9_) (ok6_) (oc_)
  rw [e4340, bind5_s]
  obtain ⟨f4341, f4342⟩ := id p4337
  obtain ⟨f4343, f4344⟩ := id p4338
  by_cases c4345 : k_6 = 0
  · rw [if_pos c4345]
    (try simp (disch := (first | omega | (simp only [Int32.reduceToInt]; omega) | (simp (disch := first | omega | (simp only [Int32.reduceToInt]; omega)) only [tadd, tsub, mul6, neg1, Int32.reduceToInt]; omega))) only [neg1, mul6, g_s, g_l, tadd, tsub, inb_iff, Int32.lt_iff_toInt_lt, Int32.le_iff_toInt_le, i32_eq, b2i_0, Int32.reduceToInt, reduceIte, Nat.reduceEqDiff] at c4345)
    by_cases c4346 : (b2i v2) = 0
    · rw [if_pos c4346]
      have c4346 := b2i_0.mp c4346
      subst c4346
      rw [show (inb (0 : Int32) 1) = true from inb_iff.mpr ⟨tu_, tu_⟩, chk_tr]
      refine ⟨_, _, _, _, _, rfl, ok2_, ok2_⟩
    · rw [if_neg c4346]
      have c4346 := b2i_1 c4346
      subst c4346
      rw [show (inb (0 : Int32) 1) = true from inb_iff.mpr ⟨tu_, tu_⟩, chk_tr]
      refine ⟨_, _, _, _, _, rfl, ok2_, ok2_⟩
  · rw [if_neg c4345]
    (try simp (disch := (first | omega | (simp only [Int32.reduceToInt]; omega) | (simp (disch := first | omega | (simp only [Int32.reduceToInt]; omega)) only [tadd, tsub, mul6, neg1, Int32.reduceToInt]; omega))) only [neg1, mul6, g_s, g_l, tadd, tsub, inb_iff, Int32.lt_iff_toInt_lt, Int32.le_iff_toInt_le, i32_eq, b2i_0, Int32.reduceToInt, reduceIte, Nat.reduceEqDiff] at c4345)
    by_cases c4347 : k_6 = 3
    · rw [if_pos c4347]
      (try simp (disch := (first | omega | (simp only [Int32.reduceToInt]; omega) | (simp (disch := first | omega | (simp only [Int32.reduceToInt]; omega)) only [tadd, tsub, mul6, neg1, Int32.reduceToInt]; omega))) only [neg1, mul6, g_s, g_l, tadd, tsub, inb_iff, Int32.lt_iff_toInt_lt, Int32.le_iff_toInt_le, i32_eq, b2i_0, Int32.reduceToInt, reduceIte, Nat.reduceEqDiff] at c4347)
      refine ⟨_, _, _, _, _, rfl, ok2_, ok2_⟩
    · rw [if_neg c4347]
      (try simp (disch := (first | omega | (simp only [Int32.reduceToInt]; omega) | (simp (disch := first | omega | (simp only [Int32.reduceToInt]; omega)) only [tadd, tsub, mul6, neg1, Int32.reduceToInt]; omega))) only [neg1, mul6, g_s, g_l, tadd, tsub, inb_iff, Int32.lt_iff_toInt_lt, Int32.le_iff_toInt_le, i32_eq, b2i_0, Int32.reduceToInt, reduceIte, Nat.reduceEqDiff] at c4347)
      by_cases c4348 : k_6 = 2
      · rw [if_pos c4348]
        (try simp (disch := (first | omega | (simp only [Int32.reduceToInt]; omega) | (simp (disch := first | omega | (simp only [Int32.reduceToInt]; omega)) only [tadd, tsub, mul6, neg1, Int32.reduceToInt]; omega))) only [neg1, mul6, g_s, g_l, tadd, tsub, inb_iff, Int32.lt_iff_toInt_lt, Int32.le_iff_toInt_le, i32_eq, b2i_0, Int32.reduceToInt, reduceIte, Nat.reduceEqDiff] at c4348)
        refine ⟨_, _, _, _, _, rfl, ok2_, ok2_⟩
      · rw [if_neg c4348]
        (try simp (disch := (first | omega | (simp only [Int32.reduceToInt]; omega) | (simp (disch := first | omega | (simp only [Int32.reduceToInt]; omega)) only [tadd, tsub, mul6, neg1, Int32.reduceToInt]; omega))) only [neg1, mul6, g_s, g_l, tadd, tsub, inb_iff, Int32.lt_iff_toInt_lt, Int32.le_iff_toInt_le, i32_eq, b2i_0, Int32.reduceToInt, reduceIte, Nat.reduceEqDiff] at c4348)
        exfalso
        exact tu_
set_option maxHeartbeats 1000000 in
theorem t_Law_run (o0 : Ob) (o1 : Ob) (o2 : Ob) (o3 : Ob) (o4 : Ob) (o5 : Ob) (g0 : okPF o0) (g1 : okReckoner o2) (g2 : okText o3) (g3 : okSteps o4) (g4 : OC o3) : ∃ (r : Int32) (n0 : Ob) (n1 : Ob) (n2 : Ob) (n5 : Ob), F_Law_run o0 o1 o2 o3 o4 o5 = some (r, n0, n1, n2, n5) ∧ (okPF n0) ∧ (okReckoner n2) := by
  obtain ⟨f4349, f4350⟩ := id g0
  obtain ⟨f4351, f4352⟩ := id g1
  obtain ⟨f4353, f4354, f4355, f4356, f4357, f4358, f4359, f4360, f4361⟩ := id g2
  obtain ⟨f4362, f4363, f4364, f4365, f4366, f4367⟩ := id g3
  rw [F_Law_run]
  obtain ⟨k_6, v2, o_3, o_4, o_5, e4371, p4368, p4369, p4370⟩ := t_PF_run o0 o1 o2 o3 o4 (ok2_) (ok2_) (ok9_) (ok6_) (oc_)
  rw [e4371, bind5_s]
  obtain ⟨f4372, f4373⟩ := id p4368
  obtain ⟨f4374, f4375⟩ := id p4369
  by_cases c4376 : k_6 = 0
  · rw [if_pos c4376]
    (try simp (disch := (first | omega | (simp only [Int32.reduceToInt]; omega) | (simp (disch := first | omega | (simp only [Int32.reduceToInt]; omega)) only [tadd, tsub, mul6, neg1, Int32.reduceToInt]; omega))) only [neg1, mul6, g_s, g_l, tadd, tsub, inb_iff, Int32.lt_iff_toInt_lt, Int32.le_iff_toInt_le, i32_eq, b2i_0, Int32.reduceToInt, reduceIte, Nat.reduceEqDiff] at c4376)
    rw [show (inb (0 : Int32) 1) = true from inb_iff.mpr ⟨tu_, tu_⟩, chk_tr]
    refine ⟨_, _, _, _, _, rfl, ok2_, ok2_⟩
  · rw [if_neg c4376]
    (try simp (disch := (first | omega | (simp only [Int32.reduceToInt]; omega) | (simp (disch := first | omega | (simp only [Int32.reduceToInt]; omega)) only [tadd, tsub, mul6, neg1, Int32.reduceToInt]; omega))) only [neg1, mul6, g_s, g_l, tadd, tsub, inb_iff, Int32.lt_iff_toInt_lt, Int32.le_iff_toInt_le, i32_eq, b2i_0, Int32.reduceToInt, reduceIte, Nat.reduceEqDiff] at c4376)
    by_cases c4377 : k_6 = 1
    · rw [if_pos c4377]
      (try simp (disch := (first | omega | (simp only [Int32.reduceToInt]; omega) | (simp (disch := first | omega | (simp only [Int32.reduceToInt]; omega)) only [tadd, tsub, mul6, neg1, Int32.reduceToInt]; omega))) only [neg1, mul6, g_s, g_l, tadd, tsub, inb_iff, Int32.lt_iff_toInt_lt, Int32.le_iff_toInt_le, i32_eq, b2i_0, Int32.reduceToInt, reduceIte, Nat.reduceEqDiff] at c4377)
      refine ⟨_, _, _, _, _, rfl, ok2_, ok2_⟩
    · rw [if_neg c4377]
      (try simp (disch := (first | omega | (simp only [Int32.reduceToInt]; omega) | (simp (disch := first | omega | (simp only [Int32.reduceToInt]; omega)) only [tadd, tsub, mul6, neg1, Int32.reduceToInt]; omega))) only [neg1, mul6, g_s, g_l, tadd, tsub, inb_iff, Int32.lt_iff_toInt_lt, Int32.le_iff_toInt_le, i32_eq, b2i_0, Int32.reduceToInt, reduceIte, Nat.reduceEqDiff] at c4377)
      exfalso
      exact tu_
set_option maxHeartbeats 1000000 in
theorem t_Law_state (x1 : Int32) (x2 : Int32) (o0 : Ob) (o1 : Ob) (o2 : Ob) (g0 : okPF o0) : ∃ (r : Int32) (n2 : Ob), F_Law_state x1 x2 o0 o1 o2 = some (r, n2) ∧ (True) := by
  obtain ⟨f4378, f4379⟩ := id g0
  rw [F_Law_state]
  obtain ⟨k_3, v2, e4381, p4380⟩ := t_PF_state x1 x2 o0 o1 (ok2_)
  rw [e4381, bind2_s]
  by_cases c4382 : k_3 = 0
  · rw [if_pos c4382]
    (try simp (disch := (first | omega | (simp only [Int32.reduceToInt]; omega) | (simp (disch := first | omega | (simp only [Int32.reduceToInt]; omega)) only [tadd, tsub, mul6, neg1, Int32.reduceToInt]; omega))) only [neg1, mul6, g_s, g_l, tadd, tsub, inb_iff, Int32.lt_iff_toInt_lt, Int32.le_iff_toInt_le, i32_eq, b2i_0, Int32.reduceToInt, reduceIte, Nat.reduceEqDiff] at c4382)
    rw [show (inb (0 : Int32) 1) = true from inb_iff.mpr ⟨tu_, tu_⟩, chk_tr]
    refine ⟨_, _, rfl, tu_⟩
  · rw [if_neg c4382]
    (try simp (disch := (first | omega | (simp only [Int32.reduceToInt]; omega) | (simp (disch := first | omega | (simp only [Int32.reduceToInt]; omega)) only [tadd, tsub, mul6, neg1, Int32.reduceToInt]; omega))) only [neg1, mul6, g_s, g_l, tadd, tsub, inb_iff, Int32.lt_iff_toInt_lt, Int32.le_iff_toInt_le, i32_eq, b2i_0, Int32.reduceToInt, reduceIte, Nat.reduceEqDiff] at c4382)
    by_cases c4383 : k_3 = 1
    · rw [if_pos c4383]
      (try simp (disch := (first | omega | (simp only [Int32.reduceToInt]; omega) | (simp (disch := first | omega | (simp only [Int32.reduceToInt]; omega)) only [tadd, tsub, mul6, neg1, Int32.reduceToInt]; omega))) only [neg1, mul6, g_s, g_l, tadd, tsub, inb_iff, Int32.lt_iff_toInt_lt, Int32.le_iff_toInt_le, i32_eq, b2i_0, Int32.reduceToInt, reduceIte, Nat.reduceEqDiff] at c4383)
      refine ⟨_, _, rfl, tu_⟩
    · rw [if_neg c4383]
      (try simp (disch := (first | omega | (simp only [Int32.reduceToInt]; omega) | (simp (disch := first | omega | (simp only [Int32.reduceToInt]; omega)) only [tadd, tsub, mul6, neg1, Int32.reduceToInt]; omega))) only [neg1, mul6, g_s, g_l, tadd, tsub, inb_iff, Int32.lt_iff_toInt_lt, Int32.le_iff_toInt_le, i32_eq, b2i_0, Int32.reduceToInt, reduceIte, Nat.reduceEqDiff] at c4383)
      by_cases c4384 : k_3 = 3
      · rw [if_pos c4384]
        (try simp (disch := (first | omega | (simp only [Int32.reduceToInt]; omega) | (simp (disch := first | omega | (simp only [Int32.reduceToInt]; omega)) only [tadd, tsub, mul6, neg1, Int32.reduceToInt]; omega))) only [neg1, mul6, g_s, g_l, tadd, tsub, inb_iff, Int32.lt_iff_toInt_lt, Int32.le_iff_toInt_le, i32_eq, b2i_0, Int32.reduceToInt, reduceIte, Nat.reduceEqDiff] at c4384)
        refine ⟨_, _, rfl, tu_⟩
      · rw [if_neg c4384]
        (try simp (disch := (first | omega | (simp only [Int32.reduceToInt]; omega) | (simp (disch := first | omega | (simp only [Int32.reduceToInt]; omega)) only [tadd, tsub, mul6, neg1, Int32.reduceToInt]; omega))) only [neg1, mul6, g_s, g_l, tadd, tsub, inb_iff, Int32.lt_iff_toInt_lt, Int32.le_iff_toInt_le, i32_eq, b2i_0, Int32.reduceToInt, reduceIte, Nat.reduceEqDiff] at c4384)
        exfalso
        exact tu_
set_option maxHeartbeats 1000000 in
theorem t_Law_size (x1 : Int32) (x2 : Int32) (x3 : Int32) (o0 : Ob) (o1 : Ob) (o2 : Ob) (g0 : okPF o0) : ∃ (r : Int32) (n2 : Ob), F_Law_size x1 x2 x3 o0 o1 o2 = some (r, n2) ∧ (True) := by
  obtain ⟨f4385, f4386⟩ := id g0
  rw [F_Law_size]
  obtain ⟨k_3, v2, e4388, p4387⟩ := t_PF_size x1 x2 x3 o0 o1 (ok2_)
  rw [e4388, bind2_s]
  by_cases c4389 : k_3 = 0
  · rw [if_pos c4389]
    (try simp (disch := (first | omega | (simp only [Int32.reduceToInt]; omega) | (simp (disch := first | omega | (simp only [Int32.reduceToInt]; omega)) only [tadd, tsub, mul6, neg1, Int32.reduceToInt]; omega))) only [neg1, mul6, g_s, g_l, tadd, tsub, inb_iff, Int32.lt_iff_toInt_lt, Int32.le_iff_toInt_le, i32_eq, b2i_0, Int32.reduceToInt, reduceIte, Nat.reduceEqDiff] at c4389)
    rw [show (inb (0 : Int32) 1) = true from inb_iff.mpr ⟨tu_, tu_⟩, chk_tr]
    refine ⟨_, _, rfl, tu_⟩
  · rw [if_neg c4389]
    (try simp (disch := (first | omega | (simp only [Int32.reduceToInt]; omega) | (simp (disch := first | omega | (simp only [Int32.reduceToInt]; omega)) only [tadd, tsub, mul6, neg1, Int32.reduceToInt]; omega))) only [neg1, mul6, g_s, g_l, tadd, tsub, inb_iff, Int32.lt_iff_toInt_lt, Int32.le_iff_toInt_le, i32_eq, b2i_0, Int32.reduceToInt, reduceIte, Nat.reduceEqDiff] at c4389)
    by_cases c4390 : k_3 = 3
    · rw [if_pos c4390]
      (try simp (disch := (first | omega | (simp only [Int32.reduceToInt]; omega) | (simp (disch := first | omega | (simp only [Int32.reduceToInt]; omega)) only [tadd, tsub, mul6, neg1, Int32.reduceToInt]; omega))) only [neg1, mul6, g_s, g_l, tadd, tsub, inb_iff, Int32.lt_iff_toInt_lt, Int32.le_iff_toInt_le, i32_eq, b2i_0, Int32.reduceToInt, reduceIte, Nat.reduceEqDiff] at c4390)
      refine ⟨_, _, rfl, tu_⟩
    · rw [if_neg c4390]
      (try simp (disch := (first | omega | (simp only [Int32.reduceToInt]; omega) | (simp (disch := first | omega | (simp only [Int32.reduceToInt]; omega)) only [tadd, tsub, mul6, neg1, Int32.reduceToInt]; omega))) only [neg1, mul6, g_s, g_l, tadd, tsub, inb_iff, Int32.lt_iff_toInt_lt, Int32.le_iff_toInt_le, i32_eq, b2i_0, Int32.reduceToInt, reduceIte, Nat.reduceEqDiff] at c4390)
      by_cases c4391 : k_3 = 2
      · rw [if_pos c4391]
        (try simp (disch := (first | omega | (simp only [Int32.reduceToInt]; omega) | (simp (disch := first | omega | (simp only [Int32.reduceToInt]; omega)) only [tadd, tsub, mul6, neg1, Int32.reduceToInt]; omega))) only [neg1, mul6, g_s, g_l, tadd, tsub, inb_iff, Int32.lt_iff_toInt_lt, Int32.le_iff_toInt_le, i32_eq, b2i_0, Int32.reduceToInt, reduceIte, Nat.reduceEqDiff] at c4391)
        refine ⟨_, _, rfl, tu_⟩
      · rw [if_neg c4391]
        (try simp (disch := (first | omega | (simp only [Int32.reduceToInt]; omega) | (simp (disch := first | omega | (simp only [Int32.reduceToInt]; omega)) only [tadd, tsub, mul6, neg1, Int32.reduceToInt]; omega))) only [neg1, mul6, g_s, g_l, tadd, tsub, inb_iff, Int32.lt_iff_toInt_lt, Int32.le_iff_toInt_le, i32_eq, b2i_0, Int32.reduceToInt, reduceIte, Nat.reduceEqDiff] at c4391)
        by_cases c4392 : k_3 = 1
        · rw [if_pos c4392]
          (try simp (disch := (first | omega | (simp only [Int32.reduceToInt]; omega) | (simp (disch := first | omega | (simp only [Int32.reduceToInt]; omega)) only [tadd, tsub, mul6, neg1, Int32.reduceToInt]; omega))) only [neg1, mul6, g_s, g_l, tadd, tsub, inb_iff, Int32.lt_iff_toInt_lt, Int32.le_iff_toInt_le, i32_eq, b2i_0, Int32.reduceToInt, reduceIte, Nat.reduceEqDiff] at c4392)
          refine ⟨_, _, rfl, tu_⟩
        · rw [if_neg c4392]
          (try simp (disch := (first | omega | (simp only [Int32.reduceToInt]; omega) | (simp (disch := first | omega | (simp only [Int32.reduceToInt]; omega)) only [tadd, tsub, mul6, neg1, Int32.reduceToInt]; omega))) only [neg1, mul6, g_s, g_l, tadd, tsub, inb_iff, Int32.lt_iff_toInt_lt, Int32.le_iff_toInt_le, i32_eq, b2i_0, Int32.reduceToInt, reduceIte, Nat.reduceEqDiff] at c4392)
          exfalso
          exact tu_
set_option maxHeartbeats 1000000 in
theorem t_Law_ring (x1 : Int32) (o0 : Ob) (o1 : Ob) (o2 : Ob) (g0 : okPF o0) (g1 : okText o1) : ∃ (r : Int32) (n2 : Ob), F_Law_ring x1 o0 o1 o2 = some (r, n2) ∧ (True) := by
  obtain ⟨f4393, f4394⟩ := id g0
  obtain ⟨f4395, f4396, f4397, f4398, f4399, f4400, f4401, f4402, f4403⟩ := id g1
  rw [F_Law_ring]
  obtain ⟨k_3, v2, e4405, p4404⟩ := t_PF_ring x1 o0 o1 (ok2_) (ok9_)
  rw [e4405, bind2_s]
  by_cases c4406 : k_3 = 0
  · rw [if_pos c4406]
    (try simp (disch := (first | omega | (simp only [Int32.reduceToInt]; omega) | (simp (disch := first | omega | (simp only [Int32.reduceToInt]; omega)) only [tadd, tsub, mul6, neg1, Int32.reduceToInt]; omega))) only [neg1, mul6, g_s, g_l, tadd, tsub, inb_iff, Int32.lt_iff_toInt_lt, Int32.le_iff_toInt_le, i32_eq, b2i_0, Int32.reduceToInt, reduceIte, Nat.reduceEqDiff] at c4406)
    rw [show (inb (0 : Int32) 1) = true from inb_iff.mpr ⟨tu_, tu_⟩, chk_tr]
    refine ⟨_, _, rfl, tu_⟩
  · rw [if_neg c4406]
    (try simp (disch := (first | omega | (simp only [Int32.reduceToInt]; omega) | (simp (disch := first | omega | (simp only [Int32.reduceToInt]; omega)) only [tadd, tsub, mul6, neg1, Int32.reduceToInt]; omega))) only [neg1, mul6, g_s, g_l, tadd, tsub, inb_iff, Int32.lt_iff_toInt_lt, Int32.le_iff_toInt_le, i32_eq, b2i_0, Int32.reduceToInt, reduceIte, Nat.reduceEqDiff] at c4406)
    by_cases c4407 : k_3 = 1
    · rw [if_pos c4407]
      (try simp (disch := (first | omega | (simp only [Int32.reduceToInt]; omega) | (simp (disch := first | omega | (simp only [Int32.reduceToInt]; omega)) only [tadd, tsub, mul6, neg1, Int32.reduceToInt]; omega))) only [neg1, mul6, g_s, g_l, tadd, tsub, inb_iff, Int32.lt_iff_toInt_lt, Int32.le_iff_toInt_le, i32_eq, b2i_0, Int32.reduceToInt, reduceIte, Nat.reduceEqDiff] at c4407)
      refine ⟨_, _, rfl, tu_⟩
    · rw [if_neg c4407]
      (try simp (disch := (first | omega | (simp only [Int32.reduceToInt]; omega) | (simp (disch := first | omega | (simp only [Int32.reduceToInt]; omega)) only [tadd, tsub, mul6, neg1, Int32.reduceToInt]; omega))) only [neg1, mul6, g_s, g_l, tadd, tsub, inb_iff, Int32.lt_iff_toInt_lt, Int32.le_iff_toInt_le, i32_eq, b2i_0, Int32.reduceToInt, reduceIte, Nat.reduceEqDiff] at c4407)
      by_cases c4408 : k_3 = 2
      · rw [if_pos c4408]
        (try simp (disch := (first | omega | (simp only [Int32.reduceToInt]; omega) | (simp (disch := first | omega | (simp only [Int32.reduceToInt]; omega)) only [tadd, tsub, mul6, neg1, Int32.reduceToInt]; omega))) only [neg1, mul6, g_s, g_l, tadd, tsub, inb_iff, Int32.lt_iff_toInt_lt, Int32.le_iff_toInt_le, i32_eq, b2i_0, Int32.reduceToInt, reduceIte, Nat.reduceEqDiff] at c4408)
        refine ⟨_, _, rfl, tu_⟩
      · rw [if_neg c4408]
        (try simp (disch := (first | omega | (simp only [Int32.reduceToInt]; omega) | (simp (disch := first | omega | (simp only [Int32.reduceToInt]; omega)) only [tadd, tsub, mul6, neg1, Int32.reduceToInt]; omega))) only [neg1, mul6, g_s, g_l, tadd, tsub, inb_iff, Int32.lt_iff_toInt_lt, Int32.le_iff_toInt_le, i32_eq, b2i_0, Int32.reduceToInt, reduceIte, Nat.reduceEqDiff] at c4408)
        exfalso
        exact tu_
set_option maxHeartbeats 1000000 in
theorem t_Law_condition (x1 : Int32) (x2 : Int32) (o0 : Ob) (o1 : Ob) (o2 : Ob) (g0 : okPF o0) : ∃ (r : Int32) (n2 : Ob), F_Law_condition x1 x2 o0 o1 o2 = some (r, n2) ∧ (True) := by
  obtain ⟨f4409, f4410⟩ := id g0
  rw [F_Law_condition]
  obtain ⟨k_3, v2, e4412, p4411⟩ := t_PF_condition x1 x2 o0 o1 (ok2_)
  rw [e4412, bind2_s]
  by_cases c4413 : k_3 = 0
  · rw [if_pos c4413]
    (try simp (disch := (first | omega | (simp only [Int32.reduceToInt]; omega) | (simp (disch := first | omega | (simp only [Int32.reduceToInt]; omega)) only [tadd, tsub, mul6, neg1, Int32.reduceToInt]; omega))) only [neg1, mul6, g_s, g_l, tadd, tsub, inb_iff, Int32.lt_iff_toInt_lt, Int32.le_iff_toInt_le, i32_eq, b2i_0, Int32.reduceToInt, reduceIte, Nat.reduceEqDiff] at c4413)
    rw [show (inb (0 : Int32) 1) = true from inb_iff.mpr ⟨tu_, tu_⟩, chk_tr]
    refine ⟨_, _, rfl, tu_⟩
  · rw [if_neg c4413]
    (try simp (disch := (first | omega | (simp only [Int32.reduceToInt]; omega) | (simp (disch := first | omega | (simp only [Int32.reduceToInt]; omega)) only [tadd, tsub, mul6, neg1, Int32.reduceToInt]; omega))) only [neg1, mul6, g_s, g_l, tadd, tsub, inb_iff, Int32.lt_iff_toInt_lt, Int32.le_iff_toInt_le, i32_eq, b2i_0, Int32.reduceToInt, reduceIte, Nat.reduceEqDiff] at c4413)
    by_cases c4414 : k_3 = 1
    · rw [if_pos c4414]
      (try simp (disch := (first | omega | (simp only [Int32.reduceToInt]; omega) | (simp (disch := first | omega | (simp only [Int32.reduceToInt]; omega)) only [tadd, tsub, mul6, neg1, Int32.reduceToInt]; omega))) only [neg1, mul6, g_s, g_l, tadd, tsub, inb_iff, Int32.lt_iff_toInt_lt, Int32.le_iff_toInt_le, i32_eq, b2i_0, Int32.reduceToInt, reduceIte, Nat.reduceEqDiff] at c4414)
      refine ⟨_, _, rfl, tu_⟩
    · rw [if_neg c4414]
      (try simp (disch := (first | omega | (simp only [Int32.reduceToInt]; omega) | (simp (disch := first | omega | (simp only [Int32.reduceToInt]; omega)) only [tadd, tsub, mul6, neg1, Int32.reduceToInt]; omega))) only [neg1, mul6, g_s, g_l, tadd, tsub, inb_iff, Int32.lt_iff_toInt_lt, Int32.le_iff_toInt_le, i32_eq, b2i_0, Int32.reduceToInt, reduceIte, Nat.reduceEqDiff] at c4414)
      by_cases c4415 : k_3 = 3
      · rw [if_pos c4415]
        (try simp (disch := (first | omega | (simp only [Int32.reduceToInt]; omega) | (simp (disch := first | omega | (simp only [Int32.reduceToInt]; omega)) only [tadd, tsub, mul6, neg1, Int32.reduceToInt]; omega))) only [neg1, mul6, g_s, g_l, tadd, tsub, inb_iff, Int32.lt_iff_toInt_lt, Int32.le_iff_toInt_le, i32_eq, b2i_0, Int32.reduceToInt, reduceIte, Nat.reduceEqDiff] at c4415)
        refine ⟨_, _, rfl, tu_⟩
      · rw [if_neg c4415]
        (try simp (disch := (first | omega | (simp only [Int32.reduceToInt]; omega) | (simp (disch := first | omega | (simp only [Int32.reduceToInt]; omega)) only [tadd, tsub, mul6, neg1, Int32.reduceToInt]; omega))) only [neg1, mul6, g_s, g_l, tadd, tsub, inb_iff, Int32.lt_iff_toInt_lt, Int32.le_iff_toInt_le, i32_eq, b2i_0, Int32.reduceToInt, reduceIte, Nat.reduceEqDiff] at c4415)
        exfalso
        exact tu_
set_option maxHeartbeats 1000000 in
theorem t_Law_line (x1 : Int32) (x2 : Int32) (o0 : Ob) (o1 : Ob) (o2 : Ob) (g0 : okPF o0) (g1 : okText o1) : ∃ (r : Int32) (n2 : Ob), F_Law_line x1 x2 o0 o1 o2 = some (r, n2) ∧ (True) := by
  obtain ⟨f4416, f4417⟩ := id g0
  obtain ⟨f4418, f4419, f4420, f4421, f4422, f4423, f4424, f4425, f4426⟩ := id g1
  rw [F_Law_line]
  obtain ⟨k_3, v2, e4428, p4427⟩ := t_PF_line x1 x2 o0 o1 (ok2_) (ok9_)
  rw [e4428, bind2_s]
  by_cases c4429 : k_3 = 0
  · rw [if_pos c4429]
    (try simp (disch := (first | omega | (simp only [Int32.reduceToInt]; omega) | (simp (disch := first | omega | (simp only [Int32.reduceToInt]; omega)) only [tadd, tsub, mul6, neg1, Int32.reduceToInt]; omega))) only [neg1, mul6, g_s, g_l, tadd, tsub, inb_iff, Int32.lt_iff_toInt_lt, Int32.le_iff_toInt_le, i32_eq, b2i_0, Int32.reduceToInt, reduceIte, Nat.reduceEqDiff] at c4429)
    rw [show (inb (0 : Int32) 1) = true from inb_iff.mpr ⟨tu_, tu_⟩, chk_tr]
    refine ⟨_, _, rfl, tu_⟩
  · rw [if_neg c4429]
    (try simp (disch := (first | omega | (simp only [Int32.reduceToInt]; omega) | (simp (disch := first | omega | (simp only [Int32.reduceToInt]; omega)) only [tadd, tsub, mul6, neg1, Int32.reduceToInt]; omega))) only [neg1, mul6, g_s, g_l, tadd, tsub, inb_iff, Int32.lt_iff_toInt_lt, Int32.le_iff_toInt_le, i32_eq, b2i_0, Int32.reduceToInt, reduceIte, Nat.reduceEqDiff] at c4429)
    by_cases c4430 : k_3 = 1
    · rw [if_pos c4430]
      (try simp (disch := (first | omega | (simp only [Int32.reduceToInt]; omega) | (simp (disch := first | omega | (simp only [Int32.reduceToInt]; omega)) only [tadd, tsub, mul6, neg1, Int32.reduceToInt]; omega))) only [neg1, mul6, g_s, g_l, tadd, tsub, inb_iff, Int32.lt_iff_toInt_lt, Int32.le_iff_toInt_le, i32_eq, b2i_0, Int32.reduceToInt, reduceIte, Nat.reduceEqDiff] at c4430)
      refine ⟨_, _, rfl, tu_⟩
    · rw [if_neg c4430]
      (try simp (disch := (first | omega | (simp only [Int32.reduceToInt]; omega) | (simp (disch := first | omega | (simp only [Int32.reduceToInt]; omega)) only [tadd, tsub, mul6, neg1, Int32.reduceToInt]; omega))) only [neg1, mul6, g_s, g_l, tadd, tsub, inb_iff, Int32.lt_iff_toInt_lt, Int32.le_iff_toInt_le, i32_eq, b2i_0, Int32.reduceToInt, reduceIte, Nat.reduceEqDiff] at c4430)
      by_cases c4431 : k_3 = 3
      · rw [if_pos c4431]
        (try simp (disch := (first | omega | (simp only [Int32.reduceToInt]; omega) | (simp (disch := first | omega | (simp only [Int32.reduceToInt]; omega)) only [tadd, tsub, mul6, neg1, Int32.reduceToInt]; omega))) only [neg1, mul6, g_s, g_l, tadd, tsub, inb_iff, Int32.lt_iff_toInt_lt, Int32.le_iff_toInt_le, i32_eq, b2i_0, Int32.reduceToInt, reduceIte, Nat.reduceEqDiff] at c4431)
        refine ⟨_, _, rfl, tu_⟩
      · rw [if_neg c4431]
        (try simp (disch := (first | omega | (simp only [Int32.reduceToInt]; omega) | (simp (disch := first | omega | (simp only [Int32.reduceToInt]; omega)) only [tadd, tsub, mul6, neg1, Int32.reduceToInt]; omega))) only [neg1, mul6, g_s, g_l, tadd, tsub, inb_iff, Int32.lt_iff_toInt_lt, Int32.le_iff_toInt_le, i32_eq, b2i_0, Int32.reduceToInt, reduceIte, Nat.reduceEqDiff] at c4431)
        exfalso
        exact tu_
set_option maxHeartbeats 1000000 in
theorem t_Law_needs (x1 : Int32) (x2 : Int32) (o0 : Ob) (o1 : Ob) (o2 : Ob) (g0 : okPF o0) (g1 : okText o1) : ∃ (r : Int32) (n2 : Ob), F_Law_needs x1 x2 o0 o1 o2 = some (r, n2) ∧ (True) := by
  obtain ⟨f4432, f4433⟩ := id g0
  obtain ⟨f4434, f4435, f4436, f4437, f4438, f4439, f4440, f4441, f4442⟩ := id g1
  rw [F_Law_needs]
  obtain ⟨k_3, v2, e4444, p4443⟩ := t_PF_needs x1 x2 o0 o1 (ok2_) (ok9_)
  rw [e4444, bind2_s]
  by_cases c4445 : k_3 = 0
  · rw [if_pos c4445]
    (try simp (disch := (first | omega | (simp only [Int32.reduceToInt]; omega) | (simp (disch := first | omega | (simp only [Int32.reduceToInt]; omega)) only [tadd, tsub, mul6, neg1, Int32.reduceToInt]; omega))) only [neg1, mul6, g_s, g_l, tadd, tsub, inb_iff, Int32.lt_iff_toInt_lt, Int32.le_iff_toInt_le, i32_eq, b2i_0, Int32.reduceToInt, reduceIte, Nat.reduceEqDiff] at c4445)
    by_cases c4446 : (b2i v2) = 0
    · rw [if_pos c4446]
      have c4446 := b2i_0.mp c4446
      subst c4446
      rw [show (inb (0 : Int32) 1) = true from inb_iff.mpr ⟨tu_, tu_⟩, chk_tr]
      refine ⟨_, _, rfl, tu_⟩
    · rw [if_neg c4446]
      have c4446 := b2i_1 c4446
      subst c4446
      rw [show (inb (0 : Int32) 1) = true from inb_iff.mpr ⟨tu_, tu_⟩, chk_tr]
      refine ⟨_, _, rfl, tu_⟩
  · rw [if_neg c4445]
    (try simp (disch := (first | omega | (simp only [Int32.reduceToInt]; omega) | (simp (disch := first | omega | (simp only [Int32.reduceToInt]; omega)) only [tadd, tsub, mul6, neg1, Int32.reduceToInt]; omega))) only [neg1, mul6, g_s, g_l, tadd, tsub, inb_iff, Int32.lt_iff_toInt_lt, Int32.le_iff_toInt_le, i32_eq, b2i_0, Int32.reduceToInt, reduceIte, Nat.reduceEqDiff] at c4445)
    by_cases c4447 : k_3 = 1
    · rw [if_pos c4447]
      (try simp (disch := (first | omega | (simp only [Int32.reduceToInt]; omega) | (simp (disch := first | omega | (simp only [Int32.reduceToInt]; omega)) only [tadd, tsub, mul6, neg1, Int32.reduceToInt]; omega))) only [neg1, mul6, g_s, g_l, tadd, tsub, inb_iff, Int32.lt_iff_toInt_lt, Int32.le_iff_toInt_le, i32_eq, b2i_0, Int32.reduceToInt, reduceIte, Nat.reduceEqDiff] at c4447)
      refine ⟨_, _, rfl, tu_⟩
    · rw [if_neg c4447]
      (try simp (disch := (first | omega | (simp only [Int32.reduceToInt]; omega) | (simp (disch := first | omega | (simp only [Int32.reduceToInt]; omega)) only [tadd, tsub, mul6, neg1, Int32.reduceToInt]; omega))) only [neg1, mul6, g_s, g_l, tadd, tsub, inb_iff, Int32.lt_iff_toInt_lt, Int32.le_iff_toInt_le, i32_eq, b2i_0, Int32.reduceToInt, reduceIte, Nat.reduceEqDiff] at c4447)
      by_cases c4448 : k_3 = 3
      · rw [if_pos c4448]
        (try simp (disch := (first | omega | (simp only [Int32.reduceToInt]; omega) | (simp (disch := first | omega | (simp only [Int32.reduceToInt]; omega)) only [tadd, tsub, mul6, neg1, Int32.reduceToInt]; omega))) only [neg1, mul6, g_s, g_l, tadd, tsub, inb_iff, Int32.lt_iff_toInt_lt, Int32.le_iff_toInt_le, i32_eq, b2i_0, Int32.reduceToInt, reduceIte, Nat.reduceEqDiff] at c4448)
        refine ⟨_, _, rfl, tu_⟩
      · rw [if_neg c4448]
        (try simp (disch := (first | omega | (simp only [Int32.reduceToInt]; omega) | (simp (disch := first | omega | (simp only [Int32.reduceToInt]; omega)) only [tadd, tsub, mul6, neg1, Int32.reduceToInt]; omega))) only [neg1, mul6, g_s, g_l, tadd, tsub, inb_iff, Int32.lt_iff_toInt_lt, Int32.le_iff_toInt_le, i32_eq, b2i_0, Int32.reduceToInt, reduceIte, Nat.reduceEqDiff] at c4448)
        exfalso
        exact tu_
set_option maxHeartbeats 1000000 in
theorem t_Law_limit (x1 : Int32) (x2 : Int32) (o0 : Ob) (o1 : Ob) (o2 : Ob) (o3 : Ob) (o4 : Ob) (o5 : Ob) (g0 : okPF o0) (g1 : okReckoner o2) (g2 : okText o3) (g3 : okSteps o4) : ∃ (r : Int32) (n2 : Ob) (n5 : Ob), F_Law_limit x1 x2 o0 o1 o2 o3 o4 o5 = some (r, n2, n5) ∧ (okReckoner n2) := by
  obtain ⟨f4449, f4450⟩ := id g0
  obtain ⟨f4451, f4452⟩ := id g1
  obtain ⟨f4453, f4454, f4455, f4456, f4457, f4458, f4459, f4460, f4461⟩ := id g2
  obtain ⟨f4462, f4463, f4464, f4465, f4466, f4467⟩ := id g3
  rw [F_Law_limit]
  obtain ⟨k_4, v2, o_3, e4470, p4468, p4469⟩ := t_PF_limit x1 x2 o0 o1 o2 o3 o4 (ok2_) (ok2_) (ok9_) (ok6_)
  rw [e4470, bind3_s]
  obtain ⟨f4471, f4472⟩ := id p4468
  by_cases c4473 : k_4 = 0
  · rw [if_pos c4473]
    (try simp (disch := (first | omega | (simp only [Int32.reduceToInt]; omega) | (simp (disch := first | omega | (simp only [Int32.reduceToInt]; omega)) only [tadd, tsub, mul6, neg1, Int32.reduceToInt]; omega))) only [neg1, mul6, g_s, g_l, tadd, tsub, inb_iff, Int32.lt_iff_toInt_lt, Int32.le_iff_toInt_le, i32_eq, b2i_0, Int32.reduceToInt, reduceIte, Nat.reduceEqDiff] at c4473)
    rw [show (inb (0 : Int32) 1) = true from inb_iff.mpr ⟨tu_, tu_⟩, chk_tr]
    refine ⟨_, _, _, rfl, ok2_⟩
  · rw [if_neg c4473]
    (try simp (disch := (first | omega | (simp only [Int32.reduceToInt]; omega) | (simp (disch := first | omega | (simp only [Int32.reduceToInt]; omega)) only [tadd, tsub, mul6, neg1, Int32.reduceToInt]; omega))) only [neg1, mul6, g_s, g_l, tadd, tsub, inb_iff, Int32.lt_iff_toInt_lt, Int32.le_iff_toInt_le, i32_eq, b2i_0, Int32.reduceToInt, reduceIte, Nat.reduceEqDiff] at c4473)
    by_cases c4474 : k_4 = 1
    · rw [if_pos c4474]
      (try simp (disch := (first | omega | (simp only [Int32.reduceToInt]; omega) | (simp (disch := first | omega | (simp only [Int32.reduceToInt]; omega)) only [tadd, tsub, mul6, neg1, Int32.reduceToInt]; omega))) only [neg1, mul6, g_s, g_l, tadd, tsub, inb_iff, Int32.lt_iff_toInt_lt, Int32.le_iff_toInt_le, i32_eq, b2i_0, Int32.reduceToInt, reduceIte, Nat.reduceEqDiff] at c4474)
      refine ⟨_, _, _, rfl, ok2_⟩
    · rw [if_neg c4474]
      (try simp (disch := (first | omega | (simp only [Int32.reduceToInt]; omega) | (simp (disch := first | omega | (simp only [Int32.reduceToInt]; omega)) only [tadd, tsub, mul6, neg1, Int32.reduceToInt]; omega))) only [neg1, mul6, g_s, g_l, tadd, tsub, inb_iff, Int32.lt_iff_toInt_lt, Int32.le_iff_toInt_le, i32_eq, b2i_0, Int32.reduceToInt, reduceIte, Nat.reduceEqDiff] at c4474)
      by_cases c4475 : k_4 = 2
      · rw [if_pos c4475]
        (try simp (disch := (first | omega | (simp only [Int32.reduceToInt]; omega) | (simp (disch := first | omega | (simp only [Int32.reduceToInt]; omega)) only [tadd, tsub, mul6, neg1, Int32.reduceToInt]; omega))) only [neg1, mul6, g_s, g_l, tadd, tsub, inb_iff, Int32.lt_iff_toInt_lt, Int32.le_iff_toInt_le, i32_eq, b2i_0, Int32.reduceToInt, reduceIte, Nat.reduceEqDiff] at c4475)
        refine ⟨_, _, _, rfl, ok2_⟩
      · rw [if_neg c4475]
        (try simp (disch := (first | omega | (simp only [Int32.reduceToInt]; omega) | (simp (disch := first | omega | (simp only [Int32.reduceToInt]; omega)) only [tadd, tsub, mul6, neg1, Int32.reduceToInt]; omega))) only [neg1, mul6, g_s, g_l, tadd, tsub, inb_iff, Int32.lt_iff_toInt_lt, Int32.le_iff_toInt_le, i32_eq, b2i_0, Int32.reduceToInt, reduceIte, Nat.reduceEqDiff] at c4475)
        exfalso
        exact tu_
set_option maxHeartbeats 1000000 in
theorem t_Law_check (x1 : Int32) (o0 : Ob) (o1 : Ob) (o2 : Ob) (o3 : Ob) (o4 : Ob) (o5 : Ob) (o6 : Ob) (g0 : okPF o0) (g1 : okReckoner o2) (g2 : okText o3) (g3 : okSteps o5) (g4 : OC o3) : ∃ (r : Int32) (n2 : Ob) (n4 : Ob) (n6 : Ob), F_Law_check x1 o0 o1 o2 o3 o4 o5 o6 = some (r, n2, n4, n6) ∧ (okReckoner n2) := by
  obtain ⟨f4476, f4477⟩ := id g0
  obtain ⟨f4478, f4479⟩ := id g1
  obtain ⟨f4480, f4481, f4482, f4483, f4484, f4485, f4486, f4487, f4488⟩ := id g2
  obtain ⟨f4489, f4490, f4491, f4492, f4493, f4494⟩ := id g3
  rw [F_Law_check]
  obtain ⟨k_5, v2, o_3, o_4, e4497, p4495, p4496⟩ := t_PF_check x1 o0 o1 o2 o3 o4 o5 (ok2_) (ok2_) (ok9_) (ok6_) (oc_)
  rw [e4497, bind4_s]
  obtain ⟨f4498, f4499⟩ := id p4495
  by_cases c4500 : k_5 = 0
  · rw [if_pos c4500]
    (try simp (disch := (first | omega | (simp only [Int32.reduceToInt]; omega) | (simp (disch := first | omega | (simp only [Int32.reduceToInt]; omega)) only [tadd, tsub, mul6, neg1, Int32.reduceToInt]; omega))) only [neg1, mul6, g_s, g_l, tadd, tsub, inb_iff, Int32.lt_iff_toInt_lt, Int32.le_iff_toInt_le, i32_eq, b2i_0, Int32.reduceToInt, reduceIte, Nat.reduceEqDiff] at c4500)
    rw [show (inb (0 : Int32) 1) = true from inb_iff.mpr ⟨tu_, tu_⟩, chk_tr]
    refine ⟨_, _, _, _, rfl, ok2_⟩
  · rw [if_neg c4500]
    (try simp (disch := (first | omega | (simp only [Int32.reduceToInt]; omega) | (simp (disch := first | omega | (simp only [Int32.reduceToInt]; omega)) only [tadd, tsub, mul6, neg1, Int32.reduceToInt]; omega))) only [neg1, mul6, g_s, g_l, tadd, tsub, inb_iff, Int32.lt_iff_toInt_lt, Int32.le_iff_toInt_le, i32_eq, b2i_0, Int32.reduceToInt, reduceIte, Nat.reduceEqDiff] at c4500)
    by_cases c4501 : k_5 = 1
    · rw [if_pos c4501]
      (try simp (disch := (first | omega | (simp only [Int32.reduceToInt]; omega) | (simp (disch := first | omega | (simp only [Int32.reduceToInt]; omega)) only [tadd, tsub, mul6, neg1, Int32.reduceToInt]; omega))) only [neg1, mul6, g_s, g_l, tadd, tsub, inb_iff, Int32.lt_iff_toInt_lt, Int32.le_iff_toInt_le, i32_eq, b2i_0, Int32.reduceToInt, reduceIte, Nat.reduceEqDiff] at c4501)
      refine ⟨_, _, _, _, rfl, ok2_⟩
    · rw [if_neg c4501]
      (try simp (disch := (first | omega | (simp only [Int32.reduceToInt]; omega) | (simp (disch := first | omega | (simp only [Int32.reduceToInt]; omega)) only [tadd, tsub, mul6, neg1, Int32.reduceToInt]; omega))) only [neg1, mul6, g_s, g_l, tadd, tsub, inb_iff, Int32.lt_iff_toInt_lt, Int32.le_iff_toInt_le, i32_eq, b2i_0, Int32.reduceToInt, reduceIte, Nat.reduceEqDiff] at c4501)
      by_cases c4502 : k_5 = 2
      · rw [if_pos c4502]
        (try simp (disch := (first | omega | (simp only [Int32.reduceToInt]; omega) | (simp (disch := first | omega | (simp only [Int32.reduceToInt]; omega)) only [tadd, tsub, mul6, neg1, Int32.reduceToInt]; omega))) only [neg1, mul6, g_s, g_l, tadd, tsub, inb_iff, Int32.lt_iff_toInt_lt, Int32.le_iff_toInt_le, i32_eq, b2i_0, Int32.reduceToInt, reduceIte, Nat.reduceEqDiff] at c4502)
        refine ⟨_, _, _, _, rfl, ok2_⟩
      · rw [if_neg c4502]
        (try simp (disch := (first | omega | (simp only [Int32.reduceToInt]; omega) | (simp (disch := first | omega | (simp only [Int32.reduceToInt]; omega)) only [tadd, tsub, mul6, neg1, Int32.reduceToInt]; omega))) only [neg1, mul6, g_s, g_l, tadd, tsub, inb_iff, Int32.lt_iff_toInt_lt, Int32.le_iff_toInt_le, i32_eq, b2i_0, Int32.reduceToInt, reduceIte, Nat.reduceEqDiff] at c4502)
        exfalso
        exact tu_
set_option maxHeartbeats 1000000 in
theorem t_Law_version (o0 : Ob) (o1 : Ob) (o2 : Ob) (o3 : Ob) (g0 : okPF o0) : ∃ (r : Int32) (n0 : Ob) (n2 : Ob) (n3 : Ob), F_Law_version o0 o1 o2 o3 = some (r, n0, n2, n3) ∧ (okPF n0) := by
  obtain ⟨f4503, f4504⟩ := id g0
  rw [F_Law_version]
  obtain ⟨k_5, v2, o_3, o_4, e4507, p4505, p4506⟩ := t_PF_version o0 o1 o2 (ok2_)
  rw [e4507, bind4_s]
  obtain ⟨f4508, f4509⟩ := id p4505
  by_cases c4510 : k_5 = 0
  · rw [if_pos c4510]
    (try simp (disch := (first | omega | (simp only [Int32.reduceToInt]; omega) | (simp (disch := first | omega | (simp only [Int32.reduceToInt]; omega)) only [tadd, tsub, mul6, neg1, Int32.reduceToInt]; omega))) only [neg1, mul6, g_s, g_l, tadd, tsub, inb_iff, Int32.lt_iff_toInt_lt, Int32.le_iff_toInt_le, i32_eq, b2i_0, Int32.reduceToInt, reduceIte, Nat.reduceEqDiff] at c4510)
    rw [show (inb (0 : Int32) 1) = true from inb_iff.mpr ⟨tu_, tu_⟩, chk_tr]
    refine ⟨_, _, _, _, rfl, ok2_⟩
  · rw [if_neg c4510]
    (try simp (disch := (first | omega | (simp only [Int32.reduceToInt]; omega) | (simp (disch := first | omega | (simp only [Int32.reduceToInt]; omega)) only [tadd, tsub, mul6, neg1, Int32.reduceToInt]; omega))) only [neg1, mul6, g_s, g_l, tadd, tsub, inb_iff, Int32.lt_iff_toInt_lt, Int32.le_iff_toInt_le, i32_eq, b2i_0, Int32.reduceToInt, reduceIte, Nat.reduceEqDiff] at c4510)
    by_cases c4511 : k_5 = 1
    · rw [if_pos c4511]
      (try simp (disch := (first | omega | (simp only [Int32.reduceToInt]; omega) | (simp (disch := first | omega | (simp only [Int32.reduceToInt]; omega)) only [tadd, tsub, mul6, neg1, Int32.reduceToInt]; omega))) only [neg1, mul6, g_s, g_l, tadd, tsub, inb_iff, Int32.lt_iff_toInt_lt, Int32.le_iff_toInt_le, i32_eq, b2i_0, Int32.reduceToInt, reduceIte, Nat.reduceEqDiff] at c4511)
      refine ⟨_, _, _, _, rfl, ok2_⟩
    · rw [if_neg c4511]
      (try simp (disch := (first | omega | (simp only [Int32.reduceToInt]; omega) | (simp (disch := first | omega | (simp only [Int32.reduceToInt]; omega)) only [tadd, tsub, mul6, neg1, Int32.reduceToInt]; omega))) only [neg1, mul6, g_s, g_l, tadd, tsub, inb_iff, Int32.lt_iff_toInt_lt, Int32.le_iff_toInt_le, i32_eq, b2i_0, Int32.reduceToInt, reduceIte, Nat.reduceEqDiff] at c4511)
      exfalso
      exact tu_
set_option maxHeartbeats 1000000 in
theorem t_Law_differs (x1 : Int32) (x2 : Int32) (o0 : Ob) (o1 : Ob) (o2 : Ob) (o3 : Ob) (g0 : okPF o0) : ∃ (r : Int32) (n3 : Ob), F_Law_differs x1 x2 o0 o1 o2 o3 = some (r, n3) ∧ (True) := by
  obtain ⟨f4512, f4513⟩ := id g0
  rw [F_Law_differs]
  obtain ⟨k_3, v2, e4515, p4514⟩ := t_PF_differs x1 x2 o0 o1 o2 (ok2_)
  rw [e4515, bind2_s]
  by_cases c4516 : k_3 = 0
  · rw [if_pos c4516]
    (try simp (disch := (first | omega | (simp only [Int32.reduceToInt]; omega) | (simp (disch := first | omega | (simp only [Int32.reduceToInt]; omega)) only [tadd, tsub, mul6, neg1, Int32.reduceToInt]; omega))) only [neg1, mul6, g_s, g_l, tadd, tsub, inb_iff, Int32.lt_iff_toInt_lt, Int32.le_iff_toInt_le, i32_eq, b2i_0, Int32.reduceToInt, reduceIte, Nat.reduceEqDiff] at c4516)
    rw [show (inb (0 : Int32) 1) = true from inb_iff.mpr ⟨tu_, tu_⟩, chk_tr]
    refine ⟨_, _, rfl, tu_⟩
  · rw [if_neg c4516]
    (try simp (disch := (first | omega | (simp only [Int32.reduceToInt]; omega) | (simp (disch := first | omega | (simp only [Int32.reduceToInt]; omega)) only [tadd, tsub, mul6, neg1, Int32.reduceToInt]; omega))) only [neg1, mul6, g_s, g_l, tadd, tsub, inb_iff, Int32.lt_iff_toInt_lt, Int32.le_iff_toInt_le, i32_eq, b2i_0, Int32.reduceToInt, reduceIte, Nat.reduceEqDiff] at c4516)
    by_cases c4517 : k_3 = 1
    · rw [if_pos c4517]
      (try simp (disch := (first | omega | (simp only [Int32.reduceToInt]; omega) | (simp (disch := first | omega | (simp only [Int32.reduceToInt]; omega)) only [tadd, tsub, mul6, neg1, Int32.reduceToInt]; omega))) only [neg1, mul6, g_s, g_l, tadd, tsub, inb_iff, Int32.lt_iff_toInt_lt, Int32.le_iff_toInt_le, i32_eq, b2i_0, Int32.reduceToInt, reduceIte, Nat.reduceEqDiff] at c4517)
      refine ⟨_, _, rfl, tu_⟩
    · rw [if_neg c4517]
      (try simp (disch := (first | omega | (simp only [Int32.reduceToInt]; omega) | (simp (disch := first | omega | (simp only [Int32.reduceToInt]; omega)) only [tadd, tsub, mul6, neg1, Int32.reduceToInt]; omega))) only [neg1, mul6, g_s, g_l, tadd, tsub, inb_iff, Int32.lt_iff_toInt_lt, Int32.le_iff_toInt_le, i32_eq, b2i_0, Int32.reduceToInt, reduceIte, Nat.reduceEqDiff] at c4517)
      by_cases c4518 : k_3 = 3
      · rw [if_pos c4518]
        (try simp (disch := (first | omega | (simp only [Int32.reduceToInt]; omega) | (simp (disch := first | omega | (simp only [Int32.reduceToInt]; omega)) only [tadd, tsub, mul6, neg1, Int32.reduceToInt]; omega))) only [neg1, mul6, g_s, g_l, tadd, tsub, inb_iff, Int32.lt_iff_toInt_lt, Int32.le_iff_toInt_le, i32_eq, b2i_0, Int32.reduceToInt, reduceIte, Nat.reduceEqDiff] at c4518)
        refine ⟨_, _, rfl, tu_⟩
      · rw [if_neg c4518]
        (try simp (disch := (first | omega | (simp only [Int32.reduceToInt]; omega) | (simp (disch := first | omega | (simp only [Int32.reduceToInt]; omega)) only [tadd, tsub, mul6, neg1, Int32.reduceToInt]; omega))) only [neg1, mul6, g_s, g_l, tadd, tsub, inb_iff, Int32.lt_iff_toInt_lt, Int32.le_iff_toInt_le, i32_eq, b2i_0, Int32.reduceToInt, reduceIte, Nat.reduceEqDiff] at c4518)
        by_cases c4519 : k_3 = 2
        · rw [if_pos c4519]
          (try simp (disch := (first | omega | (simp only [Int32.reduceToInt]; omega) | (simp (disch := first | omega | (simp only [Int32.reduceToInt]; omega)) only [tadd, tsub, mul6, neg1, Int32.reduceToInt]; omega))) only [neg1, mul6, g_s, g_l, tadd, tsub, inb_iff, Int32.lt_iff_toInt_lt, Int32.le_iff_toInt_le, i32_eq, b2i_0, Int32.reduceToInt, reduceIte, Nat.reduceEqDiff] at c4519)
          refine ⟨_, _, rfl, tu_⟩
        · rw [if_neg c4519]
          (try simp (disch := (first | omega | (simp only [Int32.reduceToInt]; omega) | (simp (disch := first | omega | (simp only [Int32.reduceToInt]; omega)) only [tadd, tsub, mul6, neg1, Int32.reduceToInt]; omega))) only [neg1, mul6, g_s, g_l, tadd, tsub, inb_iff, Int32.lt_iff_toInt_lt, Int32.le_iff_toInt_le, i32_eq, b2i_0, Int32.reduceToInt, reduceIte, Nat.reduceEqDiff] at c4519)
          exfalso
          exact tu_
set_option maxHeartbeats 1000000 in
theorem t_Law_same (o0 : Ob) (o1 : Ob) (o2 : Ob) (o3 : Ob) (o4 : Ob) (o5 : Ob) (o6 : Ob) (g0 : okPF o0) (g1 : okReckoner o2) (g2 : okText o3) (g3 : okSteps o5) (g4 : OC o3) : ∃ (r : Int32) (n2 : Ob) (n4 : Ob) (n6 : Ob), F_Law_same o0 o1 o2 o3 o4 o5 o6 = some (r, n2, n4, n6) ∧ (okReckoner n2) := by
  obtain ⟨f4520, f4521⟩ := id g0
  obtain ⟨f4522, f4523⟩ := id g1
  obtain ⟨f4524, f4525, f4526, f4527, f4528, f4529, f4530, f4531, f4532⟩ := id g2
  obtain ⟨f4533, f4534, f4535, f4536, f4537, f4538⟩ := id g3
  rw [F_Law_same]
  obtain ⟨k_5, v2, o_3, o_4, e4541, p4539, p4540⟩ := t_PF_same o0 o1 o2 o3 o4 o5 (ok2_) (ok2_) (ok9_) (ok6_) (oc_)
  rw [e4541, bind4_s]
  obtain ⟨f4542, f4543⟩ := id p4539
  by_cases c4544 : k_5 = 0
  · rw [if_pos c4544]
    (try simp (disch := (first | omega | (simp only [Int32.reduceToInt]; omega) | (simp (disch := first | omega | (simp only [Int32.reduceToInt]; omega)) only [tadd, tsub, mul6, neg1, Int32.reduceToInt]; omega))) only [neg1, mul6, g_s, g_l, tadd, tsub, inb_iff, Int32.lt_iff_toInt_lt, Int32.le_iff_toInt_le, i32_eq, b2i_0, Int32.reduceToInt, reduceIte, Nat.reduceEqDiff] at c4544)
    by_cases c4545 : (b2i v2) = 0
    · rw [if_pos c4545]
      have c4545 := b2i_0.mp c4545
      subst c4545
      rw [show (inb (0 : Int32) 1) = true from inb_iff.mpr ⟨tu_, tu_⟩, chk_tr]
      refine ⟨_, _, _, _, rfl, ok2_⟩
    · rw [if_neg c4545]
      have c4545 := b2i_1 c4545
      subst c4545
      rw [show (inb (0 : Int32) 1) = true from inb_iff.mpr ⟨tu_, tu_⟩, chk_tr]
      refine ⟨_, _, _, _, rfl, ok2_⟩
  · rw [if_neg c4544]
    (try simp (disch := (first | omega | (simp only [Int32.reduceToInt]; omega) | (simp (disch := first | omega | (simp only [Int32.reduceToInt]; omega)) only [tadd, tsub, mul6, neg1, Int32.reduceToInt]; omega))) only [neg1, mul6, g_s, g_l, tadd, tsub, inb_iff, Int32.lt_iff_toInt_lt, Int32.le_iff_toInt_le, i32_eq, b2i_0, Int32.reduceToInt, reduceIte, Nat.reduceEqDiff] at c4544)
    by_cases c4546 : k_5 = 1
    · rw [if_pos c4546]
      (try simp (disch := (first | omega | (simp only [Int32.reduceToInt]; omega) | (simp (disch := first | omega | (simp only [Int32.reduceToInt]; omega)) only [tadd, tsub, mul6, neg1, Int32.reduceToInt]; omega))) only [neg1, mul6, g_s, g_l, tadd, tsub, inb_iff, Int32.lt_iff_toInt_lt, Int32.le_iff_toInt_le, i32_eq, b2i_0, Int32.reduceToInt, reduceIte, Nat.reduceEqDiff] at c4546)
      refine ⟨_, _, _, _, rfl, ok2_⟩
    · rw [if_neg c4546]
      (try simp (disch := (first | omega | (simp only [Int32.reduceToInt]; omega) | (simp (disch := first | omega | (simp only [Int32.reduceToInt]; omega)) only [tadd, tsub, mul6, neg1, Int32.reduceToInt]; omega))) only [neg1, mul6, g_s, g_l, tadd, tsub, inb_iff, Int32.lt_iff_toInt_lt, Int32.le_iff_toInt_le, i32_eq, b2i_0, Int32.reduceToInt, reduceIte, Nat.reduceEqDiff] at c4546)
      exfalso
      exact tu_
