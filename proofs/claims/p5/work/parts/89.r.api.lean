/-! THE REFERENCE: run, set, check, versions -/
theorem m_run_45 : ∀ (n : Nat) (x1 x2 : Int32) (o : Ob), PG o → -1 ≤ x2.toInt → x2.toInt < (g32 o 8 0).toInt → x2.toInt + 1 < (n : Int) → ∃ (r : Int32) (n0 : Ob), F_Mod_run_45 n x1 x2 o = some (r, n0) ∧ FR [] [23] o n0 := by
  intro n
  induction n with
  | zero => intro x1 x2 o _ _ _ _; exfalso; omega
  | succ n ih =>
    intro x1 x2 o hP h2 h2b hn
    have q0 : (g32 o 8 0).toInt ≤ 24 := hP.1.2
    have z0 : (0 : Int32).toInt = 0 := rfl
    rw [F_Mod_run_45]
    by_cases c : x2 < 0
    · rw [if_pos c]; exact ⟨_, _, rfl, FR.refl⟩
    rw [if_neg c]
    have c : ¬ x2.toInt < 0 := fun z => c (Int32.lt_iff_toInt_lt.mpr (by omega))
    have em : (x2 + (-1 : Int32)).toInt = x2.toInt - 1 := by rw [tadd (by rw [neg1]; omega) (by rw [neg1]; omega), neg1]; omega
    have i50 : (inb x2 50) = true := inb_iff.mpr ⟨by omega, by omega⟩
    rw [i50, chk_tr]
    by_cases d : (g32 o 10 (Int32.toNatClampNeg x2)) < 0
    · rw [if_pos d]; exact ih x1 _ o hP (by omega) (by omega) (by omega)
    rw [if_neg d]
    have d : ¬ (g32 o 10 (Int32.toNatClampNeg x2)).toInt < 0 := fun z => d (Int32.lt_iff_toInt_lt.mpr (by omega))
    obtain ⟨_, ⟨⟨s1, s2, s3, s4⟩, _⟩⟩ := hP.stm (s := x2) (by omega) h2b
    obtain ⟨v, ev⟩ := m_isRing (g32 o 10 (Int32.toNatClampNeg x2)) o hP.nd (by omega) s4
    rw [ev, bind1_s]
    have go : ∀ y : Int64, ∃ (r : Int32) (n0 : Ob), F_Mod_run_85 (F_Mod_run_45 n) x1 x2 y o = some (r, n0) ∧ FR [] [23] o n0 := by
      intro y
      rw [F_Mod_run_85, i50, chk_tr, show (inb (g32 o 10 (Int32.toNatClampNeg x2)) 60) = true from inb_iff.mpr ⟨by omega, by omega⟩, chk_tr]
      have f : FR [] [23] o (s64 o 23 0 y) := FR.l FR.refl (by decide)
      have hP2 : PG (s64 o 23 0 y) := hP.fr f (by decide) (by decide) (by decide) (by decide) (by decide) (by decide) (by decide)
      split
      · obtain ⟨r, n0, q1, q2⟩ := ih x1 (x2 + (-1 : Int32)) (s64 o 23 0 y) hP2 (by omega) (by show (x2 + (-1 : Int32)).toInt < (g32 o 8 0).toInt; omega) (by omega)
        exact ⟨r, n0, q1, FR.tr f q2⟩
      · obtain ⟨r, n0, q1, q2⟩ := ih (x2 + (1 : Int32)) (x2 + (-1 : Int32)) (s64 o 23 0 y) hP2 (by omega) (by show (x2 + (-1 : Int32)).toInt < (g32 o 8 0).toInt; omega) (by omega)
        exact ⟨r, n0, q1, FR.tr f q2⟩
    split
    · exact go _
    · exact go _
theorem md_23 {o n : Ob} (h : okM o) (f : FR [] [23] o n) : MD o n := md_fr h f (h.1.2.2.1.fr f (by decide) (by decide) (by decide)) (fun j => by rw [f.g (by decide)]; exact h.2 j) (by decide) (by decide) (by decide) (by decide) (by decide) (by decide) (by decide) (by decide) (by decide) (by decide) (by decide) (by decide) (by decide)
theorem m_run (o : Ob) (h : okM o) : ∃ (r : Int32) (n0 : Ob), F_Mod_run o = some (r, n0) ∧ MD o n0 := by
  rw [F_Mod_run]
  by_cases c : (g32 o 11 0) = 0
  · rw [if_pos c, F_Mod_run_13, if_neg (by decide)]; exact ⟨_, _, rfl, MD.c h⟩
  rw [if_neg c, F_Mod_run_13, if_pos (by decide)]
  have hP := pg_read h c
  have q := MD.c (v := 0) h
  have hP0 : PG (s32 o 0 0 (0 : Int32)) := hP.fr (FR.s FR.refl (by decide) : FR [0] [] o (s32 o 0 0 (0 : Int32))) (by decide) (by decide) (by decide) (by decide) (by decide) (by decide) (by decide)
  obtain ⟨m, q1, q2⟩ := m_work (s32 o 0 0 (0 : Int32)) hP0 q.1.1.2.1 q.1.1.2.2.1
  rw [q1, bind1_s, show (inb (0 : Int32) 2) = true from by decide, chk_tr]
  have md := md_wk q.1 q2
  have mP : PG m := hP0.fr q2.1 (by decide) (by decide) (by decide) (by decide) (by decide) (by decide) (by decide)
  have tP : PG (s32 m 12 0 (1 : Int32)) := mP.fr (FR.s FR.refl (by decide) : FR [12] [] m (s32 m 12 0 (1 : Int32))) (by decide) (by decide) (by decide) (by decide) (by decide) (by decide) (by decide)
  have tok : MD m (s32 m 12 0 (1 : Int32)) := by
    obtain ⟨⟨⟨a, b, w⟩, cc, d, e⟩, h34⟩ := md.1
    exact ⟨⟨⟨⟨a, b, w⟩, cc, d, Or.inr tP⟩, h34⟩, rfl, fun _ => ⟨rfl, rfl⟩⟩
  have b0 : 0 ≤ (g32 m 8 0).toInt ∧ (g32 m 8 0).toInt ≤ 24 := mP.1
  have e1 := sub1 (x := g32 m 8 0) (by omega)
  obtain ⟨r, n0, p1, p2⟩ := m_run_45 fuel 0 ((g32 m 8 (Int32.toNatClampNeg (0 : Int32))) - (1 : Int32)) (s32 m 12 0 (1 : Int32)) tP (by show -1 ≤ ((g32 m 8 0) - (1 : Int32)).toInt; omega) (by show ((g32 m 8 0) - (1 : Int32)).toInt < (g32 m 8 0).toInt; omega) (by show ((g32 m 8 0) - (1 : Int32)).toInt + 1 < _; rw [fuel_eq]; omega)
  exact ⟨r, n0, p1, MD.tr (MD.tr q md) (MD.tr tok (md_23 tok.1 p2))⟩
theorem m_set_137 : ∀ (n : Nat) (x1 x12 : Int32) (o : Ob), okM o → PG o → 0 ≤ x12.toInt → x12.toInt ≤ 60 → 60 - x12.toInt < (n : Int) → ∃ (n0 : Ob), F_Mod_set_137 n x1 x12 o = some (true, n0) ∧ MD o n0 ∧ g32 n0 0 0 = g32 o 0 0 := by
  intro n
  induction n with
  | zero => intro x1 x12 o _ _ _ _ _; exfalso; omega
  | succ n ih =>
    intro x1 x12 o h hP h1 h1b hn
    have z60 : (60 : Int32).toInt = 60 := rfl
    have z0 : (0 : Int32).toInt = 0 := rfl
    rw [F_Mod_set_137]
    by_cases c : (60 : Int32) ≤ x12
    · rw [if_pos c]
      obtain ⟨m, q1, q2⟩ := m_work o hP h.1.2.1 h.1.2.2.1
      rw [q1, bind1_s]
      exact ⟨m, rfl, md_wk h q2, q2.1.g (by decide) 0⟩
    rw [if_neg c]
    have c : ¬ 60 ≤ x12.toInt := fun z => c (Int32.le_iff_toInt_le.mpr (by omega))
    have e1 := add1 (x := x12) (by omega)
    have go : ∀ y : Int64, ∃ (n0 : Ob), F_Mod_set_137 n x1 (x12 + (1 : Int32)) (s64 o 23 0 y) = some (true, n0) ∧ MD o n0 ∧ g32 n0 0 0 = g32 o 0 0 := by
      intro y
      have f : FR [] [23] o (s64 o 23 0 y) := FR.l FR.refl (by decide)
      have q := md_23 h f
      obtain ⟨n0, p1, p2, p3⟩ := ih x1 (x12 + (1 : Int32)) (s64 o 23 0 y) q.1 (hP.fr f (by decide) (by decide) (by decide) (by decide) (by decide) (by decide) (by decide)) (by omega) (by omega) (by omega)
      exact ⟨n0, p1, MD.tr q p2, p3⟩
    rw [show (inb x12 60) = true from inb_iff.mpr ⟨by omega, by omega⟩, chk_tr]
    split
    · exact go _
    · obtain ⟨v, ev⟩ := m_isRing x12 o hP.nd h1 (by omega)
      rw [ev, bind1_s]
      split
      · obtain ⟨w, ew⟩ := m_hangs x12 x1 o hP h1 (by omega)
        rw [ew, bind1_s]
        split
        · exact go _
        · exact go _
      · exact go _
/-- an option takes a plain fraction -/
theorem ov_set {o : Ob} {i : Nat} {p q : Int64} (h : OV o) (hg : gv p q) : OV (s64 (s64 o 15 i p) 16 i q) := by
  intro j hj
  have e1 : g64 (s64 (s64 o 15 i p) 16 i q) 15 j = if j = i then p else g64 o 15 j := by rw [g64_other _ (by decide), g64_same]
  have e2 : g64 (s64 (s64 o 15 i p) 16 i q) 16 j = if j = i then q else g64 o 16 j := by
    rw [g64_same]
    split
    · rfl
    · rw [g64_other _ (by decide)]
  rw [e1, e2]
  by_cases c : j = i
  · rw [if_pos c, if_pos c]; exact hg
  · rw [if_neg c, if_neg c]; exact h j hj
/-- the plain fraction of a fraction within bounds -/
theorem plain {a b g : Int64} (ha : -1000000000 ≤ a.toInt) (ha2 : a.toInt ≤ 1000000000) (hb : 1 ≤ b.toInt) (hb2 : b.toInt ≤ 1000000000) (hg : g.toInt = Int.gcd a.toInt b.toInt) : ¬ g = 0 ∧ gv (a / g) (b / g) := by
  have hdv : ((Int.gcd a.toInt b.toInt : Nat) : Int) ∣ b.toInt := Int.gcd_dvd_right ..
  rw [← hg] at hdv
  have g1 : g.toInt ≤ b.toInt := Int.le_of_dvd (by omega) hdv
  have g0 : 0 < g.toInt := by
    have n0 : 0 ≤ g.toInt := by rw [hg]; exact Int.natCast_nonneg _
    by_cases z : g.toInt = 0
    · rw [z] at hdv
      have := Int.zero_dvd.mp hdv
      omega
    · omega
  refine ⟨fun z => by rw [z] at g0; exact absurd g0 (by decide), ?_⟩
  have eb : (b / g).toInt = b.toInt / g.toInt := by
    rw [Int64.toInt_div, Int.tdiv_eq_ediv_of_nonneg (by omega)]
    have b1 : 0 ≤ b.toInt / g.toInt := Int.ediv_nonneg (by omega) (by omega)
    have b2 : b.toInt / g.toInt ≤ b.toInt := Int.ediv_le_self _ (by omega)
    rw [Int.bmod_eq_of_le] <;> omega
  have q1 : 1 ≤ b.toInt / g.toInt := Int.le_ediv_of_mul_le g0 (by omega)
  have q2 : b.toInt / g.toInt ≤ b.toInt := Int.ediv_le_self _ (by omega)
  have ta : -1000000000 ≤ a.toInt.tdiv g.toInt ∧ a.toInt.tdiv g.toInt ≤ 1000000000 := by
    by_cases s : 0 ≤ a.toInt
    · rw [Int.tdiv_eq_ediv_of_nonneg s]
      have b1 : 0 ≤ a.toInt / g.toInt := Int.ediv_nonneg s (by omega)
      have b2 : a.toInt / g.toInt ≤ a.toInt := Int.ediv_le_self _ s
      omega
    · have e : a.toInt.tdiv g.toInt = -((-a.toInt).tdiv g.toInt) := by rw [Int.neg_tdiv, Int.neg_neg]
      rw [e, Int.tdiv_eq_ediv_of_nonneg (by omega)]
      have b1 : 0 ≤ (-a.toInt) / g.toInt := Int.ediv_nonneg (by omega) (by omega)
      have b2 : (-a.toInt) / g.toInt ≤ -a.toInt := Int.ediv_le_self _ (by omega)
      omega
  have ea : (a / g).toInt = a.toInt.tdiv g.toInt := by
    rw [Int64.toInt_div, Int.bmod_eq_of_le] <;> omega
  exact ⟨by omega, by omega, by omega, by omega⟩
/-- set: its code, its answer, the options -/
def SB (x1 : Int32) (a b : Int64) (o n : Ob) (r : Bool) : Prop :=
  (¬ (0 ≤ x1.toInt ∧ x1.toInt ≤ 7) ∧ (g32 n 0 0).toInt = 1 ∧ SO o n) ∨
  ((0 ≤ x1.toInt ∧ x1.toInt ≤ 7) ∧ ¬ (1 ≤ b.toInt ∧ b.toInt ≤ 1000000000 ∧ a.toInt ≤ 1000000000 ∧ -1000000000 ≤ a.toInt) ∧ (g32 n 0 0).toInt = 2 ∧ SO o n) ∨
  ((0 ≤ x1.toInt ∧ x1.toInt ≤ 7) ∧ (1 ≤ b.toInt ∧ b.toInt ≤ 1000000000 ∧ a.toInt ≤ 1000000000 ∧ -1000000000 ≤ a.toInt) ∧ (g32 n 0 0).toInt = 0 ∧ ∃ g : Int64, g.toInt = Int.gcd a.toInt b.toInt ∧ r = decide (¬ (a / g = g64 o 15 (Int32.toNatClampNeg x1) ∧ b / g = g64 o 16 (Int32.toNatClampNeg x1))) ∧ ∀ j : Nat, g64 n 15 j = (if j = Int32.toNatClampNeg x1 then a / g else g64 o 15 j) ∧ g64 n 16 j = (if j = Int32.toNatClampNeg x1 then b / g else g64 o 16 j))
theorem m_set (x1 : Int32) (a b : Int64) (o : Ob) (h : okM o) : ∃ (r : Bool) (n0 : Ob), F_Mod_set x1 a b o = some (r, n0) ∧ okM n0 ∧ g32 n0 2 0 = g32 o 2 0 ∧ SB x1 a b o n0 r := by
  have z0 : (0 : Int32).toInt = 0 := rfl
  have z7 : (7 : Int32).toInt = 7 := rfl
  have l1 : (1 : Int64).toInt = 1 := by decide
  have l9 : (1000000000 : Int64).toInt = 1000000000 := by decide
  have l8 : (-1000000000 : Int64).toInt = -1000000000 := by decide
  rw [F_Mod_set]
  by_cases c : x1 < 0
  · rw [if_pos c, F_Mod_set_52, if_neg (by decide)]
    have c := Int32.lt_iff_toInt_lt.mp c
    have q := MD.c (v := 1) h
    exact ⟨_, _, rfl, q.1, q.2.1, Or.inl ⟨by omega, rfl, q.2.2⟩⟩
  rw [if_neg c]
  have c : ¬ x1.toInt < 0 := fun z => c (Int32.lt_iff_toInt_lt.mpr (by omega))
  by_cases d : x1 ≤ (7 : Int32)
  · rw [if_pos d]
    have d := Int32.le_iff_toInt_le.mp d
    have hx : 0 ≤ x1.toInt ∧ x1.toInt ≤ 7 := by omega
    have no : ¬ (1 ≤ b.toInt ∧ b.toInt ≤ 1000000000 ∧ a.toInt ≤ 1000000000 ∧ -1000000000 ≤ a.toInt) → ∃ (r : Bool) (n0 : Ob), F_Mod_set_52 x1 a b (2 : Int32) o = some (r, n0) ∧ okM n0 ∧ g32 n0 2 0 = g32 o 2 0 ∧ SB x1 a b o n0 r := by
      intro hn
      rw [F_Mod_set_52, if_neg (by decide)]
      have q := MD.c (v := 2) h
      exact ⟨_, _, rfl, q.1, q.2.1, Or.inr (Or.inl ⟨hx, hn, rfl, q.2.2⟩)⟩
    by_cases e1 : (lg_cmp b (1 : Int64)) < 0
    · rw [if_pos e1]
      have e1 := lgc_lt.mp e1
      exact no (by omega)
    rw [if_neg e1]
    have e1 : ¬ b.toInt < (1 : Int64).toInt := fun z => e1 (lgc_lt.mpr z)
    by_cases e2 : 0 < (lg_cmp b (1000000000 : Int64))
    · rw [if_pos e2]
      have e2 := lgc_gt.mp e2
      exact no (by omega)
    rw [if_neg e2]
    have e2 : ¬ (1000000000 : Int64).toInt < b.toInt := fun z => e2 (lgc_gt.mpr z)
    by_cases e3 : 0 < (lg_cmp a (1000000000 : Int64))
    · rw [if_pos e3]
      have e3 := lgc_gt.mp e3
      exact no (by omega)
    rw [if_neg e3]
    have e3 : ¬ (1000000000 : Int64).toInt < a.toInt := fun z => e3 (lgc_gt.mpr z)
    by_cases e4 : 0 ≤ (lg_cmp a (-1000000000 : Int64))
    · rw [if_pos e4]
      have e4 := lgc_ge.mp e4
      have hv : 1 ≤ b.toInt ∧ b.toInt ≤ 1000000000 ∧ a.toInt ≤ 1000000000 ∧ -1000000000 ≤ a.toInt := by omega
      obtain ⟨g, eg, hg⟩ := mod_cd (a := a) (b := b) (by omega) (by omega) (by omega) (by omega)
      obtain ⟨gn, hgv⟩ := plain (by omega) (by omega) hv.1 hv.2.1 hg
      rw [F_Mod_set_52, if_pos (by decide), eg, bind1_s, show (decide (¬ g = 0)) = true from decide_eq_true gn, chk_tr]
      have i8 : (inb x1 8) = true := inb_iff.mpr ⟨by omega, by omega⟩
      rw [i8, chk_tr]
      have q := MD.c (v := 0) h
      have fs : FR [0] [15, 16] o (s64 (s64 (s32 o 0 0 (0 : Int32)) 15 (Int32.toNatClampNeg x1) (a / g)) 16 (Int32.toNatClampNeg x1) (b / g)) := FR.l (FR.l (FR.s FR.refl (by decide)) (by decide)) (by decide)
      have opts : ∀ j : Nat, g64 (s64 (s64 (s32 o 0 0 (0 : Int32)) 15 (Int32.toNatClampNeg x1) (a / g)) 16 (Int32.toNatClampNeg x1) (b / g)) 15 j = (if j = Int32.toNatClampNeg x1 then a / g else g64 o 15 j) ∧ g64 (s64 (s64 (s32 o 0 0 (0 : Int32)) 15 (Int32.toNatClampNeg x1) (a / g)) 16 (Int32.toNatClampNeg x1) (b / g)) 16 j = (if j = Int32.toNatClampNeg x1 then b / g else g64 o 16 j) := by
        intro j
        refine ⟨by rw [g64_other _ (by decide), g64_same]; rfl, ?_⟩
        rw [g64_same]
        split
        · rfl
        · rw [g64_other _ (by decide)]; rfl
      have oks : okM (s64 (s64 (s32 o 0 0 (0 : Int32)) 15 (Int32.toNatClampNeg x1) (a / g)) 16 (Int32.toNatClampNeg x1) (b / g)) := by
        obtain ⟨⟨⟨w1, w2, w3⟩, w4, w5, w6⟩, w7⟩ := q.1
        refine ⟨⟨⟨w1, w2, w3⟩, ov_set w4 hgv, w5, ?_⟩, w7⟩
        rcases w6 with w | w
        · exact Or.inl w
        · exact Or.inr w
      have go : ¬ (a / g = g64 o 15 (Int32.toNatClampNeg x1) ∧ b / g = g64 o 16 (Int32.toNatClampNeg x1)) → ∃ (r : Bool) (n0 : Ob), F_Mod_set_111 x1 (a / g) (b / g) (s32 o 0 0 (0 : Int32)) = some (r, n0) ∧ okM n0 ∧ g32 n0 2 0 = g32 o 2 0 ∧ SB x1 a b o n0 r := by
        intro hne
        rw [F_Mod_set_111, i8, chk_tr]
        by_cases w : (g32 (s32 o 0 0 (0 : Int32)) 12 0) = 0
        · rw [if_pos w]
          exact ⟨true, _, rfl, oks, rfl, Or.inr (Or.inr ⟨hx, hv, rfl, g, hg, (decide_eq_true hne).symm, opts⟩)⟩
        · rw [if_neg w]
          have hP : PG (s64 (s64 (s32 o 0 0 (0 : Int32)) 15 (Int32.toNatClampNeg x1) (a / g)) 16 (Int32.toNatClampNeg x1) (b / g)) := pg_work oks w
          obtain ⟨n0, p1, p2, p3⟩ := m_set_137 fuel x1 0 _ oks hP (by omega) (by omega) (by rw [fuel_eq]; omega)
          refine ⟨true, n0, p1, p2.1, p2.2.1, Or.inr (Or.inr ⟨hx, hv, by rw [p3]; rfl, g, hg, (decide_eq_true hne).symm, fun j => ?_⟩)⟩
          rw [(p2.2.2 j).1, (p2.2.2 j).2]
          exact opts j
      by_cases w1 : (lg_cmp (a / g) (g64 o 15 (Int32.toNatClampNeg x1))) = 0
      · rw [if_pos w1]
        have w1 := lgc_eq.mp w1
        by_cases w2 : (lg_cmp (b / g) (g64 o 16 (Int32.toNatClampNeg x1))) = 0
        · rw [if_pos w2]
          have w2 := lgc_eq.mp w2
          refine ⟨false, _, rfl, q.1, q.2.1, Or.inr (Or.inr ⟨hx, hv, rfl, g, hg, (decide_eq_false (fun z => z ⟨w1, w2⟩)).symm, fun j => ?_⟩)⟩
          by_cases wj : j = Int32.toNatClampNeg x1
          · rw [if_pos wj, if_pos wj, wj]; exact ⟨w1.symm, w2.symm⟩
          · rw [if_neg wj, if_neg wj]; exact ⟨rfl, rfl⟩
        · rw [if_neg w2]; exact go (fun z => w2 (lgc_eq.mpr z.2))
      · rw [if_neg w1]; exact go (fun z => w1 (lgc_eq.mpr z.1))
    · rw [if_neg e4]
      have e4 : ¬ (-1000000000 : Int64).toInt ≤ a.toInt := fun z => e4 (lgc_ge.mpr z)
      exact no (by omega)
  · rw [if_neg d, F_Mod_set_52, if_neg (by decide)]
    have d : ¬ x1.toInt ≤ 7 := fun z => d (Int32.le_iff_toInt_le.mpr (by omega))
    have q := MD.c (v := 1) h
    exact ⟨_, _, rfl, q.1, q.2.1, Or.inl ⟨by omega, rfl, q.2.2⟩⟩
/-- the trial of check: the first option alone stands elsewhere -/
def CK (o n : Ob) : Prop := FR [0, 19, 22, 30, 31] [15, 16, 20, 21, 28, 29] o n ∧ OV n ∧ CV n ∧ (∀ j : Nat, ¬ j = 0 → g64 n 15 j = g64 o 15 j) ∧ (∀ j : Nat, g64 n 16 j = g64 o 16 j)
theorem CK.pg {o n : Ob} (h : PG o) (c : CK o n) : PG n := h.fr c.1 (by decide) (by decide) (by decide) (by decide) (by decide) (by decide) (by decide)
theorem CK.tr {o m n : Ob} (h : CK o m) (g : CK m n) : CK o n := ⟨FR.tr h.1 g.1, g.2.1, g.2.2.1, fun j hj => (g.2.2.2.1 j hj).trans (h.2.2.2.1 j hj), fun j => (g.2.2.2.2 j).trans (h.2.2.2.2 j)⟩
theorem ck_wk {o n : Ob} (hO : OV o) (m : WK o n) : CK o n := ⟨m.1.mono (by decide) (by decide), hO.fr m.1 (by decide) (by decide), m.2, fun j _ => m.1.w (by decide) j, fun j => m.1.w (by decide) j⟩
theorem ck_mk {o n : Ob} (hO : OV o) (hC : CV o) (m : MK o n) : CK o n := ⟨m.fw.mono (by decide) (by decide), hO.mk m, hC.mk m, fun j _ => m.fw.w (by decide) j, fun j => m.fw.w (by decide) j⟩
theorem ck_15 {o : Ob} {v : Int64} (hO : OV o) (hC : CV o) (hv : -1000000000 ≤ v.toInt ∧ v.toInt ≤ 1000000000) : CK o (s64 o 15 (Int32.toNatClampNeg (0 : Int32)) v) := by
  have f : FR [0, 19, 22, 30, 31] [15, 16, 20, 21, 28, 29] o (s64 o 15 (Int32.toNatClampNeg (0 : Int32)) v) := FR.l FR.refl (by decide)
  have e16 : ∀ j, g64 (s64 o 15 (Int32.toNatClampNeg (0 : Int32)) v) 16 j = g64 o 16 j := fun j => g64_other _ (by decide)
  have e15 : ∀ j, ¬ j = 0 → g64 (s64 o 15 (Int32.toNatClampNeg (0 : Int32)) v) 15 j = g64 o 15 j := fun j hj => by
    rw [g64_same]; exact if_neg hj
  refine ⟨f, fun j hj => ?_, fun j hj hs => hC j hj hs, e15, e16⟩
  obtain ⟨a1, a2, a3, a4⟩ := hO j hj
  rw [e16]
  by_cases c : j = 0
  · have e : g64 (s64 o 15 (Int32.toNatClampNeg (0 : Int32)) v) 15 j = v := by rw [g64_same]; exact if_pos c
    rw [e]
    exact ⟨hv.1, hv.2, a3, a4⟩
  · rw [e15 j c]; exact ⟨a1, a2, a3, a4⟩
theorem m_check_63 (x1 : Int32) (x2 x4 : Int64) (h1 : x1.toInt ≤ 50) (hx2 : -1000000000 ≤ x2.toInt ∧ x2.toInt ≤ 1000000000) : ∀ (n : Nat) (x6 x7 x8 : Int32) (o : Ob), PG o → OV o → CV o → g64 o 16 0 = x4 → 0 ≤ x8.toInt → x8.toInt ≤ 51 → 51 - x8.toInt < (n : Int) → ∃ (r : Int32) (n0 : Ob), F_Mod_check_63 n x1 x2 x4 x6 x7 x8 o = some (r, n0) ∧ CK o n0 ∧ g64 n0 15 0 = x2 ∧ g32 n0 0 0 = g32 o 0 0 := by
  intro n
  induction n with
  | zero => intro x6 x7 x8 o _ _ _ _ _ _ _; exfalso; omega
  | succ n ih =>
    intro x6 x7 x8 o hP hO hC h16 h8 h8b hn
    have l9 : (1000000000 : Int64).toInt = 1000000000 := by decide
    have l8 : (-1000000000 : Int64).toInt = -1000000000 := by decide
    rw [F_Mod_check_63]
    have i0 : (inb (0 : Int32) 8) = true := by decide
    have done : ∃ (r : Int32) (n0 : Ob), bind1 (F_Mod_work (s64 (s64 o 15 (Int32.toNatClampNeg (0 : Int32)) x2) 16 (Int32.toNatClampNeg (0 : Int32)) x4)) (fun o_11 => some (x6, o_11)) = some (r, n0) ∧ CK o n0 ∧ g64 n0 15 0 = x2 ∧ g32 n0 0 0 = g32 o 0 0 := by
      have c1 := ck_15 hO hC hx2
      have c2 : CK (s64 o 15 (Int32.toNatClampNeg (0 : Int32)) x2) (s64 (s64 o 15 (Int32.toNatClampNeg (0 : Int32)) x2) 16 (Int32.toNatClampNeg (0 : Int32)) x4) := by
        have f : FR [0, 19, 22, 30, 31] [15, 16, 20, 21, 28, 29] (s64 o 15 (Int32.toNatClampNeg (0 : Int32)) x2) (s64 (s64 o 15 (Int32.toNatClampNeg (0 : Int32)) x2) 16 (Int32.toNatClampNeg (0 : Int32)) x4) := FR.l FR.refl (by decide)
        have e16 : ∀ j, g64 (s64 (s64 o 15 (Int32.toNatClampNeg (0 : Int32)) x2) 16 (Int32.toNatClampNeg (0 : Int32)) x4) 16 j = g64 (s64 o 15 (Int32.toNatClampNeg (0 : Int32)) x2) 16 j := fun j => by
          rw [g64_same]
          by_cases c : j = 0
          · rw [if_pos (show j = Int32.toNatClampNeg (0 : Int32) from c), c1.2.2.2.2 j, c, h16]
          · rw [if_neg (show ¬ j = Int32.toNatClampNeg (0 : Int32) from c)]
        have e15 : ∀ j, g64 (s64 (s64 o 15 (Int32.toNatClampNeg (0 : Int32)) x2) 16 (Int32.toNatClampNeg (0 : Int32)) x4) 15 j = g64 (s64 o 15 (Int32.toNatClampNeg (0 : Int32)) x2) 15 j := fun j => g64_other _ (by decide)
        exact ⟨f, fun j hj => by rw [e15, e16]; exact c1.2.1 j hj, fun j hj hs => c1.2.2.1 j hj hs, fun j _ => e15 j, e16⟩
      have c3 := CK.tr c1 c2
      obtain ⟨m, q1, q2⟩ := m_work _ (CK.pg hP c3) c3.2.1 c3.2.2.1
      rw [q1, bind1_s]
      have c4 := ck_wk c3.2.1 q2
      refine ⟨_, m, rfl, CK.tr c3 c4, ?_, ?_⟩
      · rw [q2.1.w (by decide)]
        show g64 (s64 o 15 (Int32.toNatClampNeg (0 : Int32)) x2) 15 0 = x2
        exact g64_self ..
      · exact q2.1.g (by decide) 0
    by_cases c : x1 < x8
    · rw [if_pos c, i0, chk_tr]; exact done
    rw [if_neg c]
    have c : ¬ x1.toInt < x8.toInt := fun z => c (Int32.lt_iff_toInt_lt.mpr z)
    have e8 := add1 (x := x8) (by omega)
    by_cases d : x7 = 0
    · rw [if_pos d, i0, chk_tr]; exact done
    rw [if_neg d]
    have next : ∀ (m : Ob) (y6 y7 : Int32), CK o m → g32 m 0 0 = g32 o 0 0 → ∃ (r : Int32) (n0 : Ob), F_Mod_check_63 n x1 x2 x4 y6 y7 (x8 + (1 : Int32)) m = some (r, n0) ∧ CK o n0 ∧ g64 n0 15 0 = x2 ∧ g32 n0 0 0 = g32 o 0 0 := by
      intro m y6 y7 hm h0
      obtain ⟨r, n0, q1, q2, q3, q4⟩ := ih y6 y7 (x8 + (1 : Int32)) m (CK.pg hP hm) hm.2.1 hm.2.2.1 ((hm.2.2.2.2 0).trans h16) (by omega) (by omega) (by omega)
      exact ⟨r, n0, q1, CK.tr hm q2, q3, q4.trans h0⟩
    have stop : ∃ (r : Int32) (n0 : Ob), F_Mod_check_107 (F_Mod_check_63 n) x1 x2 x4 x6 x8 (x2 + ((Int32.toInt64 x8) * x4)) (0 : Int32) o = some (r, n0) ∧ CK o n0 ∧ g64 n0 15 0 = x2 ∧ g32 n0 0 0 = g32 o 0 0 := by
      rw [F_Mod_check_107, if_pos rfl]
      exact next o x6 0 ⟨FR.refl, hO, hC, fun _ _ => rfl, fun _ => rfl⟩ rfl
    by_cases f1 : 0 < (lg_cmp (x2 + ((Int32.toInt64 x8) * x4)) (1000000000 : Int64))
    · rw [if_pos f1]; exact stop
    rw [if_neg f1]
    have f1 : ¬ (1000000000 : Int64).toInt < (x2 + ((Int32.toInt64 x8) * x4)).toInt := fun z => f1 (lgc_gt.mpr z)
    by_cases f2 : (lg_cmp (x2 + ((Int32.toInt64 x8) * x4)) (-1000000000 : Int64)) < 0
    · rw [if_pos f2]; exact stop
    rw [if_neg f2]
    have f2 : ¬ (x2 + ((Int32.toInt64 x8) * x4)).toInt < (-1000000000 : Int64).toInt := fun z => f2 (lgc_lt.mpr z)
    have c1 := ck_15 (v := x2 + ((Int32.toInt64 x8) * x4)) hO hC (by omega)
    rw [F_Mod_check_107, if_neg (by decide), i0, chk_tr]
    obtain ⟨m, q1, q2⟩ := m_work _ (CK.pg hP c1) c1.2.1 c1.2.2.1
    rw [q1, bind1_s]
    have c2 := CK.tr c1 (ck_wk c1.2.1 q2)
    obtain ⟨v, t, t1, t2⟩ := m_anyBroken m (CK.pg hP c2) c2.2.1 c2.2.2.1
    rw [t1, bind2_s]
    have c3 := CK.tr c2 (ck_mk c2.2.1 c2.2.2.1 t2)
    have h0 : g32 t 0 0 = g32 o 0 0 := (congrFun (t2.1 0 (by decide) (by decide)) 0).trans (q2.1.g (by decide) 0)
    have last : ∀ y : Int32, ∃ (r : Int32) (n0 : Ob), F_Mod_check_139 (F_Mod_check_63 n) x1 x2 x4 x8 y t = some (r, n0) ∧ CK o n0 ∧ g64 n0 15 0 = x2 ∧ g32 n0 0 0 = g32 o 0 0 := by
      intro y
      rw [F_Mod_check_139]
      split
      · exact next t y 1 c3 h0
      · exact next t y 0 c3 h0
    split
    · exact last _
    · exact last _
theorem m_check (x1 : Int32) (o : Ob) (h : okM o) : ∃ (r : Int32) (n0 : Ob), F_Mod_check x1 o = some (r, n0) ∧ MD o n0 := by
  have z0 : (0 : Int32).toInt = 0 := rfl
  have z50 : (50 : Int32).toInt = 50 := rfl
  have no : ∀ y : Int32, ¬ y ≤ 0 → ∃ (r : Int32) (n0 : Ob), F_Mod_check_27 x1 y o = some (r, n0) ∧ MD o n0 := by
    intro y hy
    rw [F_Mod_check_27, if_neg hy]; exact ⟨_, _, rfl, MD.c h⟩
  rw [F_Mod_check]
  by_cases c : (g32 o 12 0) = 0
  · rw [if_pos c]; exact no 1 (by decide)
  rw [if_neg c]
  by_cases d : x1 < 0
  · rw [if_pos d]; exact no 2 (by decide)
  rw [if_neg d]
  by_cases e : x1 ≤ (50 : Int32)
  · rw [if_pos e]
    have e := Int32.le_iff_toInt_le.mp e
    rw [F_Mod_check_27, if_pos (by decide), show (inb (0 : Int32) 8) = true from by decide, chk_tr]
    have hP := pg_work h c
    have q := MD.c (v := 0) h
    have hP0 : PG (s32 o 0 0 (0 : Int32)) := hP.fr (FR.s FR.refl (by decide) : FR [0] [] o (s32 o 0 0 (0 : Int32))) (by decide) (by decide) (by decide) (by decide) (by decide) (by decide) (by decide)
    have hv := h.1.2.1 0 (by decide)
    obtain ⟨r, n0, q1, q2, q3, q4⟩ := m_check_63 x1 (g64 o 15 (Int32.toNatClampNeg (0 : Int32))) (g64 o 16 (Int32.toNatClampNeg (0 : Int32))) (by omega) ⟨hv.1, hv.2.1⟩ fuel (-1) 1 0 (s32 o 0 0 (0 : Int32)) hP0 q.1.1.2.1 q.1.1.2.2.1 rfl (by omega) (by omega) (by rw [fuel_eq]; omega)
    refine ⟨r, n0, q1, ?_⟩
    have so : SO (s32 o 0 0 (0 : Int32)) n0 := fun j => ⟨by
      by_cases w : j = 0
      · rw [w, q3]; rfl
      · exact q2.2.2.2.1 j w, q2.2.2.2.2 j⟩
    have f := q2.1
    obtain ⟨⟨⟨w1, w2, w3⟩, w4, w5, w6⟩, w7⟩ := q.1
    refine MD.tr q ⟨⟨⟨⟨by rw [f.g (by decide)]; exact w1, by rw [f.g (by decide)]; exact w2, fun j => by rw [f.g (by decide)]; exact w3 j⟩, q2.2.1, q2.2.2.1, Or.inr (CK.pg hP0 q2)⟩, fun j => by rw [f.g (by decide)]; exact w7 j⟩, f.g (by decide) 0, so⟩
  · rw [if_neg e]; exact no 2 (by decide)
theorem ix240 {p q : Int32} (h0 : 0 ≤ p.toInt) (h1 : p.toInt < 4) (h2 : 0 ≤ q.toInt) (h3 : q.toInt < 60) : (inb (((60 : Int32) * p) + q) 240) = true := by
  have e := ix60 h0 (by omega) h2 h3
  exact inb_iff.mpr ⟨by omega, by omega⟩
theorem m_version_35 : ∀ (n : Nat) (x1 : Int32) (o : Ob), okM o → (g32 o 24 0).toInt < 4 → 0 ≤ x1.toInt → x1.toInt ≤ 60 → 60 - x1.toInt < (n : Int) → ∃ (r : Int32) (n0 : Ob), F_Mod_version_35 n x1 o = some (r, n0) ∧ MD o n0 := by
  intro n
  induction n with
  | zero => intro x1 o _ _ _ _ _; exfalso; omega
  | succ n ih =>
    intro x1 o h h4 h1 h1b hn
    have z60 : (60 : Int32).toInt = 60 := rfl
    obtain ⟨⟨⟨a, b, w⟩, c, d, e⟩, h34⟩ := id h
    rw [F_Mod_version_35]
    by_cases cc : (60 : Int32) ≤ x1
    · rw [if_pos cc]
      have e1 := add1 (x := g32 o 24 0) (by omega)
      refine ⟨_, _, rfl, ⟨⟨⟨a, ?_, w⟩, c, d, e⟩, h34⟩, rfl, fun _ => ⟨rfl, rfl⟩⟩
      show 0 ≤ ((g32 o 24 0) + (1 : Int32)).toInt ∧ ((g32 o 24 0) + (1 : Int32)).toInt ≤ 4
      omega
    rw [if_neg cc]
    have cc : ¬ 60 ≤ x1.toInt := fun z => cc (Int32.le_iff_toInt_le.mpr (by omega))
    have e1 := add1 (x := x1) (by omega)
    rw [show (inb x1 60) = true from inb_iff.mpr ⟨by omega, by omega⟩, chk_tr, ix240 b.1 h4 h1 (by omega), chk_tr]
    have f : FR [25] [26, 27] o (s64 (s64 (s32 o 25 (Int32.toNatClampNeg (((60 : Int32) * (g32 o 24 0)) + x1)) (g32 o 19 (Int32.toNatClampNeg x1))) 26 (Int32.toNatClampNeg (((60 : Int32) * (g32 o 24 0)) + x1)) (g64 o 20 (Int32.toNatClampNeg x1))) 27 (Int32.toNatClampNeg (((60 : Int32) * (g32 o 24 0)) + x1)) (g64 o 21 (Int32.toNatClampNeg x1))) := FR.l (FR.l (FR.s FR.refl (by decide)) (by decide)) (by decide)
    have q := md_fr h f (d.fr f (by decide) (by decide) (by decide)) (fun j => by rw [f.g (by decide)]; exact h34 j) (by decide) (by decide) (by decide) (by decide) (by decide) (by decide) (by decide) (by decide) (by decide) (by decide) (by decide) (by decide) (by decide)
    obtain ⟨r, n0, p1, p2⟩ := ih (x1 + (1 : Int32)) _ q.1 h4 (by omega) (by omega) (by omega)
    exact ⟨r, n0, p1, MD.tr q p2⟩
theorem m_version (o : Ob) (h : okM o) : ∃ (r : Int32) (n0 : Ob), F_Mod_version o = some (r, n0) ∧ MD o n0 := by
  have z0 : (0 : Int32).toInt = 0 := rfl
  have z4 : (4 : Int32).toInt = 4 := rfl
  rw [F_Mod_version]
  by_cases c : (g32 o 12 0) = 0
  · rw [if_pos c, if_neg (by decide)]; exact ⟨_, _, rfl, MD.c h⟩
  rw [if_neg c]
  by_cases d : (4 : Int32) ≤ (g32 o 24 0)
  · rw [if_pos d, if_neg (by decide)]; exact ⟨_, _, rfl, MD.c h⟩
  · rw [if_neg d, if_pos (by decide)]
    have d : ¬ 4 ≤ (g32 o 24 0).toInt := fun z => d (Int32.le_iff_toInt_le.mpr (by omega))
    have q := MD.c (v := 0) h
    obtain ⟨r, n0, p1, p2⟩ := m_version_35 fuel 0 (s32 o 0 0 (0 : Int32)) q.1 (show (g32 o 24 0).toInt < 4 by omega) (by omega) (by omega) (by rw [fuel_eq]; omega)
    exact ⟨r, n0, p1, MD.tr q p2⟩
theorem m_differs_45 (x1 : Int32) : ∀ (n : Nat) (x3 x4 : Int32) (o : Ob), (g32 o 0 0 = 0 → 0 ≤ x1.toInt ∧ x1.toInt < 4) → 0 ≤ x4.toInt → x4.toInt ≤ 60 → 60 - x4.toInt < (n : Int) → ∃ (r : Int32), F_Mod_differs_45 n x1 x3 x4 o = some (r, o) := by
  intro n
  induction n with
  | zero => intro x3 x4 o _ _ _ _; exfalso; omega
  | succ n ih =>
    intro x3 x4 o hx h4 h4b hn
    have z60 : (60 : Int32).toInt = 60 := rfl
    rw [F_Mod_differs_45]
    have out : ∃ (r : Int32), (if (g32 o 0 0) ≤ 0 then (some ((-1 : Int32), o)) else (some ((0 : Int32), o))) = some (r, o) := by
      split
      · exact ⟨_, rfl⟩
      · exact ⟨_, rfl⟩
    by_cases c : (60 : Int32) ≤ x4
    · rw [if_pos c]; exact out
    rw [if_neg c]
    have c : ¬ 60 ≤ x4.toInt := fun z => c (Int32.le_iff_toInt_le.mpr (by omega))
    have e4 := add1 (x := x4) (by omega)
    by_cases d : (g32 o 0 0) = 0
    · rw [if_pos d, show (inb x4 60) = true from inb_iff.mpr ⟨by omega, by omega⟩, chk_tr, ix240 (hx d).1 (hx d).2 h4 (by omega), chk_tr]
      have go : ∀ y : Int32, ∃ (r : Int32), F_Mod_differs_45 n x1 y (x4 + (1 : Int32)) o = some (r, o) := fun y => ih y _ o hx (by omega) (by omega) (by omega)
      have two : ∃ (r : Int32), (if x3 = 0 then (some (x4, o)) else (F_Mod_differs_45 n x1 (x3 + (-1 : Int32)) (x4 + (1 : Int32)) o)) = some (r, o) := by
        split
        · exact ⟨_, rfl⟩
        · exact go _
      split
      · split
        · split
          · exact go _
          · exact two
        · exact two
      · exact two
    · rw [if_neg d]; exact out
theorem m_differs (x1 x2 : Int32) (o : Ob) (h : okM o) : ∃ (r : Int32) (n0 : Ob), F_Mod_differs x1 x2 o = some (r, n0) ∧ MD o n0 := by
  have z0 : (0 : Int32).toInt = 0 := rfl
  have b : 0 ≤ (g32 o 24 0).toInt ∧ (g32 o 24 0).toInt ≤ 4 := h.1.1.2.1
  have go : ∀ v : Int32, (v = 0 → 0 ≤ x1.toInt ∧ x1.toInt < 4) → ∃ (r : Int32) (n0 : Ob), F_Mod_differs_45 fuel x1 x2 (0 : Int32) (s32 o 0 0 v) = some (r, n0) ∧ MD o n0 := by
    intro v hv
    obtain ⟨r, e⟩ := m_differs_45 x1 fuel x2 0 (s32 o 0 0 v) hv (by omega) (by omega) (by rw [fuel_eq]; omega)
    exact ⟨r, _, e, MD.c h⟩
  rw [F_Mod_differs]
  by_cases c : (g32 o 12 0) = 0
  · rw [if_pos c]; exact go 1 (fun z => absurd z (by decide))
  rw [if_neg c]
  by_cases d : x1 < 0
  · rw [if_pos d]; exact go 2 (fun z => absurd z (by decide))
  rw [if_neg d]
  have d : ¬ x1.toInt < 0 := fun z => d (Int32.lt_iff_toInt_lt.mpr (by omega))
  by_cases e : x1 < (g32 o 24 0)
  · rw [if_pos e]
    have e := Int32.lt_iff_toInt_lt.mp e
    split
    · exact go 0 (fun _ => by omega)
    · exact go 3 (fun z => absurd z (by decide))
  · rw [if_neg e]; exact go 2 (fun z => absurd z (by decide))
