/-! THE REFERENCE: its calls -/
def okM (o : Ob) : Prop := okMod o ∧ S34 o
def SO (o n : Ob) : Prop := ∀ j : Nat, g64 n 15 j = g64 o 15 j ∧ g64 n 16 j = g64 o 16 j
/-- a call that leaves the collected text and the options -/
def MD (o n : Ob) : Prop := okM n ∧ g32 n 2 0 = g32 o 2 0 ∧ SO o n
theorem md_fr {S T : List Nat} {o n : Ob} (h : okM o) (f : FR S T o n) (hc : CV n) (h34 : S34 n) (h2 : 2 ∉ S) (h24 : 24 ∉ S) (h11 : 11 ∉ S) (h12 : 12 ∉ S) (h5 : 5 ∉ S) (h6 : 6 ∉ S) (h8 : 8 ∉ S) (h9 : 9 ∉ S) (h10 : 10 ∉ S) (h17 : 17 ∉ S) (h18 : 18 ∉ S) (h15 : 15 ∉ T) (h16 : 16 ∉ T) : MD o n :=
  ⟨⟨h.1.fr f hc h2 h24 h11 h12 h5 h6 h8 h9 h10 h17 h18 h15 h16, h34⟩, f.g h2 0, fun j => ⟨f.w h15 j, f.w h16 j⟩⟩
theorem MD.tr {o m n : Ob} (h : MD o m) (g : MD m n) : MD o n := ⟨g.1, g.2.1.trans h.2.1, fun j => ⟨(g.2.2 j).1.trans (h.2.2 j).1, (g.2.2 j).2.trans (h.2.2 j).2⟩⟩
theorem MD.refl {o : Ob} (h : okM o) : MD o o := ⟨h, rfl, fun _ => ⟨rfl, rfl⟩⟩
theorem MD.c {o : Ob} {v : Int32} (h : okM o) : MD o (s32 o 0 0 v) := by
  have f : FR [0] [] o (s32 o 0 0 v) := FR.s FR.refl (by decide)
  exact md_fr h f (h.1.2.2.1.fr f (by decide) (by decide) (by decide)) h.2 (by decide) (by decide) (by decide) (by decide) (by decide) (by decide) (by decide) (by decide) (by decide) (by decide) (by decide) (by decide) (by decide)
theorem pg_read {o : Ob} (h : okM o) (hr : ¬ g32 o 11 0 = 0) : PG o := by
  rcases h.1.2.2.2 with ⟨h1, _⟩ | h1
  · exact absurd (Int32.toInt_inj.mp h1) hr
  · exact h1
theorem pg_work {o : Ob} (h : okM o) (hr : ¬ g32 o 12 0 = 0) : PG o := by
  rcases h.1.2.2.2 with ⟨_, h1⟩ | h1
  · exact absurd (Int32.toInt_inj.mp h1) hr
  · exact h1
theorem nd01 {o : Ob} (h : okM o) : ∀ j, 0 ≤ (g32 o 18 j).toInt ∧ (g32 o 18 j).toInt ≤ 1 := h.1.1.2.2
theorem m_isCell (x0 x1 : Int32) : ∃ r, F_Mod_isCell x0 x1 = some r ∧ (r = true → (0 ≤ x0.toInt ∧ x0.toInt < 10) ∧ 0 ≤ x1.toInt ∧ x1.toInt < 6) := by
  have z0 : (0 : Int32).toInt = 0 := rfl
  have z10 : (10 : Int32).toInt = 10 := rfl
  have z6 : (6 : Int32).toInt = 6 := rfl
  rw [F_Mod_isCell]
  by_cases c : x0 < 0
  · rw [if_pos c]; exact ⟨false, rfl, fun z => (by cases z)⟩
  rw [if_neg c]
  by_cases d : (10 : Int32) ≤ x0
  · rw [if_pos d]; exact ⟨false, rfl, fun z => (by cases z)⟩
  rw [if_neg d]
  by_cases e : x1 < 0
  · rw [if_pos e]; exact ⟨false, rfl, fun z => (by cases z)⟩
  rw [if_neg e]
  by_cases f : (6 : Int32) ≤ x1
  · rw [if_pos f]; exact ⟨false, rfl, fun z => (by cases z)⟩
  rw [if_neg f]
  have c : ¬ x0.toInt < 0 := fun z => c (Int32.lt_iff_toInt_lt.mpr (by omega))
  have d : ¬ 10 ≤ x0.toInt := fun z => d (Int32.le_iff_toInt_le.mpr (by omega))
  have e : ¬ x1.toInt < 0 := fun z => e (Int32.lt_iff_toInt_lt.mpr (by omega))
  have f : ¬ 6 ≤ x1.toInt := fun z => f (Int32.le_iff_toInt_le.mpr (by omega))
  exact ⟨true, rfl, fun _ => by omega⟩
theorem m_unit (x1 : Int32) (o : Ob) (h : okM o) : ∃ (r : Bool) (n0 : Ob), F_Mod_unit x1 o = some (r, n0) ∧ okM n0 ∧ SO o n0 ∧ r = decide (33 ≤ x1.toInt ∧ x1.toInt ≤ 126 ∧ (g32 o 2 0).toInt < 400) ∧ (g32 n0 2 0).toInt = (g32 o 2 0).toInt + (if r = true then 1 else 0) := by
  obtain ⟨⟨⟨⟨a1, a2⟩, b, w⟩, c, d, e⟩, h34⟩ := id h
  have z33 : (33 : Int32).toInt = 33 := rfl
  have z126 : (126 : Int32).toInt = 126 := rfl
  have z400 : (400 : Int32).toInt = 400 := rfl
  have no : ¬ (33 ≤ x1.toInt ∧ x1.toInt ≤ 126 ∧ (g32 o 2 0).toInt < 400) → ∃ (r : Bool) (n0 : Ob), F_Mod_unit_32 x1 (0 : Int32) (s32 o 0 0 (0 : Int32)) = some (r, n0) ∧ okM n0 ∧ SO o n0 ∧ r = decide (33 ≤ x1.toInt ∧ x1.toInt ≤ 126 ∧ (g32 o 2 0).toInt < 400) ∧ (g32 n0 2 0).toInt = (g32 o 2 0).toInt + (if r = true then 1 else 0) := by
    intro hn
    have q := MD.c (v := 0) h
    refine ⟨false, s32 o 0 0 (0 : Int32), rfl, q.1, q.2.2, (decide_eq_false hn).symm, ?_⟩
    rw [if_neg (by decide)]
    show (g32 o 2 0).toInt = _
    omega
  rw [F_Mod_unit]
  by_cases c1 : (400 : Int32) ≤ (g32 o 2 0)
  · rw [if_pos c1]
    have c1 := Int32.le_iff_toInt_le.mp c1
    exact no (by omega)
  rw [if_neg c1]
  have c1 : ¬ 400 ≤ (g32 o 2 0).toInt := fun z => c1 (Int32.le_iff_toInt_le.mpr (by omega))
  by_cases c2 : x1 < (33 : Int32)
  · rw [if_pos c2]
    have c2 := Int32.lt_iff_toInt_lt.mp c2
    exact no (by omega)
  rw [if_neg c2]
  have c2 : ¬ x1.toInt < 33 := fun z => c2 (Int32.lt_iff_toInt_lt.mpr (by omega))
  by_cases c3 : (126 : Int32) < x1
  · rw [if_pos c3]
    have c3 := Int32.lt_iff_toInt_lt.mp c3
    exact no (by omega)
  rw [if_neg c3]
  have c3 : ¬ 126 < x1.toInt := fun z => c3 (Int32.lt_iff_toInt_lt.mpr (by omega))
  rw [F_Mod_unit_32, if_neg (by decide)]
  have i4 : (inb (g32 (s32 o 0 0 (0 : Int32)) 2 0) 400) = true := inb_iff.mpr ⟨a1, show (g32 o 2 0).toInt < ((400 : Nat) : Int) by omega⟩
  rw [i4, chk_tr, show (isB (1 : Int32)) = true from by decide, chk_tr]
  have e1 := add1 (x := g32 o 2 0) (by omega)
  have f : FR [0, 1, 2] [] o (s32 (s32 (s32 o 0 0 (0 : Int32)) 1 (Int32.toNatClampNeg (g32 (s32 o 0 0 (0 : Int32)) 2 0)) x1) 2 0 ((g32 (s32 o 0 0 (0 : Int32)) 2 0) + (1 : Int32))) := FR.s (FR.s (FR.s FR.refl (by decide)) (by decide)) (by decide)
  have e2 : (g32 (s32 (s32 (s32 o 0 0 (0 : Int32)) 1 (Int32.toNatClampNeg (g32 (s32 o 0 0 (0 : Int32)) 2 0)) x1) 2 0 ((g32 (s32 o 0 0 (0 : Int32)) 2 0) + (1 : Int32))) 2 0).toInt = (g32 o 2 0).toInt + 1 := e1
  refine ⟨true, _, rfl, ⟨⟨⟨by rw [e2]; omega, ?_, fun j => by rw [f.g (by decide)]; exact w j⟩, c.fr f (by decide) (by decide), d.fr f (by decide) (by decide) (by decide), ?_⟩, fun j => by rw [f.g (by decide)]; exact h34 j⟩, fun j => ⟨rfl, rfl⟩, (decide_eq_true (by omega)).symm, by rw [if_pos rfl]; exact e2⟩
  · rw [f.g (by decide)]; exact b
  · rcases e with e | e
    · exact Or.inl (by rw [f.g (by decide), f.g (by decide)]; exact e)
    · exact Or.inr (e.fr f (by decide) (by decide) (by decide) (by decide) (by decide) (by decide) (by decide))
theorem m_readM (o : Ob) (h : okM o) : ∃ (r : Int32) (n0 : Ob), F_Mod_read o = some (r, n0) ∧ okM n0 ∧ SO o n0 ∧ (g32 n0 2 0).toInt = 0 := by
  obtain ⟨⟨⟨a, b, w⟩, c, d, e⟩, h34⟩ := id h
  obtain ⟨r, n0, q1, q2, q3, q4, q5⟩ := m_read o a w
  refine ⟨r, n0, q1, ⟨⟨⟨by omega, by rw [q3.g (by decide)]; exact b, q4⟩, c.fr q3 (by decide) (by decide), d.fr q3 (by decide) (by decide) (by decide), ?_⟩, fun j => by rw [q3.g (by decide)]; exact h34 j⟩, fun j => ⟨q3.w (by decide) j, q3.w (by decide) j⟩, q2⟩
  rcases q5 with ⟨p1, p2, p3⟩ | p
  · rcases e with e | e
    · exact Or.inl (by rw [p1, p2]; exact e)
    · exact Or.inr (p3 e)
  · exact Or.inr p
theorem m_write (x1 : Int32) (o : Ob) (h : okM o) : ∃ (r : Int32) (n0 : Ob), F_Mod_write x1 o = some (r, n0) ∧ MD o n0 := by
  have z0 : (0 : Int32).toInt = 0 := rfl
  rw [F_Mod_write]
  by_cases c : (g32 o 11 0) = 0
  · rw [if_pos c, if_neg (by decide)]; exact ⟨_, _, rfl, MD.c h⟩
  rw [if_neg c]
  by_cases d : 0 ≤ x1
  · rw [if_pos d, if_pos (by decide)]
    have d := Int32.le_iff_toInt_le.mp d
    have hP := pg_read h c
    have f0 : FR [0, 33] [] o (s32 (s32 o 0 0 (0 : Int32)) 33 0 (0 : Int32)) := FR.s (FR.s FR.refl (by decide)) (by decide)
    obtain ⟨r, n0, q1, q2, q3⟩ := m_write_40 x1 (by omega) fuel 0 (s32 (s32 o 0 0 (0 : Int32)) 33 0 (0 : Int32)) (hP.fr f0 (by decide) (by decide) (by decide) (by decide) (by decide) (by decide) (by decide)) h.2 (by omega) (by have : 0 ≤ (g32 o 8 0).toInt := hP.1.1; exact this) (show 0 ≤ (0 : Int32).toInt by omega) (by
      show (0 : Int32).toInt ≤ 4 * (0 : Int32).toInt + wsm (o.1 5) (o.1 6) 0 (Int32.toNatClampNeg (o.1 9 0))
      have w := wsm_le (sg := o.1 5) (ag := o.1 6) (b := 0) 0 (Int32.toNatClampNeg (o.1 9 0)) (by omega)
      have : wsm (o.1 5) (o.1 6) 0 0 = 0 := rfl
      omega) (by rw [fuel_eq]; omega)
    have f : FR [0, 32, 33, 34, 35] [] o n0 := FR.tr (f0.mono (by decide) (by decide)) (q2.mono (by decide) (by decide))
    exact ⟨r, n0, q1, md_fr h f (h.1.2.2.1.fr f (by decide) (by decide) (by decide)) q3 (by decide) (by decide) (by decide) (by decide) (by decide) (by decide) (by decide) (by decide) (by decide) (by decide) (by decide) (by decide) (by decide)⟩
  · rw [if_neg d, if_neg (by decide)]; exact ⟨_, _, rfl, MD.c h⟩
theorem cell6 {x1 x2 : Int32} (h : (0 ≤ x1.toInt ∧ x1.toInt < 10) ∧ 0 ≤ x2.toInt ∧ x2.toInt < 6) : (inb (((6 : Int32) * x1) + x2) 60) = true := by
  have e := cellno h.1.1 h.1.2 h.2.1 h.2.2
  exact inb_iff.mpr ⟨by omega, by omega⟩
theorem m_state (x1 x2 : Int32) (o : Ob) (h : okM o) : ∃ (r : Int32) (n0 : Ob), F_Mod_state x1 x2 o = some (r, n0) ∧ MD o n0 := by
  rw [F_Mod_state]
  by_cases c : (g32 o 12 0) = 0
  · rw [if_pos c, F_Mod_state_25, if_neg (by decide)]; exact ⟨_, _, rfl, MD.c h⟩
  rw [if_neg c]
  obtain ⟨v, ev, hv⟩ := m_isCell x1 x2
  rw [ev, bind1_s]
  by_cases d : (b2i v) = 0
  · rw [if_pos d, F_Mod_state_25, if_neg (by decide)]; exact ⟨_, _, rfl, MD.c h⟩
  · rw [if_neg d, F_Mod_state_25, if_pos (by decide), cell6 (hv (b2i_1 d)), chk_tr]; exact ⟨_, _, rfl, MD.c h⟩
theorem m_size (x1 x2 x3 : Int32) (o : Ob) (h : okM o) : ∃ (r : Int64) (n0 : Ob), F_Mod_size x1 x2 x3 o = some (r, n0) ∧ MD o n0 := by
  have no : ∀ y : Int32, ¬ y ≤ 0 → ∃ (r : Int64) (n0 : Ob), F_Mod_size_53 x1 x2 x3 y o = some (r, n0) ∧ MD o n0 := by
    intro y hy
    rw [F_Mod_size_53, if_neg hy]; exact ⟨_, _, rfl, MD.c h⟩
  rw [F_Mod_size]
  obtain ⟨v, ev, hv⟩ := m_isCell x1 x2
  rw [ev, bind1_s]
  by_cases d : (b2i v) = 0
  · rw [if_pos d]; exact no 1 (by decide)
  rw [if_neg d]
  have i6 := cell6 (hv (b2i_1 d))
  split
  · exact no 2 (by decide)
  split
  · split
    · exact no 3 (by decide)
    · rw [i6, chk_tr]
      split
      · rw [F_Mod_size_53, if_pos (by decide)]
        split
        · rw [i6, chk_tr]; exact ⟨_, _, rfl, MD.c h⟩
        · rw [i6, chk_tr]; exact ⟨_, _, rfl, MD.c h⟩
      · exact no 3 (by decide)
  · exact no 2 (by decide)
theorem m_condition (x1 x2 : Int32) (o : Ob) (h : okM o) : ∃ (r : Int32) (n0 : Ob), F_Mod_condition x1 x2 o = some (r, n0) ∧ MD o n0 := by
  rw [F_Mod_condition]
  by_cases c : (g32 o 12 0) = 0
  · rw [if_pos c, F_Mod_condition_25, if_neg (by decide)]; exact ⟨_, _, rfl, MD.c h⟩
  rw [if_neg c]
  obtain ⟨v, ev, hv⟩ := m_isCell x1 x2
  rw [ev, bind1_s]
  by_cases d : (b2i v) = 0
  · rw [if_pos d, F_Mod_condition_25, if_neg (by decide)]; exact ⟨_, _, rfl, MD.c h⟩
  · rw [if_neg d, F_Mod_condition_25, if_pos (by decide), cell6 (hv (b2i_1 d)), chk_tr]
    split
    · exact ⟨_, _, rfl, MD.c h⟩
    · exact ⟨_, _, rfl, MD.c h⟩
theorem m_line (x1 x2 : Int32) (o : Ob) (h : okM o) : ∃ (r : Int32) (n0 : Ob), F_Mod_line x1 x2 o = some (r, n0) ∧ MD o n0 := by
  rw [F_Mod_line]
  by_cases c : (g32 o 11 0) = 0
  · rw [if_pos c, F_Mod_line_25, if_neg (by decide)]; exact ⟨_, _, rfl, MD.c h⟩
  rw [if_neg c]
  obtain ⟨v, ev, hv⟩ := m_isCell x1 x2
  rw [ev, bind1_s]
  by_cases d : (b2i v) = 0
  · rw [if_pos d, F_Mod_line_25, if_neg (by decide)]; exact ⟨_, _, rfl, MD.c h⟩
  · rw [if_neg d, F_Mod_line_25, if_pos (by decide), cell6 (hv (b2i_1 d)), chk_tr]; exact ⟨_, _, rfl, MD.c h⟩
theorem m_needs (x1 x2 : Int32) (o : Ob) (h : okM o) : ∃ (r : Bool) (n0 : Ob), F_Mod_needs x1 x2 o = some (r, n0) ∧ MD o n0 := by
  have z0 : (0 : Int32).toInt = 0 := rfl
  have z60 : (60 : Int32).toInt = 60 := rfl
  have no : ∀ y : Int32, ¬ y = 0 → ∃ (r : Bool) (n0 : Ob), F_Mod_needs_47 x1 x2 y o = some (r, n0) ∧ MD o n0 := by
    intro y hy
    rw [F_Mod_needs_47, if_neg hy]; exact ⟨_, _, rfl, MD.c h⟩
  have no2 : ∃ (r : Bool) (n0 : Ob), F_Mod_needs_25 x1 x2 (0 : Int32) o = some (r, n0) ∧ MD o n0 := by
    rw [F_Mod_needs_25]
    split
    · exact no 1 (by decide)
    · rw [if_pos rfl]; exact no 2 (by decide)
  rw [F_Mod_needs]
  by_cases c1 : x1 < 0
  · rw [if_pos c1]; exact no2
  rw [if_neg c1]
  by_cases c2 : (60 : Int32) ≤ x1
  · rw [if_pos c2]; exact no2
  rw [if_neg c2]
  by_cases c3 : x2 < 0
  · rw [if_pos c3]; exact no2
  rw [if_neg c3]
  by_cases c4 : (60 : Int32) ≤ x2
  · rw [if_pos c4]; exact no2
  rw [if_neg c4, F_Mod_needs_25]
  have c1 : ¬ x1.toInt < 0 := fun z => c1 (Int32.lt_iff_toInt_lt.mpr (by omega))
  have c2 : ¬ 60 ≤ x1.toInt := fun z => c2 (Int32.le_iff_toInt_le.mpr (by omega))
  have c3 : ¬ x2.toInt < 0 := fun z => c3 (Int32.lt_iff_toInt_lt.mpr (by omega))
  have c4 : ¬ 60 ≤ x2.toInt := fun z => c4 (Int32.le_iff_toInt_le.mpr (by omega))
  split
  · exact no 1 (by decide)
  · have e := ix60 (p := x1) (q := x2) (by omega) (by omega) (by omega) (by omega)
    rw [if_neg (by decide), F_Mod_needs_47, if_pos rfl, show (inb (((60 : Int32) * x1) + x2) 3600) = true from inb_iff.mpr ⟨by omega, by omega⟩, chk_tr]
    split
    · exact ⟨_, _, rfl, MD.c h⟩
    · exact ⟨_, _, rfl, MD.c h⟩
theorem m_ring_28 : ∀ (n : Nat) (x2 x3 : Int32) (o : Ob), okM o → 0 ≤ x3.toInt → x3.toInt ≤ 60 → 60 - x3.toInt < (n : Int) → ∃ (r : Int32), F_Mod_ring_28 n x2 x3 o = some (r, o) := by
  intro n
  induction n with
  | zero => intro x2 x3 o _ _ _ _; exfalso; omega
  | succ n ih =>
    intro x2 x3 o h h3 h3b hn
    have z60 : (60 : Int32).toInt = 60 := rfl
    rw [F_Mod_ring_28]
    by_cases c : (60 : Int32) ≤ x3
    · rw [if_pos c]
      split
      · exact ⟨_, rfl⟩
      · exact ⟨_, rfl⟩
    rw [if_neg c]
    have c : ¬ 60 ≤ x3.toInt := fun z => c (Int32.le_iff_toInt_le.mpr (by omega))
    have e3 := add1 (x := x3) (by omega)
    split
    · obtain ⟨v, ev⟩ := m_isRing x3 o (nd01 h) h3 (by omega)
      rw [ev, bind1_s]
      split
      · exact ih x2 _ o h (by omega) (by omega) (by omega)
      · split
        · exact ⟨_, rfl⟩
        · exact ih _ _ o h (by omega) (by omega) (by omega)
    · split
      · exact ⟨_, rfl⟩
      · exact ⟨_, rfl⟩
theorem m_ring (x1 : Int32) (o : Ob) (h : okM o) : ∃ (r : Int32) (n0 : Ob), F_Mod_ring x1 o = some (r, n0) ∧ MD o n0 := by
  have z0 : (0 : Int32).toInt = 0 := rfl
  have go : ∀ v : Int32, ∃ (r : Int32) (n0 : Ob), F_Mod_ring_28 fuel x1 (0 : Int32) (s32 o 0 0 v) = some (r, n0) ∧ MD o n0 := by
    intro v
    have q := MD.c (v := v) h
    obtain ⟨r, e⟩ := m_ring_28 fuel x1 0 (s32 o 0 0 v) q.1 (by omega) (by omega) (by rw [fuel_eq]; omega)
    exact ⟨r, _, e, q⟩
  rw [F_Mod_ring]
  split
  · exact go 1
  · split
    · exact go 0
    · exact go 2
theorem m_reckonedM (o : Ob) (h : okM o) : ∃ (r : Int64) (n0 : Ob), F_Mod_reckoned o = some (r, n0) ∧ MD o n0 := ⟨_, _, rfl, MD.c h⟩
theorem m_same (o : Ob) (h : okM o) : ∃ (r : Bool) (n0 : Ob), F_Mod_same o = some (r, n0) ∧ MD o n0 := by
  rw [F_Mod_same, F_Mod_noWork]
  by_cases c : (g32 o 12 0) = 0
  · rw [if_pos c, if_neg (by decide), bind2_s, if_neg (by decide)]; exact ⟨_, _, rfl, MD.c h⟩
  · rw [if_neg c, if_pos (by decide), bind2_s, if_pos (by decide)]; exact ⟨_, _, rfl, MD.c h⟩
theorem md_mk {o n : Ob} (h : okM o) (m : MK o n) : MD o n := by
  have f := m.fr
  exact md_fr h f (h.1.2.2.1.mk m) (fun j => by rw [f.g (by decide)]; exact h.2 j) (by decide) (by decide) (by decide) (by decide) (by decide) (by decide) (by decide) (by decide) (by decide) (by decide) (by decide) (by decide) (by decide)
theorem md_wk {o n : Ob} (h : okM o) (m : WK o n) : MD o n := md_fr h m.1 m.2 (fun j => by rw [m.1.g (by decide)]; exact h.2 j) (by decide) (by decide) (by decide) (by decide) (by decide) (by decide) (by decide) (by decide) (by decide) (by decide) (by decide) (by decide) (by decide)
theorem m_broken (x1 : Int32) (o : Ob) (hP : PG o) (hO : OV o) (hC : CV o) (h1 : 0 ≤ x1.toInt) (h1b : x1.toInt < (g32 o 8 0).toInt) : ∃ (r : Int32) (n0 : Ob), F_Mod_broken x1 o = some (r, n0) ∧ MK o n0 := by
  have q0 : (g32 o 8 0).toInt ≤ 24 := hP.1.2
  have e1 := add1 (x := x1) (by omega)
  obtain ⟨⟨b0, b1, b2⟩, ⟨⟨s1, s2, s3, s4⟩, hS, _⟩⟩ := hP.stm (s := x1) h1 h1b
  have cb := clampI b0
  have ce := clampI (x := g32 o 9 (Int32.toNatClampNeg (x1 + 1))) (by omega)
  rw [F_Mod_broken, show (inb x1 50) = true from inb_iff.mpr ⟨h1, by omega⟩, chk_tr, show (inb (x1 + (1 : Int32)) 50) = true from inb_iff.mpr ⟨by omega, by omega⟩, chk_tr]
  obtain ⟨v4, m, q1, q2, q3, q4, q5, q6⟩ := m_reckon (o.1 5) (o.1 6) _ _ hS s1 (by omega) (g32 o 9 (Int32.toNatClampNeg x1)) (g32 o 9 (Int32.toNatClampNeg (x1 + 1))) o rfl rfl hO hC ce.symm (by omega) (by omega) (by rw [Nat.sub_self]; rfl)
  rw [q1, bind2_s]
  split
  · rw [show (inb v4 1000) = true from inb_iff.mpr ⟨by omega, by omega⟩, chk_tr]
    obtain ⟨v9, e9⟩ := m_compares (g32 m 6 (Int32.toNatClampNeg v4)) m
    rw [e9, bind1_s]
    split
    · exact ⟨_, _, rfl, q2⟩
    · exact ⟨_, _, rfl, q2⟩
  · exact ⟨_, _, rfl, q2⟩
theorem pg_mk {o n : Ob} (h : PG o) (m : MK o n) : PG n := h.fr m.fr (by decide) (by decide) (by decide) (by decide) (by decide) (by decide) (by decide)
theorem m_anyBroken_4 : ∀ (n : Nat) (x1 x2 : Int32) (o : Ob), PG o → OV o → CV o → 0 ≤ x2.toInt → x2.toInt ≤ 24 → 24 - x2.toInt < (n : Int) → ∃ (r : Int32) (n0 : Ob), F_Mod_anyBroken_4 n x1 x2 o = some (r, n0) ∧ MK o n0 := by
  intro n
  induction n with
  | zero => intro x1 x2 o _ _ _ _ _ _; exfalso; omega
  | succ n ih =>
    intro x1 x2 o hP hO hC h2 h2b hn
    have q0 : (g32 o 8 0).toInt ≤ 24 := hP.1.2
    rw [F_Mod_anyBroken_4, show (inb (0 : Int32) 2) = true from by decide, chk_tr]
    by_cases c : (g32 o 8 (Int32.toNatClampNeg (0 : Int32))) ≤ x2
    · rw [if_pos c]; exact ⟨_, _, rfl, MK.refl⟩
    rw [if_neg c]
    have c : ¬ (g32 o 8 0).toInt ≤ x2.toInt := fun z => c (Int32.le_iff_toInt_le.mpr z)
    have e2 := add1 (x := x2) (by omega)
    rw [show (inb x2 50) = true from inb_iff.mpr ⟨h2, by omega⟩, chk_tr]
    split
    · exact ih x1 _ o hP hO hC (by omega) (by omega) (by omega)
    · obtain ⟨v, m, q1, q2⟩ := m_broken x2 o hP hO hC h2 (by omega)
      rw [q1, bind2_s]
      have go : ∀ y : Int32, ∃ (r : Int32) (n0 : Ob), F_Mod_anyBroken_4 n y (x2 + (1 : Int32)) m = some (r, n0) ∧ MK o n0 := by
        intro y
        obtain ⟨r, n0, p1, p2⟩ := ih y (x2 + (1 : Int32)) m (pg_mk hP q2) (hO.mk q2) (hC.mk q2) (by omega) (by omega) (by omega)
        exact ⟨r, n0, p1, MK.tr q2 p2⟩
      split
      · exact go _
      · exact go _
theorem m_anyBroken (o : Ob) (hP : PG o) (hO : OV o) (hC : CV o) : ∃ (r : Int32) (n0 : Ob), F_Mod_anyBroken o = some (r, n0) ∧ MK o n0 := by
  have z0 : (0 : Int32).toInt = 0 := rfl
  exact m_anyBroken_4 fuel 0 0 o hP hO hC (by omega) (by omega) (by rw [fuel_eq]; omega)
theorem m_limit_38 : ∀ (n : Nat) (x2 x3 x4 : Int32) (o : Ob), (PG o ∨ (¬ g32 o 0 0 = 0 ∧ (g32 o 8 0).toInt ≤ 24)) → OV o → CV o → 0 ≤ x4.toInt → x4.toInt ≤ 24 → 24 - x4.toInt < (n : Int) → ∃ (r : Int32) (n0 : Ob), F_Mod_limit_38 n x2 x3 x4 o = some (r, n0) ∧ MK o n0 := by
  intro n
  induction n with
  | zero => intro x2 x3 x4 o _ _ _ _ _ _; exfalso; omega
  | succ n ih =>
    intro x2 x3 x4 o hh hO hC h4 h4b hn
    rw [F_Mod_limit_38, show (inb (0 : Int32) 2) = true from by decide, chk_tr]
    have out : ∃ (r : Int32) (n0 : Ob), (if (g32 o 0 0) ≤ 0 then (some ((-1 : Int32), o)) else (some ((0 : Int32), o))) = some (r, n0) ∧ MK o n0 := by
      split
      · exact ⟨_, _, rfl, MK.refl⟩
      · exact ⟨_, _, rfl, MK.refl⟩
    by_cases c : (g32 o 8 (Int32.toNatClampNeg (0 : Int32))) ≤ x4
    · rw [if_pos c]; exact out
    rw [if_neg c]
    have c : ¬ (g32 o 8 0).toInt ≤ x4.toInt := fun z => c (Int32.le_iff_toInt_le.mpr z)
    by_cases d : (g32 o 0 0) = 0
    · rw [if_pos d]
      have hP : PG o := by
        rcases hh with h | h
        · exact h
        · exact absurd d h.1
      have q0 : (g32 o 8 0).toInt ≤ 24 := hP.1.2
      have e4 := add1 (x := x4) (by omega)
      rw [show (inb x4 50) = true from inb_iff.mpr ⟨h4, by omega⟩, chk_tr]
      split
      · exact ih x2 x3 _ o hh hO hC (by omega) (by omega) (by omega)
      · obtain ⟨v, m, q1, q2⟩ := m_broken x4 o hP hO hC h4 (by omega)
        have mP := pg_mk hP q2
        have mO := hO.mk q2
        have mC := hC.mk q2
        have m8 : g32 m 8 0 = g32 o 8 0 := congrFun (q2.1 8 (by decide) (by decide)) 0
        rw [q1, bind2_s]
        have go : ∀ y : Int32, ∃ (r : Int32) (n0 : Ob), F_Mod_limit_38 n x2 y (x4 + (1 : Int32)) m = some (r, n0) ∧ MK o n0 := by
          intro y
          obtain ⟨r, n0, p1, p2⟩ := ih x2 y (x4 + (1 : Int32)) m (Or.inl mP) mO mC (by omega) (by omega) (by omega)
          exact ⟨r, n0, p1, MK.tr q2 p2⟩
        split
        · exact go _
        · split
          · split
            · exact ⟨_, _, rfl, q2⟩
            · obtain ⟨w, t, t1, t2⟩ := m_broken x4 m mP mO mC h4 (by rw [m8]; omega)
              rw [t1, bind2_s]
              exact ⟨_, _, rfl, MK.tr q2 t2⟩
          · exact go _
    · rw [if_neg d]; exact out
theorem m_limit (x1 x2 : Int32) (o : Ob) (h : okM o) : ∃ (r : Int32) (n0 : Ob), F_Mod_limit x1 x2 o = some (r, n0) ∧ MD o n0 := by
  have z0 : (0 : Int32).toInt = 0 := rfl
  have go : ∀ v : Int32, (PG o ∨ ¬ v = 0) → ∃ (r : Int32) (n0 : Ob), F_Mod_limit_38 fuel x2 x1 (0 : Int32) (s32 o 0 0 v) = some (r, n0) ∧ MD o n0 := by
    intro v hv
    have q := MD.c (v := v) h
    by_cases c : (g32 o 8 (Int32.toNatClampNeg (0 : Int32))) ≤ 0
    · have hf : fuel = 999999 + 1 := rfl
      have e : F_Mod_limit_38 fuel x2 x1 (0 : Int32) (s32 o 0 0 v) = (if (g32 (s32 o 0 0 v) 0 0) ≤ 0 then (some ((-1 : Int32), (s32 o 0 0 v))) else (some ((0 : Int32), (s32 o 0 0 v)))) := by
        rw [hf, F_Mod_limit_38, show (inb (0 : Int32) 2) = true from by decide, chk_tr]
        exact if_pos c
      rw [e]
      split
      · exact ⟨_, _, rfl, q⟩
      · exact ⟨_, _, rfl, q⟩
    · by_cases d : v = 0
      · have hP : PG o := by
          rcases hv with h | h
          · exact h
          · exact absurd d h
        have f0 : FR [0] [] o (s32 o 0 0 v) := FR.s FR.refl (by decide)
        obtain ⟨r, n0, p1, p2⟩ := m_limit_38 fuel x2 x1 0 (s32 o 0 0 v) (Or.inl (hP.fr f0 (by decide) (by decide) (by decide) (by decide) (by decide) (by decide) (by decide))) q.1.1.2.1 q.1.1.2.2.1 (by omega) (by omega) (by rw [fuel_eq]; omega)
        exact ⟨r, n0, p1, MD.tr q (md_mk q.1 p2)⟩
      · have hf : fuel = 999999 + 1 := rfl
        have e : F_Mod_limit_38 fuel x2 x1 (0 : Int32) (s32 o 0 0 v) = (if (g32 (s32 o 0 0 v) 0 0) ≤ 0 then (some ((-1 : Int32), (s32 o 0 0 v))) else (some ((0 : Int32), (s32 o 0 0 v)))) := by
          rw [hf, F_Mod_limit_38, show (inb (0 : Int32) 2) = true from by decide, chk_tr]
          exact (if_neg c).trans (if_neg d)
        rw [e]
        split
        · exact ⟨_, _, rfl, q⟩
        · exact ⟨_, _, rfl, q⟩
  rw [F_Mod_limit]
  by_cases c : (g32 o 12 0) = 0
  · rw [if_pos c]; exact go 1 (Or.inr (by decide))
  rw [if_neg c]
  split
  · exact go 2 (Or.inr (by decide))
  split
  · exact go 2 (Or.inr (by decide))
  split
  · exact go 0 (Or.inl (pg_work h c))
  · exact go 2 (Or.inr (by decide))
