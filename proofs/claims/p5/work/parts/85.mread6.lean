/-! THE REFERENCE: conditions, choices, statements -/
def YE (o n : Ob) : Prop := FR [3, 4, 5, 6, 7, 13, 14] [] o n ∧ (∀ k : Nat, (k : Int) < 500 + (g32 o 7 1).toInt → n.1 5 k = o.1 5 k ∧ n.1 6 k = o.1 6 k) ∧ (g32 o 7 1).toInt ≤ (g32 n 7 1).toInt
theorem XE.y {o n : Ob} (h : XE o n) : YE o n := ⟨h.1, h.2.1, h.2.2.1⟩
theorem YE.refl {o : Ob} : YE o o := XE.refl.y
theorem YE.tr {o n m : Ob} (h : YE o n) (g : YE n m) : YE o m := by
  obtain ⟨h1, h2, h3⟩ := h
  obtain ⟨g1, g2, g3⟩ := g
  refine ⟨FR.tr h1 g1, fun k hk => ?_, by omega⟩
  have q := g2 k (by omega)
  have p := h2 k hk
  exact ⟨q.1.trans p.1, q.2.trans p.2⟩
theorem YE.e {o n : Ob} {s a : Int32} (h : YE o n) (h0 : 0 ≤ (g32 n 7 1).toInt) (h1 : (g32 n 7 1).toInt < 500) : YE o (em n s a) := by
  obtain ⟨g1, g2, g3⟩ := h
  have c := clampI h0
  have e := add1 (x := g32 n 7 1) (by omega)
  refine ⟨FR.s (FR.s (FR.s g1 (by decide)) (by decide)) (by decide), fun k hk => ?_, by rw [em_7]; omega⟩
  have n5 : (em n s a).1 5 k = n.1 5 k := if_neg (by omega)
  have n6 : (em n s a).1 6 k = n.1 6 k := if_neg (by omega)
  rw [n5, n6]; exact g2 k hk
theorem SX.lo {o : Ob} {L L' : Int} {b : Nat} {D : Int} (h : SX o L b D) (hL : L' ≤ L) : SX o L' b D := by
  obtain ⟨⟨⟨l1, l3, l4, l5, l6⟩, lf⟩, hS⟩ := h
  exact ⟨⟨⟨l1, by omega, l4, l5, l6⟩, lf⟩, hS⟩
theorem SF.lo {o : Ob} {K K' L L' : Int} (h : SF o K L) (hK : K ≤ K') (hL : L' ≤ L) : SF o K' L' := by
  obtain ⟨⟨l1, l3, l4, l5, l6⟩, lf⟩ := h
  exact ⟨⟨l1, by omega, by omega, l5, l6⟩, lf⟩
theorem SX.step {o : Ob} {L : Int} {b : Nat} {D : Int} (h : SX o L b D) (ha : (g32 o 3 0).toInt < (g32 o 2 0).toInt) : SX (s32 o 3 0 ((g32 o 3 0) + (1 : Int32))) (L + 1) b D := by
  obtain ⟨⟨⟨l1, l3, l4, l5, l6⟩, lf⟩, hS⟩ := h
  have e := add1 (x := g32 o 3 0) (by omega)
  refine ⟨⟨⟨l1, ?_, ?_, l5, l6⟩, lf⟩, ?_⟩
  · show (g32 o 7 1).toInt + (L + 1) ≤ ((g32 o 3 0) + (1 : Int32)).toInt; omega
  · show ((g32 o 3 0) + (1 : Int32)).toInt ≤ (g32 o 2 0).toInt; omega
  · have q := hS.mono (A' := 2 * ((g32 o 3 0) + (1 : Int32)).toInt) (by omega)
    exact q
theorem SF.step {o : Ob} {K L : Int} (h : SF o K L) (hK : K ≤ 50) : SF (s32 o 3 0 ((g32 o 3 0) + (1 : Int32))) (K + 1) (L + 1) := by
  obtain ⟨⟨l1, l3, l4, l5, l6⟩, lf⟩ := h
  have e := add1 (x := g32 o 3 0) (by omega)
  refine ⟨⟨l1, ?_, ?_, l5, l6⟩, lf⟩
  · show (g32 o 7 1).toInt + (L + 1) ≤ ((g32 o 3 0) + (1 : Int32)).toInt; omega
  · show ((g32 o 3 0) + (1 : Int32)).toInt ≤ (g32 o 2 0).toInt + (K + 1); omega
theorem SX.fail {o : Ob} {L : Int} {b : Nat} {D : Int} {v : Int32} (h : SX o L b D) (hv : 0 ≤ v.toInt) : SF (s32 o 4 0 v) 0 L := by
  obtain ⟨⟨⟨l1, l3, l4, l5, l6⟩, lf⟩, hS⟩ := h
  exact ⟨⟨l1, l3, show (g32 o 3 0).toInt ≤ (g32 o 2 0).toInt + 0 by omega, l5, l6⟩, hv⟩
theorem SX.c9 {o : Ob} {L : Int} {b : Nat} {a : Int32} (h : SX o (L + 1) b 2) (hL : 0 ≤ L) : SX (em o 9 a) L b 0 := by
  obtain ⟨⟨⟨l1, l3, l4, l5, l6⟩, lf⟩, hS⟩ := h
  have e := add1 (x := g32 o 7 1) (by omega)
  have cs := clampS (x := g32 o 7 1) l1 (by omega)
  have z9 : (9 : Int32).toInt = 9 := rfl
  refine ⟨⟨⟨?_, ?_, l4, l5, l6⟩, lf⟩, ?_⟩
  · show 0 ≤ ((g32 o 7 1) + (1 : Int32)).toInt; omega
  · show ((g32 o 7 1) + (1 : Int32)).toInt + L ≤ (g32 o 3 0).toInt; omega
  · have en := nxt_9 (x := 9) (by omega) 2
    have q := hS.app (x := 9) (y := a) (B := 0) ⟨by omega, fun z => by omega, fun z => by omega, fun z => by omega, fun z => by omega, fun z z2 => by omega, fun _ => rfl, fun z => by omega⟩ (by rw [en, wt_9 z9]; omega)
    rw [en, Int.add_zero] at q
    show DS (upd (o.1 5) (500 + Int32.toNatClampNeg (g32 o 7 1)) 9) (upd (o.1 6) (500 + Int32.toNatClampNeg (g32 o 7 1)) a) b (Int32.toNatClampNeg ((g32 o 7 1) + (1 : Int32))) 0 (2 * (g32 o 3 0).toInt)
    rw [cs]; exact q
theorem SX.c10 {o : Ob} {L : Int} {b : Nat} {a : Int32} (h : SX o (L + 1) b 1) (hL : 0 ≤ L) : SX (em o 10 a) L b 0 := by
  obtain ⟨⟨⟨l1, l3, l4, l5, l6⟩, lf⟩, hS⟩ := h
  have e := add1 (x := g32 o 7 1) (by omega)
  have cs := clampS (x := g32 o 7 1) l1 (by omega)
  have z9 : (10 : Int32).toInt = 10 := rfl
  refine ⟨⟨⟨?_, ?_, l4, l5, l6⟩, lf⟩, ?_⟩
  · show 0 ≤ ((g32 o 7 1) + (1 : Int32)).toInt; omega
  · show ((g32 o 7 1) + (1 : Int32)).toInt + L ≤ (g32 o 3 0).toInt; omega
  · have en := nxt_9 (x := 10) (by omega) 1
    have q := hS.app (x := 10) (y := a) (B := 0) ⟨by omega, fun z => by omega, fun z => by omega, fun z => by omega, fun z => by omega, fun z z2 => by omega, fun z => by omega, fun _ => rfl⟩ (by rw [en, wt_10 z9]; omega)
    rw [en, Int.add_zero] at q
    show DS (upd (o.1 5) (500 + Int32.toNatClampNeg (g32 o 7 1)) 10) (upd (o.1 6) (500 + Int32.toNatClampNeg (g32 o 7 1)) a) b (Int32.toNatClampNeg ((g32 o 7 1) + (1 : Int32))) 0 (2 * (g32 o 3 0).toInt)
    rw [cs]; exact q
theorem SF.e {o : Ob} {K L : Int} {s a : Int32} (h : SF o K (L + 1)) (hK : K ≤ 50) (hL : 0 ≤ L) : SF (em o s a) K L := by
  obtain ⟨⟨l1, l3, l4, l5, l6⟩, lf⟩ := h
  have e := add1 (x := g32 o 7 1) (by omega)
  refine ⟨⟨?_, ?_, l4, l5, l6⟩, lf⟩
  · show 0 ≤ ((g32 o 7 1) + (1 : Int32)).toInt; omega
  · show ((g32 o 7 1) + (1 : Int32)).toInt + L ≤ (g32 o 3 0).toInt; omega
theorem m_readMark (x1 : Int32) (o : Ob) (L : Int) (b : Nat) (D K : Int) (hx : 0 ≤ x1.toInt) (hK : 0 ≤ K ∧ K ≤ 50) (hL : 0 ≤ L) (h : SX o L b D ∨ SF o K L) : ∃ n0, F_Mod_readMark x1 o = some n0 ∧ FR [3, 4] [] o n0 ∧ (SX o L b D → SX n0 (L + 1) b D ∨ SF n0 1 (L + 1)) ∧ (SF o K L → SF n0 (K + 1) (L + 1)) := by
  have z0 : (0 : Int32).toInt = 0 := rfl
  rw [F_Mod_readMark]
  by_cases c : 0 ≤ (g32 o 4 0)
  · rw [if_pos c]
    have c := Int32.le_iff_toInt_le.mp c
    refine ⟨_, rfl, FR.s FR.refl (by decide), fun q => ?_, fun q => q.step (by omega)⟩
    have := q.1.2
    omega
  rw [if_neg c]
  have c : ¬ 0 ≤ (g32 o 4 0).toInt := fun z => c (Int32.le_iff_toInt_le.mpr (by rw [z0]; exact z))
  have hs : SX o L b D := by
    rcases h with h | h
    · exact h
    · exact absurd h.2 c
  obtain ⟨⟨⟨l1, l3, l4, l5, l6⟩, lf⟩, hS⟩ := id hs
  obtain ⟨v3, e3, h3⟩ := m_here o (by omega) l6
  rw [e3, bind1_s]
  by_cases d : v3 = x1
  · rw [if_pos d]
    have ha : (g32 o 3 0).toInt < (g32 o 2 0).toInt := by
      rcases h3 with ⟨a1, a2⟩ | ⟨a1, a2⟩
      · rw [d] at a2; omega
      · exact a1
    exact ⟨_, rfl, FR.s FR.refl (by decide), fun q => Or.inl (q.step ha), fun q => absurd q.2 c⟩
  · rw [if_neg d]
    obtain ⟨v, ev, hv⟩ := m_failAt (g32 o 3 0) o (by omega)
    rw [ev, bind1_s]
    exact ⟨_, rfl, FR.s (FR.s FR.refl (by decide)) (by decide), fun q => Or.inr ((q.fail hv).step (by omega)), fun q => absurd q.2 c⟩
theorem m_isCompare (x : Int32) : ∃ r, F_Mod_isCompare x = some r ∧ (r = true → 60 ≤ x.toInt) := by
  rw [F_Mod_isCompare]
  by_cases c1 : x = (60 : Int32)
  · rw [if_pos c1, c1]; exact ⟨true, rfl, fun _ => by decide⟩
  rw [if_neg c1]
  by_cases c2 : x = (62 : Int32)
  · rw [if_pos c2, c2]; exact ⟨true, rfl, fun _ => by decide⟩
  rw [if_neg c2]
  by_cases c3 : x = (61 : Int32)
  · rw [if_pos c3, c3]; exact ⟨true, rfl, fun _ => by decide⟩
  rw [if_neg c3]
  exact ⟨false, rfl, fun z => (by cases z)⟩
/-- what a comparison leaves -/
def CM (o n : Ob) (L : Int) (b : Nat) : Prop := (∃ (m : Ob) (v : Int32), XE o m ∧ SX m (L + 1) b 2 ∧ n = em m 9 v) ∨ SF n 2 L
theorem m_readCompare (o : Ob) (L : Int) (b : Nat) (hL : 0 ≤ L) (h : SX o L b 1 ∨ SF o 1 L) : ∃ n0, F_Mod_readCompare o = some n0 ∧ YE o n0 ∧ CM o n0 L b := by
  have z0 : (0 : Int32).toInt = 0 := rfl
  have num : 0 ≤ (g32 o 3 0).toInt ∧ (g32 o 2 0).toInt ≤ 400 := by
    rcases h with h | h
    · obtain ⟨⟨⟨l1, l3, l4, l5, l6⟩, lf⟩, hS⟩ := h; omega
    · obtain ⟨⟨l1, l3, l4, l5, l6⟩, lf⟩ := h; omega
  obtain ⟨v2, e2, h2⟩ := m_here o num.1 num.2
  rw [F_Mod_readCompare, e2, bind1_s]
  have bad : ∀ m : Ob, XE o m → SF m 1 L → ∃ n0, F_Mod_readCompare_27 v2 m = some n0 ∧ YE o n0 ∧ CM o n0 L b := by
    intro m hx hm
    rw [F_Mod_readCompare_27, if_pos (Int32.le_iff_toInt_le.mpr (by rw [z0]; exact hm.2))]
    exact ⟨_, rfl, (XE.s hx (by decide)).y, Or.inr ((hm.step (by omega)).lo (by omega) (by omega))⟩
  by_cases c : 0 ≤ (g32 o 4 0)
  · rw [if_pos c]
    have c := Int32.le_iff_toInt_le.mp c
    rcases h with h | h
    · have := h.1.2; omega
    · exact bad o XE.refl h
  rw [if_neg c]
  have c' : ¬ 0 ≤ (g32 o 4 0).toInt := fun z => c (Int32.le_iff_toInt_le.mpr (by rw [z0]; exact z))
  have hs : SX o L b 1 := by
    rcases h with h | h
    · exact h
    · exact absurd h.2 c'
  obtain ⟨v5, e5, t5⟩ := m_isCompare v2
  rw [e5, bind1_s]
  by_cases d : (b2i v5) = 0
  · rw [if_pos d]
    obtain ⟨v, ev, hv⟩ := m_failAt (g32 o 3 0) o num.1
    rw [ev, bind1_s]
    exact bad _ (XE.s XE.refl (by decide)) ((hs.fail hv).lo (by omega) (by omega))
  · rw [if_neg d]
    have d := t5 (b2i_1 d)
    have ha : (g32 o 3 0).toInt < (g32 o 2 0).toInt := by rcases h2 with ⟨a1, a2⟩ | ⟨a1, a2⟩ <;> omega
    rw [F_Mod_readCompare_27, if_neg c]
    have hx : XE o (s32 o 3 0 ((g32 o 3 0) + (1 : Int32))) := XE.s XE.refl (by decide)
    obtain ⟨m, q1, q2, q3⟩ := m_readExpression _ (L + 1) b 1 (by omega) (by omega) (hs.step ha)
    rw [q1, bind1_s]
    have ms : 0 ≤ (g32 m 7 1).toInt ∧ (g32 m 7 1).toInt < 500 := by
      rcases q3 with q | q
      · obtain ⟨⟨⟨l1, l3, l4, l5, l6⟩, lf⟩, hS⟩ := q; omega
      · obtain ⟨⟨l1, l3, l4, l5, l6⟩, lf⟩ := q; omega
    rw [m_emit 9 v2 m ms.1 ms.2, bind1_s]
    refine ⟨_, rfl, YE.e (XE.tr hx q2).y ms.1 ms.2, ?_⟩
    rcases q3 with q | q
    · exact Or.inl ⟨m, v2, XE.tr hx q2, q, rfl⟩
    · exact Or.inr ((q.e (by omega) hL).lo (by omega) (Int.le_refl _))
/-- each comparison so far has its alternative behind it -/
def CLO (o : Ob) (b : Nat) : Prop := ∀ k : Nat, 500 + b ≤ k → (k : Int) < 500 + (g32 o 7 1).toInt → (o.1 5 k).toInt = 9 → ∃ j : Nat, k < j ∧ (j : Int) < 500 + (g32 o 7 1).toInt ∧ (o.1 5 j).toInt = 10
theorem CLO.xe {o n : Ob} {b : Nat} (h : CLO o b) (x : XE o n) : CLO n b := by
  obtain ⟨x1, x2, x3, x4⟩ := x
  intro k hk hk2 h9
  by_cases c : (k : Int) < 500 + (g32 o 7 1).toInt
  · rw [(x2 k c).1] at h9
    obtain ⟨j, j1, j2, j3⟩ := h k hk c h9
    exact ⟨j, j1, by omega, by rw [(x2 j j2).1]; exact j3⟩
  · have := x4 k (by omega) hk2
    omega
theorem CLO.c10 {o : Ob} {b : Nat} {a : Int32} (h0 : 0 ≤ (g32 o 7 1).toInt) (h1 : (g32 o 7 1).toInt < 500) : CLO (em o 10 a) b := by
  have c := clampI h0
  have e := add1 (x := g32 o 7 1) (by omega)
  have z10 : (10 : Int32).toInt = 10 := rfl
  intro k hk hk2 h9
  rw [em_7] at hk2
  have es : (em o 10 a).1 5 (500 + Int32.toNatClampNeg (g32 o 7 1)) = 10 := if_pos rfl
  by_cases d : k = 500 + Int32.toNatClampNeg (g32 o 7 1)
  · rw [d, es, z10] at h9; omega
  · exact ⟨500 + Int32.toNatClampNeg (g32 o 7 1), by omega, by rw [em_7]; omega, by rw [es]; rfl⟩
def CH (n : Ob) (b : Nat) : Prop := (SX n 0 b 1 ∧ CLO n b) ∨ SF n 4 0
theorem m_readChoice_49 (N : Int) (b : Nat) (k6 : Int32 → Ob → Option Ob) (hk : ∀ (x1 : Int32) (o : Ob), CH o b → 0 ≤ x1.toInt → x1.toInt ≤ 4 → 4 - x1.toInt < N → ∃ n0, k6 x1 o = some n0 ∧ YE o n0 ∧ CH n0 b) (x1 : Int32) (o : Ob) (h : SX o 1 b 1 ∨ SF o 3 1) (h1 : 0 ≤ x1.toInt) (h1b : x1.toInt < 4) (hN : 4 - x1.toInt - 1 < N) : ∃ n0, F_Mod_readChoice_49 k6 x1 o = some n0 ∧ YE o n0 ∧ CH n0 b := by
  have z0 : (0 : Int32).toInt = 0 := rfl
  have e1 := add1 (x := x1) (by omega)
  rw [F_Mod_readChoice_49]
  obtain ⟨m, q1, q2, q3, q4⟩ := m_readMark 58 o 1 b 1 3 (by decide) (by omega) (by omega) h
  rw [q1, bind1_s]
  have hm : SX m 2 b 1 ∨ SF m 4 2 := by
    rcases h with h | h
    · rcases q3 h with q | q
      · exact Or.inl q
      · exact Or.inr (q.lo (by omega) (by omega))
    · exact Or.inr (q4 h)
  have ms : 0 ≤ (g32 m 7 1).toInt ∧ (g32 m 7 1).toInt < 500 := by
    rcases hm with q | q
    · obtain ⟨⟨⟨l1, l3, l4, l5, l6⟩, lf⟩, hS⟩ := q; omega
    · obtain ⟨⟨l1, l3, l4, l5, l6⟩, lf⟩ := q; omega
  rw [m_emit 10 0 m ms.1 ms.2, bind1_s]
  have hy : YE o (em m 10 0) := YE.e (fx_34 q2).y ms.1 ms.2
  by_cases c : 0 ≤ (g32 (em m 10 0) 4 0)
  · rw [if_pos c]
    have c := Int32.le_iff_toInt_le.mp c
    have hf : SF m 4 2 := by
      rcases hm with q | q
      · have := q.1.2
        have c : 0 ≤ (g32 m 4 0).toInt := by rw [z0] at c; exact c
        omega
      · exact q
    obtain ⟨n0, r1, r2, r3⟩ := hk (x1 + (1 : Int32)) (em m 10 0) (Or.inr (SF.lo (SF.e (L := 1) hf (by omega) (by omega)) (by omega) (by omega))) (by omega) (by omega) (by omega)
    exact ⟨n0, r1, YE.tr hy r2, r3⟩
  · rw [if_neg c]
    have c' : ¬ 0 ≤ (g32 m 4 0).toInt := fun z => c (Int32.le_iff_toInt_le.mpr (by rw [z0]; exact z))
    have hs : SX m 2 b 1 := by
      rcases hm with q | q
      · exact q
      · exact absurd q.2 c'
    obtain ⟨p, p1, p2, p3⟩ := m_readExpression (em m 10 0) 1 b 0 (by omega) (by omega) (SX.c10 (L := 1) hs (by omega))
    rw [p1, bind1_s]
    have hc : CH p b := by
      rcases p3 with q | q
      · exact Or.inl ⟨q.lo (by omega), (CLO.c10 ms.1 ms.2).xe p2⟩
      · exact Or.inr (q.lo (by omega) (by omega))
    obtain ⟨n0, r1, r2, r3⟩ := hk (x1 + (1 : Int32)) p hc (by omega) (by omega) (by omega)
    exact ⟨n0, r1, YE.tr hy (YE.tr p2.y r2), r3⟩
theorem m_readChoice_6 (b : Nat) : ∀ (n : Nat) (x1 : Int32) (o : Ob), CH o b → 0 ≤ x1.toInt → x1.toInt ≤ 4 → 4 - x1.toInt < (n : Int) → ∃ n0, F_Mod_readChoice_6 n x1 o = some n0 ∧ YE o n0 ∧ CH n0 b := by
  intro n
  induction n with
  | zero => intro x1 o _ _ _ _; exfalso; omega
  | succ n ih =>
    intro x1 o h h1 h1b hn
    have z0 : (0 : Int32).toInt = 0 := rfl
    have z4 : (4 : Int32).toInt = 4 := rfl
    rw [F_Mod_readChoice_6]
    by_cases c : 0 ≤ (g32 o 4 0)
    · rw [if_pos c]; exact ⟨o, rfl, YE.refl, h⟩
    rw [if_neg c]
    have c' : ¬ 0 ≤ (g32 o 4 0).toInt := fun z => c (Int32.le_iff_toInt_le.mpr (by rw [z0]; exact z))
    obtain ⟨hs, hcl⟩ : SX o 0 b 1 ∧ CLO o b := by
      rcases h with h | h
      · exact h
      · exact absurd h.2 c'
    by_cases d : (4 : Int32) ≤ x1
    · rw [if_pos d]; exact ⟨o, rfl, YE.refl, h⟩
    rw [if_neg d]
    have d : ¬ 4 ≤ x1.toInt := fun z => d (Int32.le_iff_toInt_le.mpr (by omega))
    obtain ⟨⟨⟨l1, l3, l4, l5, l6⟩, lf⟩, hS⟩ := id hs
    obtain ⟨v6, e6, h6⟩ := m_here o (by omega) l6
    rw [e6, bind1_s]
    obtain ⟨v8, e8, t8⟩ := m_isCompare v6
    rw [e8, bind1_s]
    by_cases f : (b2i v8) = 0
    · rw [if_pos f]; exact ⟨o, rfl, YE.refl, h⟩
    rw [if_neg f]
    obtain ⟨m, q1, q2, q3⟩ := m_readCompare o 0 b (by omega) (Or.inl hs)
    rw [q1, bind1_s]
    have hm : SX m 0 b 0 ∨ SF m 2 0 := by
      rcases q3 with ⟨w, v, w1, w2, w3⟩ | q
      · rw [w3]; exact Or.inl (SX.c9 (L := 0) w2 (by omega))
      · exact Or.inr q
    obtain ⟨p, p1, p2, p3, p4⟩ := m_readMark 63 m 0 b 0 2 (by decide) (by omega) (by omega) hm
    rw [p1, bind1_s]
    have hp : SX p 1 b 0 ∨ SF p 3 1 := by
      rcases hm with h | h
      · rcases p3 h with q | q
        · exact Or.inl q
        · exact Or.inr (q.lo (by omega) (by omega))
      · exact Or.inr (p4 h)
    have go : ∀ t : Ob, YE p t → (SX t 1 b 1 ∨ SF t 3 1) → ∃ n0, F_Mod_readChoice_49 (F_Mod_readChoice_6 n) x1 t = some n0 ∧ YE o n0 ∧ CH n0 b := by
      intro t ht hh
      obtain ⟨n0, r1, r2, r3⟩ := m_readChoice_49 (n : Int) b (F_Mod_readChoice_6 n) (fun y o' a1 a2 a3 a4 => ih y o' a1 a2 a3 a4) x1 t hh h1 (by omega) (by omega)
      exact ⟨n0, r1, YE.tr q2 (YE.tr (fx_34 p2).y (YE.tr ht r2)), r3⟩
    by_cases g : 0 ≤ (g32 p 4 0)
    · rw [if_pos g]
      have g := Int32.le_iff_toInt_le.mp g
      rcases hp with q | q
      · have := q.1.2; omega
      · exact go p YE.refl (Or.inr q)
    · rw [if_neg g]
      have g' : ¬ 0 ≤ (g32 p 4 0).toInt := fun z => g (Int32.le_iff_toInt_le.mpr (by rw [z0]; exact z))
      have hs2 : SX p 1 b 0 := by
        rcases hp with q | q
        · exact q
        · exact absurd q.2 g'
      obtain ⟨t, t1, t2, t3⟩ := m_readExpression p 1 b 0 (by omega) (by omega) hs2
      rw [t1, bind1_s]
      refine go t t2.y ?_
      rcases t3 with q | q
      · exact Or.inl q
      · exact Or.inr (q.lo (by omega) (by omega))
theorem m_readChoice (b : Nat) (o : Ob) (h : SX o 0 b 0) (hc : CLO o b) : ∃ n0, F_Mod_readChoice o = some n0 ∧ YE o n0 ∧ CH n0 b := by
  have z0 : (0 : Int32).toInt = 0 := rfl
  rw [F_Mod_readChoice]
  obtain ⟨t, t1, t2, t3⟩ := m_readExpression o 0 b 0 (by omega) (by omega) h
  rw [t1, bind1_s]
  have hh : CH t b := by
    rcases t3 with q | q
    · exact Or.inl ⟨q, hc.xe t2⟩
    · exact Or.inr (q.lo (by omega) (by omega))
  obtain ⟨n0, r1, r2, r3⟩ := m_readChoice_6 b fuel 0 t hh (by omega) (by omega) (by rw [fuel_eq]; omega)
  exact ⟨n0, r1, YE.tr t2.y r2, r3⟩
