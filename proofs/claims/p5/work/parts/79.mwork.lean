/-! THE REFERENCE: working out -/
theorem m_mentions_26 (o0 : Ob) (x3 : Int32) (hP : PG o0) (hl : x3.toInt < (g32 o0 8 0).toInt) : ∀ (n : Nat) (x2 x4 x5 : Int32), (0 ≤ x4.toInt ∧ x4.toInt ≤ 1) → 0 ≤ x5.toInt → x5.toInt ≤ 410 → 410 - x5.toInt < (n : Int) → ∃ r, F_Mod_mentions_26 o0 n x2 x3 x4 x5 = some r := by
  intro n
  induction n with
  | zero => intro x2 x4 x5 _ _ _ _; exfalso; omega
  | succ n ih =>
    intro x2 x4 x5 h4 h5 h5b hn
    have st : (g32 o0 8 0).toInt ≤ 24 := hP.1.2
    have z0 : (0 : Int32).toInt = 0 := rfl
    have z1 : (1 : Int32).toInt = 1 := rfl
    rw [F_Mod_mentions_26]
    have iB : isB x4 = true := isB_of2 h4.1 h4.2
    by_cases c : x3 < 0
    · rw [if_pos c, iB, chk_tr]; exact ⟨_, rfl⟩
    rw [if_neg c]
    have c : ¬ x3.toInt < 0 := fun z => c (Int32.lt_iff_toInt_lt.mpr (by omega))
    have e3 := add1 (x := x3) (by omega)
    have q := (hP.stm (s := x3) (by omega) hl).1
    rw [show (inb (x3 + (1 : Int32)) 50) = true from inb_iff.mpr ⟨by omega, by omega⟩, chk_tr]
    by_cases d : (g32 o0 9 (Int32.toNatClampNeg (x3 + (1 : Int32)))) ≤ x5
    · rw [if_pos d, iB, chk_tr]; exact ⟨_, rfl⟩
    rw [if_neg d]
    have d : ¬ (g32 o0 9 (Int32.toNatClampNeg (x3 + (1 : Int32)))).toInt ≤ x5.toInt := fun z => d (Int32.le_iff_toInt_le.mpr z)
    have e5 := add1 (x := x5) (by omega)
    have go : ∀ y : Int32, (0 ≤ y.toInt ∧ y.toInt ≤ 1) → ∃ r, F_Mod_mentions_26 o0 n x2 x3 y (x5 + (1 : Int32)) = some r := fun y hy => ih x2 y _ hy (by omega) (by omega) (by omega)
    by_cases c4 : x4 = 0
    · rw [if_pos c4, show (inb x5 1000) = true from inb_iff.mpr ⟨by omega, by omega⟩, chk_tr]
      split
      · split
        · exact go 1 (by omega)
        · exact go 0 (by omega)
      · exact go 0 (by omega)
    · rw [if_neg c4]; exact go 1 (by omega)
theorem m_mentions (x1 x2 : Int32) (o0 : Ob) (hP : PG o0) (h0 : 0 ≤ x1.toInt) (h1 : x1.toInt < 60) : ∃ r, F_Mod_mentions x1 x2 o0 = some r := by
  have q := hP.line h0 h1
  have z0 : (0 : Int32).toInt = 0 := rfl
  rw [F_Mod_mentions, show (inb x1 60) = true from inb_iff.mpr ⟨by omega, by omega⟩, chk_tr]
  by_cases c : 0 ≤ (g32 o0 17 (Int32.toNatClampNeg x1))
  · rw [if_pos c]
    have c := Int32.le_iff_toInt_le.mp c
    rw [show (inb (g32 o0 17 (Int32.toNatClampNeg x1)) 50) = true from inb_iff.mpr ⟨by omega, by omega⟩, chk_tr]
    have s := (hP.stm (s := g32 o0 17 (Int32.toNatClampNeg x1)) (by omega) q.2.2.1).1
    exact m_mentions_26 o0 _ hP q.2.2.1 fuel x2 0 _ (by omega) s.1 (by omega) (by rw [fuel_eq]; omega)
  · rw [if_neg c]
    exact m_mentions_26 o0 _ hP q.2.2.1 fuel x2 0 0 (by omega) (by omega) (by omega) (by rw [fuel_eq]; omega)
theorem m_hangs_10 (o0 : Ob) (x1 : Int32) (hP : PG o0) (h0 : 0 ≤ x1.toInt) (h1 : x1.toInt < 60) : ∀ (n : Nat) (x2 x3 x4 : Int32), (0 ≤ x3.toInt ∧ x3.toInt ≤ 1) → 0 ≤ x4.toInt → x4.toInt ≤ 60 → 60 - x4.toInt < (n : Int) → ∃ r, F_Mod_hangs_10 o0 n x1 x2 x3 x4 = some r := by
  intro n
  induction n with
  | zero => intro x2 x3 x4 _ _ _ _; exfalso; omega
  | succ n ih =>
    intro x2 x3 x4 h3 h4 h4b hn
    have z0 : (0 : Int32).toInt = 0 := rfl
    have z1 : (1 : Int32).toInt = 1 := rfl
    have z60 : (60 : Int32).toInt = 60 := rfl
    rw [F_Mod_hangs_10]
    by_cases c : (60 : Int32) ≤ x4
    · rw [if_pos c, show isB x3 = true from isB_of2 h3.1 h3.2, chk_tr]; exact ⟨_, rfl⟩
    rw [if_neg c]
    have c : ¬ 60 ≤ x4.toInt := fun z => c (Int32.le_iff_toInt_le.mpr (by omega))
    have e4 := add1 (x := x4) (by omega)
    have go : ∀ y : Int32, (0 ≤ y.toInt ∧ y.toInt ≤ 1) → ∃ r, F_Mod_hangs_10 o0 n x1 x2 y (x4 + (1 : Int32)) = some r := fun y hy => ih x2 y _ hy (by omega) (by omega) (by omega)
    by_cases c3 : x3 = 0
    · rw [if_pos c3]
      have e := ix60 (p := x1) (q := x4) h0 h1 h4 (by omega)
      rw [show (inb (((60 : Int32) * x1) + x4) 3600) = true from inb_iff.mpr ⟨by omega, by omega⟩, chk_tr]
      split
      · exact go 0 (by omega)
      · obtain ⟨v, ev⟩ := m_mentions x4 x2 o0 hP h4 (by omega)
        rw [ev, bind1_s]
        split
        · exact go 0 (by omega)
        · exact go 1 (by omega)
    · rw [if_neg c3]; exact go 1 (by omega)
theorem b2i_rg (v : Bool) : 0 ≤ (b2i v).toInt ∧ (b2i v).toInt ≤ 1 := by cases v <;> decide
theorem m_hangs (x1 x2 : Int32) (o0 : Ob) (hP : PG o0) (h0 : 0 ≤ x1.toInt) (h1 : x1.toInt < 60) : ∃ r, F_Mod_hangs x1 x2 o0 = some r := by
  have z0 : (0 : Int32).toInt = 0 := rfl
  obtain ⟨v, ev⟩ := m_mentions x1 x2 o0 hP h0 h1
  rw [F_Mod_hangs, ev, bind1_s]
  exact m_hangs_10 o0 x1 hP h0 h1 fuel x2 _ 0 (b2i_rg v) (by omega) (by omega) (by rw [fuel_eq]; omega)
/-- what working out one cell leaves: its state is told, all else of the cells as it was -/
def CN (o n : Ob) (x : Int32) : Prop := FR [19, 22, 30, 31] [20, 21, 28, 29] o n ∧ CV n ∧ ∃ v : Int32, 1 ≤ v.toInt ∧ n.1 19 = upd (o.1 19) (Int32.toNatClampNeg x) v
theorem cv_set {o : Ob} {x v c : Int32} {p q : Int64} (hC : CV o) (h : v.toInt = 1 → gv p q) : CV (s32 (s64 (s64 (s32 o 19 (Int32.toNatClampNeg x) v) 20 (Int32.toNatClampNeg x) p) 21 (Int32.toNatClampNeg x) q) 22 (Int32.toNatClampNeg x) c) := by
  intro j hj hs
  have e1 : g32 (s32 (s64 (s64 (s32 o 19 (Int32.toNatClampNeg x) v) 20 (Int32.toNatClampNeg x) p) 21 (Int32.toNatClampNeg x) q) 22 (Int32.toNatClampNeg x) c) 19 j = if j = Int32.toNatClampNeg x then v else g32 o 19 j := by
    show g32 (s32 o 19 (Int32.toNatClampNeg x) v) 19 j = _
    exact g32_same ..
  have e2 : g64 (s32 (s64 (s64 (s32 o 19 (Int32.toNatClampNeg x) v) 20 (Int32.toNatClampNeg x) p) 21 (Int32.toNatClampNeg x) q) 22 (Int32.toNatClampNeg x) c) 20 j = if j = Int32.toNatClampNeg x then p else g64 o 20 j := by
    show g64 (s64 o 20 (Int32.toNatClampNeg x) p) 20 j = _
    exact g64_same ..
  have e3 : g64 (s32 (s64 (s64 (s32 o 19 (Int32.toNatClampNeg x) v) 20 (Int32.toNatClampNeg x) p) 21 (Int32.toNatClampNeg x) q) 22 (Int32.toNatClampNeg x) c) 21 j = if j = Int32.toNatClampNeg x then q else g64 o 21 j := by
    show g64 (s64 o 21 (Int32.toNatClampNeg x) q) 21 j = _
    exact g64_same ..
  rw [e1] at hs
  rw [e2, e3]
  by_cases d : j = Int32.toNatClampNeg x
  · rw [if_pos d] at hs
    rw [if_pos d, if_pos d]; exact h hs
  · rw [if_neg d] at hs
    rw [if_neg d, if_neg d]; exact hC j hj hs
theorem m_reckonCell_148 (x1 x5 y2 : Int32) (o0 : Ob) (h0 : 0 ≤ x1.toInt) (h1 : x1.toInt < 60) (hC : CV o0) (hR : 0 ≤ (g32 o0 31 0).toInt) (hv : (g32 o0 31 0).toInt = 0 → gv (g64 o0 28 0) (g64 o0 29 0)) (hy : 1 ≤ y2.toInt) (hy2 : y2.toInt = 1 → (g32 o0 31 0).toInt ≤ 0) : ∃ n0, F_Mod_reckonCell_148 x1 x5 x1 y2 o0 = some n0 ∧ CN o0 n0 x1 := by
  have i60 : (inb x1 60) = true := inb_iff.mpr ⟨h0, by omega⟩
  have i420 : (inb (0 : Int32) 420) = true := by decide
  have fr : ∀ (p q : Int64) (c : Int32), FR [19, 22, 30, 31] [20, 21, 28, 29] o0 (s32 (s64 (s64 (s32 o0 19 (Int32.toNatClampNeg x1) y2) 20 (Int32.toNatClampNeg x1) p) 21 (Int32.toNatClampNeg x1) q) 22 (Int32.toNatClampNeg x1) c) := fun p q c => FR.s (FR.l (FR.l (FR.s FR.refl (by decide)) (by decide)) (by decide)) (by decide)
  rw [F_Mod_reckonCell_148, i60, chk_tr]
  by_cases c : (g32 o0 31 0) ≤ 0
  · rw [if_pos c, i420, chk_tr, F_Mod_reckonCell_171, i60, chk_tr]
    have c' := le0 c
    have e31 : g32 (s32 o0 19 (Int32.toNatClampNeg x1) y2) 31 0 = g32 o0 31 0 := rfl
    rw [e31, if_pos c, i420, chk_tr, chk_tr, if_pos c]
    exact ⟨_, rfl, fr _ _ _, cv_set hC (fun _ => hv (by omega)), y2, hy, rfl⟩
  · rw [if_neg c, F_Mod_reckonCell_171, i60, chk_tr]
    have c' := nle0 c
    have e31 : g32 (s32 o0 19 (Int32.toNatClampNeg x1) y2) 31 0 = g32 o0 31 0 := rfl
    rw [e31, if_neg c, chk_tr, if_neg c]
    exact ⟨_, rfl, fr _ _ _, cv_set hC (fun z => by have := hy2 z; omega), y2, hy, rfl⟩
theorem CN.mk {o m n : Ob} {x : Int32} (h : MK o m) (g : CN m n x) : CN o n x := by
  obtain ⟨g1, g2, v, g3, g4⟩ := g
  exact ⟨FR.tr h.fw g1, g2, v, g3, by rw [g4, h.1 19 (by decide) (by decide)]⟩
theorem m_reckonCell_102 (sg : Nat → Int32) (x1 x4 x6 : Int32) (o0 : Ob) (e5 : o0.1 5 = sg) (j : Nat) (hj : j ≤ 419) (hs : (sg j).toInt = 10) (P : Option Ob → Prop) (k30 : Int32 → Int32 → Int32 → Int32 → Int32 → Ob → Option Ob) : ∀ (n : Nat) (x3 x5 : Int32), 0 ≤ x3.toInt → x3.toInt ≤ (j : Int) → (∀ (y3 y5 : Int32), x3.toInt < y3.toInt → y3.toInt ≤ (j : Int) + 1 → (sg (Int32.toNatClampNeg (y3 - 1))).toInt = 10 → P (k30 x1 y3 x4 y5 x6 o0)) → (j : Int) - x3.toInt < (n : Int) → P (F_Mod_reckonCell_102 k30 n x1 x3 x4 x5 x6 o0) := by
  intro n
  induction n with
  | zero => intro x3 x5 _ _ _ _; exfalso; omega
  | succ n ih =>
    intro x3 x5 h3 h3b hk hn
    have e3 := add1 (x := x3) (by omega)
    rw [F_Mod_reckonCell_102, show (inb x3 1000) = true from inb_iff.mpr ⟨by omega, by omega⟩, chk_tr]
    have s5 : g32 o0 5 (Int32.toNatClampNeg x3) = sg (Int32.toNatClampNeg x3) := congrFun e5 _
    have ep : (x3 + (1 : Int32)) - 1 = x3 := Int32.toInt_inj.mp (by rw [sub1 (by omega), e3]; omega)
    by_cases c : (g32 o0 5 (Int32.toNatClampNeg x3)) = (10 : Int32)
    · rw [if_pos c]
      exact hk _ _ (by omega) (by omega) (by rw [ep, ← s5, c]; rfl)
    · rw [if_neg c]
      have cj : ¬ x3.toInt = (j : Int) := fun z => by
        have ej : Int32.toNatClampNeg x3 = j := by have := clampI h3; omega
        rw [ej] at s5
        rw [ej] at c
        exact c (Int32.toInt_inj.mp (by rw [s5, hs]; rfl))
      exact ih _ x5 (by omega) (by omega) (fun y3 y5 a b d => hk y3 y5 (by omega) b d) (by omega)
theorem m_reckonCell_30 (sg ag : Nat → Int32) (b e : Nat) (x1 x4 : Int32) (hS : SEG sg ag b (e - b)) (hbe : b ≤ e) (he : e ≤ 410) (hend : dep sg b (e - b) = 1) (hcl : ∀ k, b ≤ k → k < e → (sg k).toInt = 9 → ∃ j, k < j ∧ j < e ∧ (sg j).toInt = 10) (h4 : x4.toInt = (e : Int)) (h0 : 0 ≤ x1.toInt) (h1 : x1.toInt < 60) : ∀ (n : Nat) (x3 x5 x6 : Int32) (o0 : Ob), o0.1 5 = sg → o0.1 6 = ag → OV o0 → CV o0 → (b : Int) ≤ x3.toInt → x3.toInt ≤ (e : Int) → ((x6.toInt = 0 ∧ dep sg b (Int32.toNatClampNeg x3 - b) = 0) ∨ (x6.toInt = 1 ∧ (0 ≤ (g32 o0 31 0).toInt ∧ ¬ (g32 o0 31 0).toInt = 1) ∧ ((g32 o0 31 0).toInt = 0 → gv (g64 o0 28 0) (g64 o0 29 0)))) → 2 * ((e : Int) - x3.toInt) + (1 - x6.toInt) < (n : Int) → ∃ n0, F_Mod_reckonCell_30 n x1 x3 x4 x5 x6 o0 = some n0 ∧ CN o0 n0 x1 := by
  intro n
  induction n with
  | zero => intro x3 x5 x6 o0 _ _ _ _ _ _ hh _; exfalso; rcases hh with ⟨a, _⟩ | ⟨a, _⟩ <;> omega
  | succ n ih =>
    intro x3 x5 x6 o0 e5 e6 hO hC h3 h3b hh hn
    have z0 : (0 : Int32).toInt = 0 := rfl
    have z1 : (1 : Int32).toInt = 1 := rfl
    rw [F_Mod_reckonCell_30]
    rcases hh with ⟨h6, hz⟩ | ⟨h6, hR, hv⟩
    · rw [if_pos (Int32.toInt_inj.mp h6)]
      obtain ⟨v7, m, ev, hm, r1, r2, hG, hst⟩ := m_reckon sg ag b e hS hbe (by omega) x3 x4 o0 e5 e6 hO hC h4 h3 h3b hz
      rw [ev, bind2_s]
      have m5 := (hm.1 5 (by decide) (by decide)).trans e5
      have m6 := (hm.1 6 (by decide) (by decide)).trans e6
      have mO := hO.mk hm
      have mC := hC.mk hm
      have done : ∀ (w : Int32) (m' : Ob), MK o0 m' → (b : Int) ≤ w.toInt → x3.toInt ≤ w.toInt → w.toInt ≤ (e : Int) → (0 ≤ (g32 m' 31 0).toInt ∧ ¬ (g32 m' 31 0).toInt = 1) → ((g32 m' 31 0).toInt = 0 → gv (g64 m' 28 0) (g64 m' 29 0)) → ∃ n0, F_Mod_reckonCell_30 n x1 w x4 x5 (1 : Int32) m' = some n0 ∧ CN o0 n0 x1 := by
        intro w m' hm' w0 w1 w2 hr' hv'
        obtain ⟨n0, q1, q2⟩ := ih w x5 1 m' ((hm'.1 5 (by decide) (by decide)).trans e5) ((hm'.1 6 (by decide) (by decide)).trans e6) (hO.mk hm') (hC.mk hm') w0 w2 (Or.inr ⟨z1, hr', hv'⟩) (by omega)
        exact ⟨n0, q1, CN.mk hm' q2⟩
      have cl := clampI (x := v7) (by omega)
      have row0 : ∀ (d : Int), 1 ≤ d → RG m d → (g32 m 31 0).toInt = 0 → gv (g64 m 28 0) (g64 m 29 0) := fun d hd hg hz => (hg.2 hz).2 0 (by omega)
      by_cases c : 0 < (g32 m 31 0)
      · rw [if_pos c]
        have c := Int32.lt_iff_toInt_lt.mp c
        exact done v7 m hm (by omega) r1 r2 ⟨hG.1.1, hG.1.2.2⟩ (fun z => by omega)
      rw [if_neg c]
      have c : ¬ 0 < (g32 m 31 0).toInt := fun z => c (Int32.lt_iff_toInt_lt.mpr (by omega))
      have hr0 : (g32 m 31 0).toInt = 0 := by have := hG.1.1; omega
      by_cases ce : v7 = x4
      · rw [if_pos ce]
        have ve : v7.toInt = (e : Int) := by rw [ce]; exact h4
        have dd : dep sg b (Int32.toNatClampNeg v7 - b) = 1 := by rw [show Int32.toNatClampNeg v7 = e by omega]; exact hend
        rw [dd] at hG
        exact done v7 m hm (by omega) r1 r2 ⟨hG.1.1, hG.1.2.2⟩ (row0 1 (by omega) hG)
      rw [if_neg ce]
      have ne : ¬ v7.toInt = (e : Int) := fun z => ce (Int32.toInt_inj.mp (by omega))
      rw [show (inb v7 1000) = true from inb_iff.mpr ⟨by omega, by omega⟩, chk_tr]
      have s5 : g32 m 5 (Int32.toNatClampNeg v7) = sg (Int32.toNatClampNeg v7) := congrFun m5 _
      have hok := hS (Int32.toNatClampNeg v7 - b) (by omega)
      have hbk : b + (Int32.toNatClampNeg v7 - b) = Int32.toNatClampNeg v7 := by omega
      rw [hbk] at hok
      obtain ⟨_, _, _, _, _, _, k9, k10⟩ := hok
      by_cases c10 : (g32 m 5 (Int32.toNatClampNeg v7)) = (10 : Int32)
      · rw [if_pos c10]
        have d1 := k10 (by rw [← s5, c10]; rfl)
        rw [d1] at hG
        exact done v7 m hm (by omega) r1 r2 ⟨hG.1.1, hG.1.2.2⟩ (row0 1 (by omega) hG)
      rw [if_neg c10]
      have s9 : (sg (Int32.toNatClampNeg v7)).toInt = 9 := by
        rcases hst hr0 with h | h | h
        · exact absurd h ne
        · exact h
        · exact absurd (Int32.toInt_inj.mp (by rw [s5, h]; rfl)) c10
      have e7 := add1 (x := v7) (by omega)
      have cs := clampS (x := v7) (by omega) (by omega)
      have nz : ∀ y : Int32, 0 < y.toInt → (b : Int) < y.toInt → y.toInt ≤ (e : Int) → ((sg (Int32.toNatClampNeg (y - 1))).toInt = 9 ∨ (sg (Int32.toNatClampNeg (y - 1))).toInt = 10) → dep sg b (Int32.toNatClampNeg y - b) = 0 := by
        intro y y0 y1 y2 hy
        have ey := sub1 (x := y) (by omega)
        have cy := clampI (x := y) (by omega)
        have cy1 := clampI (x := y - 1) (by omega)
        rw [show Int32.toNatClampNeg y - b = (Int32.toNatClampNeg (y - 1) - b) + 1 by omega]
        show nxt (sg (b + (Int32.toNatClampNeg (y - 1) - b))) _ = 0
        rw [show b + (Int32.toNatClampNeg (y - 1) - b) = Int32.toNatClampNeg (y - 1) by omega]
        unfold nxt
        rw [if_neg (by omega), if_neg (by omega), if_neg (by omega)]
      obtain ⟨v15, e15⟩ := m_compares (g32 m 6 (Int32.toNatClampNeg v7)) m
      rw [e15, bind1_s]
      by_cases c15 : (b2i v15) = 0
      · rw [if_pos c15]
        obtain ⟨j, j1, j2, j3⟩ := hcl (Int32.toNatClampNeg v7) (by omega) (by omega) s9
        have q := m_reckonCell_102 sg x1 x4 x6 m m5 j (by omega) j3 (fun t => ∃ n0, t = some n0 ∧ CN m n0 x1) (F_Mod_reckonCell_30 n) fuel v7 x5 (by omega) (by omega) (fun y3 y5 a1 a2 a3 => ih y3 y5 x6 m m5 m6 mO mC (by omega) (by omega) (Or.inl ⟨h6, nz y3 (by omega) (by omega) (by omega) (Or.inr a3)⟩) (by omega)) (by rw [fuel_eq]; omega)
        obtain ⟨n0, q1, q2⟩ := q
        exact ⟨n0, q1, CN.mk hm q2⟩
      · rw [if_neg c15]
        have ep : (v7 + (1 : Int32)) - 1 = v7 := Int32.toInt_inj.mp (by rw [sub1 (by omega), e7]; omega)
        obtain ⟨v18, m2, ev2, hm2, t1, t2, hG2, hst2⟩ := m_reckon sg ag b e hS hbe (by omega) (v7 + (1 : Int32)) x4 m m5 m6 mO mC h4 (by omega) (by omega) (nz _ (by omega) (by omega) (by omega) (Or.inl (by rw [ep]; exact s9)))
        rw [ev2, bind2_s]
        have hm02 := MK.tr hm hm2
        have cl2 := clampI (x := v18) (by omega)
        refine done v18 m2 hm02 (by omega) (by omega) t2 ⟨hG2.1.1, hG2.1.2.2⟩ (fun z => (hG2.2 z).2 0 ?_)
        have d1 : 1 ≤ dep sg b (Int32.toNatClampNeg v18 - b) := by
          by_cases w : v18.toInt = (e : Int)
          · rw [show Int32.toNatClampNeg v18 = e by omega, hend]; decide
          · have hok2 := hS (Int32.toNatClampNeg v18 - b) (by omega)
            have hbk2 : b + (Int32.toNatClampNeg v18 - b) = Int32.toNatClampNeg v18 := by omega
            rw [hbk2] at hok2
            obtain ⟨_, _, _, _, _, _, u9, u10⟩ := hok2
            rcases hst2 z with h | h | h
            · omega
            · have := u9 h; omega
            · have := u10 h; omega
        omega
    · have n6 : ¬ x6 = 0 := fun z => by rw [z, z0] at h6; omega
      rw [if_neg n6]
      by_cases c : (g32 o0 31 0) ≤ 0
      · rw [if_pos c]
        have c := le0 c
        exact m_reckonCell_148 x1 x5 1 o0 h0 h1 hC hR.1 hv (by rw [z1]; omega) (fun _ => c)
      · rw [if_neg c]
        have c := nle0 c
        exact m_reckonCell_148 x1 x5 (g32 o0 31 0) o0 h0 h1 hC hR.1 hv (by omega) (fun z => absurd z hR.2)
theorem m_reckonCell (x1 : Int32) (o0 : Ob) (hP : PG o0) (hO : OV o0) (hC : CV o0) (h0 : 0 ≤ x1.toInt) (h1 : x1.toInt < 60) (hl : 0 ≤ (g32 o0 17 (Int32.toNatClampNeg x1)).toInt) : ∃ n0, F_Mod_reckonCell x1 o0 = some n0 ∧ CN o0 n0 x1 := by
  have q := hP.line h0 h1
  have z0 : (0 : Int32).toInt = 0 := rfl
  have e1 := add1 (x := g32 o0 17 (Int32.toNatClampNeg x1)) (by omega)
  rw [F_Mod_reckonCell, show (inb x1 60) = true from inb_iff.mpr ⟨h0, by omega⟩, chk_tr, show (inb (g32 o0 17 (Int32.toNatClampNeg x1)) 50) = true from inb_iff.mpr ⟨by omega, by omega⟩, chk_tr, show (inb ((g32 o0 17 (Int32.toNatClampNeg x1)) + (1 : Int32)) 50) = true from inb_iff.mpr ⟨by omega, by omega⟩, chk_tr]
  obtain ⟨⟨b0, b1, b2⟩, ⟨s1, s2, s3, s4⟩, hS, hd, _⟩ := hP.stm (s := g32 o0 17 (Int32.toNatClampNeg x1)) hl q.2.2.1
  obtain ⟨hend, hcl⟩ := hd (q.2.2.2 hl)
  have cb := clampI b0
  have ce := clampI (x := g32 o0 9 (Int32.toNatClampNeg ((g32 o0 17 (Int32.toNatClampNeg x1)) + 1))) (by omega)
  exact m_reckonCell_30 (o0.1 5) (o0.1 6) _ _ x1 _ hS s1 s2 hend hcl ce.symm h0 h1 fuel _ 0 0 o0 rfl rfl hO hC (by omega) (by omega) (Or.inl ⟨z0, by rw [Nat.sub_self]; rfl⟩) (by rw [fuel_eq]; omega)
theorem m_isReady_35 (o0 : Ob) (x1 : Int32) (h0 : 0 ≤ x1.toInt) (h1 : x1.toInt < 60) : ∀ (n : Nat) (x2 x3 : Int32), (0 ≤ x2.toInt ∧ x2.toInt ≤ 1) → 0 ≤ x3.toInt → x3.toInt ≤ 60 → 60 - x3.toInt < (n : Int) → ∃ r, F_Mod_isReady_35 o0 n x1 x2 x3 = some r ∧ (r = true → x2.toInt = 1) := by
  intro n
  induction n with
  | zero => intro x2 x3 _ _ _ _; exfalso; omega
  | succ n ih =>
    intro x2 x3 h2 h3 h3b hn
    have z0 : (0 : Int32).toInt = 0 := rfl
    have z1 : (1 : Int32).toInt = 1 := rfl
    have z60 : (60 : Int32).toInt = 60 := rfl
    rw [F_Mod_isReady_35]
    have fin : decide (¬ x2 = 0) = true → x2.toInt = 1 := fun z => by
      have z := of_decide_eq_true z
      have : ¬ x2.toInt = 0 := fun w => z (Int32.toInt_inj.mp w)
      omega
    have iB : isB x2 = true := isB_of2 h2.1 h2.2
    by_cases c : (60 : Int32) ≤ x3
    · rw [if_pos c, iB, chk_tr]; exact ⟨_, rfl, fin⟩
    rw [if_neg c]
    have c : ¬ 60 ≤ x3.toInt := fun z => c (Int32.le_iff_toInt_le.mpr (by omega))
    have e3 := add1 (x := x3) (by omega)
    by_cases c2 : x2 = 0
    · rw [if_pos c2, iB, chk_tr]; exact ⟨_, rfl, fin⟩
    rw [if_neg c2]
    have n2 : x2.toInt = 1 := by
      have : ¬ x2.toInt = 0 := fun w => c2 (Int32.toInt_inj.mp w)
      omega
    have e := ix60 (p := x1) (q := x3) h0 h1 h3 (by omega)
    rw [show (inb (((60 : Int32) * x1) + x3) 3600) = true from inb_iff.mpr ⟨by omega, by omega⟩, chk_tr]
    have go : ∀ y : Int32, (0 ≤ y.toInt ∧ y.toInt ≤ 1) → ∃ r, F_Mod_isReady_35 o0 n x1 y (x3 + (1 : Int32)) = some r ∧ (r = true → x2.toInt = 1) := fun y hy => by
      obtain ⟨r, q1, _⟩ := ih y (x3 + (1 : Int32)) hy (by omega) (by omega) (by omega)
      exact ⟨r, q1, fun _ => n2⟩
    split
    · exact go 1 (by omega)
    · rw [show (inb x3 60) = true from inb_iff.mpr ⟨by omega, by omega⟩, chk_tr]
      split
      · exact go 0 (by omega)
      · exact go 1 (by omega)
theorem m_isReady (x1 : Int32) (o0 : Ob) (hP : PG o0) (h0 : 0 ≤ x1.toInt) (h1 : x1.toInt < 60) : ∃ r, F_Mod_isReady x1 o0 = some r ∧ (r = true → 0 ≤ (g32 o0 17 (Int32.toNatClampNeg x1)).toInt ∧ (g32 o0 19 (Int32.toNatClampNeg x1)).toInt = -1) := by
  have z0 : (0 : Int32).toInt = 0 := rfl
  have z1 : (1 : Int32).toInt = 1 := rfl
  have no : ∀ A : Prop, ∃ r, F_Mod_isReady_35 o0 fuel x1 (0 : Int32) (0 : Int32) = some r ∧ (r = true → A) := fun A => by
    obtain ⟨r, q1, q2⟩ := m_isReady_35 o0 x1 h0 h1 fuel 0 0 (by omega) (by omega) (by omega) (by rw [fuel_eq]; omega)
    exact ⟨r, q1, fun z => by have := q2 z; omega⟩
  rw [F_Mod_isReady, show (inb x1 60) = true from inb_iff.mpr ⟨h0, by omega⟩, chk_tr]
  by_cases c : (g32 o0 17 (Int32.toNatClampNeg x1)) < 0
  · rw [if_pos c]; exact no _
  rw [if_neg c]
  have c : ¬ (g32 o0 17 (Int32.toNatClampNeg x1)).toInt < 0 := fun z => c (Int32.lt_iff_toInt_lt.mpr (by omega))
  obtain ⟨v, ev⟩ := m_isRing x1 o0 hP.nd h0 h1
  rw [ev, bind1_s]
  by_cases d : (b2i v) = 0
  · rw [if_pos d]
    by_cases e : (g32 o0 19 (Int32.toNatClampNeg x1)) = (-1 : Int32)
    · rw [if_pos e]
      obtain ⟨r, q1, _⟩ := m_isReady_35 o0 x1 h0 h1 fuel 1 0 (by omega) (by omega) (by omega) (by rw [fuel_eq]; omega)
      exact ⟨r, q1, fun _ => ⟨by omega, by rw [e]; rfl⟩⟩
    · rw [if_neg e]; exact no _
  · rw [if_neg d]; exact no _
/-- how many cells wait -/
theorem cnt_dn {f : Nat → Int32} {i : Nat} {v : Int32} (hf : f i = -1) (hv : ¬ v = -1) : ∀ n, cnt (upd f i v) (-1) n = cnt f (-1) n - (if i < n then 1 else 0)
  | 0 => by
    show (0 : Int) = 0 - (if i < 0 then 1 else 0)
    rw [if_neg (by omega : ¬ i < 0)]; rfl
  | n + 1 => by
    have ih := cnt_dn hf hv n
    show cnt (upd f i v) (-1) n + (if upd f i v n = -1 then 1 else 0) = cnt f (-1) n + (if f n = -1 then 1 else 0) - (if i < n + 1 then 1 else 0)
    by_cases e : n = i
    · have u : upd f i v n = v := if_pos e
      rw [u, if_neg hv, if_pos (by rw [e]; exact hf), if_pos (by omega : i < n + 1)]
      rw [if_neg (by omega : ¬ i < n)] at ih
      omega
    · have u : upd f i v n = f n := if_neg e
      rw [u]
      by_cases c1 : i < n
      · rw [if_pos c1] at ih; rw [if_pos (by omega : i < n + 1)]; omega
      · rw [if_neg c1] at ih; rw [if_neg (by omega : ¬ i < n + 1)]; omega
theorem cnt_le (f : Nat → Int32) (v : Int32) : ∀ n : Nat, cnt f v n ≤ n
  | 0 => Int.le_refl 0
  | n + 1 => by
    have h := cnt_le f v n
    show cnt f v n + (if f n = v then 1 else 0) ≤ ((n + 1 : Nat) : Int)
    split <;> omega
/-- what working out leaves -/
def WK (o n : Ob) : Prop := FR [19, 22, 30, 31] [20, 21, 28, 29] o n ∧ CV n
theorem m_work_77 (M : Int) (k69 : Int32 → Ob → Option Ob) (hk : ∀ (x1 : Int32) (o : Ob), PG o → OV o → CV o → (x1.toInt = 0 ∨ cnt (o.1 19) (-1) 60 < M) → ∃ n0, k69 x1 o = some n0 ∧ WK o n0) : ∀ (n : Nat) (x1 x2 : Int32) (o0 : Ob), PG o0 → OV o0 → CV o0 → cnt (o0.1 19) (-1) 60 ≤ M → (x1.toInt = 0 ∨ cnt (o0.1 19) (-1) 60 < M) → 0 ≤ x2.toInt → x2.toInt ≤ 60 → 60 - x2.toInt < (n : Int) → ∃ n0, F_Mod_work_77 k69 n x1 x2 o0 = some n0 ∧ WK o0 n0 := by
  intro n
  induction n with
  | zero => intro x1 x2 o0 _ _ _ _ _ _ _ _; exfalso; omega
  | succ n ih =>
    intro x1 x2 o0 hP hO hC hM hx h2 h2b hn
    have z60 : (60 : Int32).toInt = 60 := rfl
    rw [F_Mod_work_77]
    by_cases c : (60 : Int32) ≤ x2
    · rw [if_pos c]; exact hk x1 o0 hP hO hC hx
    rw [if_neg c]
    have c : ¬ 60 ≤ x2.toInt := fun z => c (Int32.le_iff_toInt_le.mpr (by omega))
    have e2 := add1 (x := x2) (by omega)
    obtain ⟨v, ev, hv⟩ := m_isReady x2 o0 hP h2 (by omega)
    rw [ev, bind1_s]
    by_cases d : (b2i v) = 0
    · rw [if_pos d]; exact ih x1 _ o0 hP hO hC hM hx (by omega) (by omega) (by omega)
    · rw [if_neg d]
      obtain ⟨l1, l2⟩ := hv (b2i_1 d)
      obtain ⟨m, em, hf, hcv, w, hw, h19⟩ := m_reckonCell x2 o0 hP hO hC h2 (by omega) l1
      rw [em, bind1_s]
      have hcn := cnt_dn (f := o0.1 19) (i := Int32.toNatClampNeg x2) (v := w) (Int32.toInt_inj.mp l2) (fun z => by rw [z] at hw; exact absurd hw (by decide)) 60
      rw [if_pos (by have := clampI h2; omega), ← h19] at hcn
      have z1 : (1 : Int32).toInt = 1 := rfl
      obtain ⟨n0, q1, q2, q3⟩ := ih 1 (x2 + (1 : Int32)) m (hP.fr hf (by decide) (by decide) (by decide) (by decide) (by decide) (by decide) (by decide)) (hO.fr hf (by decide) (by decide)) hcv (by omega) (Or.inr (by omega)) (by omega) (by omega) (by omega)
      exact ⟨n0, q1, FR.tr hf q2, q3⟩
theorem m_work_69 : ∀ (n : Nat) (x1 : Int32) (o : Ob), PG o → OV o → CV o → (x1.toInt = 0 ∨ cnt (o.1 19) (-1) 60 + 1 < (n : Int)) → 1 ≤ (n : Int) → ∃ n0, F_Mod_work_69 n x1 o = some n0 ∧ WK o n0 := by
  intro n
  induction n with
  | zero => intro x1 o _ _ _ _ _; exfalso; omega
  | succ n ih =>
    intro x1 o hP hO hC hx hn
    rw [F_Mod_work_69]
    have z0 : (0 : Int32).toInt = 0 := rfl
    by_cases c : x1 = 0
    · rw [if_pos c]; exact ⟨o, rfl, FR.refl, hC⟩
    rw [if_neg c]
    have c : ¬ x1.toInt = 0 := fun z => c (Int32.toInt_inj.mp z)
    have cz := cnt_0le (o.1 19) (-1) 60
    have hm : cnt (o.1 19) (-1) 60 + 1 < ((n + 1 : Nat) : Int) := by rcases hx with h | h <;> omega
    exact m_work_77 (cnt (o.1 19) (-1) 60) (F_Mod_work_69 n) (fun y o' a1 a2 a3 a4 => ih y o' a1 a2 a3 (by rcases a4 with h | h <;> omega) (by omega)) fuel 0 0 o hP hO hC (Int.le_refl _) (Or.inl z0) (by omega) (by omega) (by rw [fuel_eq]; omega)
theorem m_work_2 : ∀ (n : Nat) (x1 : Int32) (o : Ob), PG o → OV o → CV o → 0 ≤ x1.toInt → x1.toInt ≤ 60 → 60 - x1.toInt < (n : Int) → ∃ n0, F_Mod_work_2 n x1 o = some n0 ∧ WK o n0 := by
  intro n
  induction n with
  | zero => intro x1 o _ _ _ _ _ _; exfalso; omega
  | succ n ih =>
    intro x1 o hP hO hC h1 h1b hn
    have z60 : (60 : Int32).toInt = 60 := rfl
    have z0 : (0 : Int32).toInt = 0 := rfl
    rw [F_Mod_work_2]
    by_cases c : (60 : Int32) ≤ x1
    · rw [if_pos c]
      have cl := cnt_le (o.1 19) (-1) 60
      exact m_work_69 fuel 1 o hP hO hC (Or.inr (by rw [fuel_eq]; omega)) (by rw [fuel_eq]; omega)
    rw [if_neg c]
    have c : ¬ 60 ≤ x1.toInt := fun z => c (Int32.le_iff_toInt_le.mpr (by omega))
    have e1 := add1 (x := x1) (by omega)
    have i60 : (inb x1 60) = true := inb_iff.mpr ⟨h1, by omega⟩
    have go : ∀ y : Int32, ¬ y.toInt = 1 → ∃ n0, F_Mod_work_39 (F_Mod_work_2 n) x1 x1 y o = some n0 ∧ WK o n0 := by
      intro y hy
      rw [F_Mod_work_39, i60, chk_tr, chk_tr]
      have hf : FR [19, 22, 30, 31] [20, 21, 28, 29] o (s32 (s64 (s64 (s32 o 19 (Int32.toNatClampNeg x1) y) 20 (Int32.toNatClampNeg x1) (0 : Int64)) 21 (Int32.toNatClampNeg x1) (1 : Int64)) 22 (Int32.toNatClampNeg x1) (-1 : Int32)) := FR.s (FR.l (FR.l (FR.s FR.refl (by decide)) (by decide)) (by decide)) (by decide)
      have hcv := cv_set (o := o) (x := x1) (v := y) (c := -1) (p := 0) (q := 1) hC (fun z => absurd z hy)
      obtain ⟨n0, q1, q2, q3⟩ := ih (x1 + (1 : Int32)) _ (hP.fr hf (by decide) (by decide) (by decide) (by decide) (by decide) (by decide) (by decide)) (hO.fr hf (by decide) (by decide)) hcv (by omega) (by omega) (by omega)
      exact ⟨n0, q1, FR.tr hf q2, q3⟩
    rw [i60, chk_tr]
    by_cases d : 0 ≤ (g32 o 17 (Int32.toNatClampNeg x1))
    · rw [if_pos d]
      obtain ⟨v, ev⟩ := m_isRing x1 o hP.nd h1 (by omega)
      rw [ev, bind1_s]
      split
      · exact go (-1) (by decide)
      · exact go 4 (by decide)
    · rw [if_neg d]; exact go 0 (by decide)
theorem m_work (o : Ob) (hP : PG o) (hO : OV o) (hC : CV o) : ∃ n0, F_Mod_work o = some n0 ∧ WK o n0 := by
  have z0 : (0 : Int32).toInt = 0 := rfl
  exact m_work_2 fuel 0 o hP hO hC (by omega) (by omega) (by rw [fuel_eq]; omega)
