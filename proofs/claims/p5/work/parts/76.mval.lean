/-! THE REFERENCE: a program of signs, and reckoning it -/
theorem i64_mul {a b : Int64} (h1 : -9000000000000000000 ≤ a.toInt * b.toInt) (h2 : a.toInt * b.toInt ≤ 9000000000000000000) : (a * b).toInt = a.toInt * b.toInt := by
  generalize hm : a.toInt * b.toInt = m at h1 h2
  rw [Int64.toInt_mul, hm, Int.bmod_eq_of_le] <;> omega
theorem i64_add {a b : Int64} (h1 : -9000000000000000000 ≤ a.toInt + b.toInt) (h2 : a.toInt + b.toInt ≤ 9000000000000000000) : (a + b).toInt = a.toInt + b.toInt := by
  rw [Int64.toInt_add, Int.bmod_eq_of_le] <;> omega
theorem i64_sub {a b : Int64} (h1 : -9000000000000000000 ≤ a.toInt - b.toInt) (h2 : a.toInt - b.toInt ≤ 9000000000000000000) : (a - b).toInt = a.toInt - b.toInt := by
  rw [Int64.toInt_sub, Int.bmod_eq_of_le] <;> omega
theorem absmul {a b A B : Int} (ha : -A ≤ a) (ha2 : a ≤ A) (hb : -B ≤ b) (hb2 : b ≤ B) : -(A * B) ≤ a * b ∧ a * b ≤ A * B := by
  have hA : 0 ≤ A := by omega
  have key : ∀ x y : Int, -A ≤ x → x ≤ A → 0 ≤ y → y ≤ B → -(A * B) ≤ x * y ∧ x * y ≤ A * B := by
    intro x y hx hx2 hy hy2
    have h1 : x * y ≤ A * y := Int.mul_le_mul_of_nonneg_right hx2 hy
    have h2 : A * y ≤ A * B := Int.mul_le_mul_of_nonneg_left hy2 hA
    have h3 : -A * y ≤ x * y := Int.mul_le_mul_of_nonneg_right hx hy
    have h4 : -A * y = -(A * y) := Int.neg_mul A y
    omega
  by_cases h : 0 ≤ b
  · exact key a b ha ha2 h hb2
  · have q := key (-a) (-b) (by omega) (by omega) (by omega) (by omega)
    rw [Int.neg_mul_neg] at q
    exact q
def gv (p q : Int64) : Prop := -1000000000 ≤ p.toInt ∧ p.toInt ≤ 1000000000 ∧ 1 ≤ q.toInt ∧ q.toInt ≤ 1000000000
theorem mul9 {a b : Int64} (h1 : -1000000000 ≤ a.toInt) (h2 : a.toInt ≤ 1000000000) (h3 : -1000000000 ≤ b.toInt) (h4 : b.toInt ≤ 1000000000) : (a * b).toInt = a.toInt * b.toInt ∧ -1000000000000000000 ≤ a.toInt * b.toInt ∧ a.toInt * b.toInt ≤ 1000000000000000000 := by
  have q := absmul h1 h2 h3 h4
  have e : (1000000000 : Int) * 1000000000 = 1000000000000000000 := by decide
  rw [e] at q
  exact ⟨i64_mul (by omega) (by omega), q.1, q.2⟩
theorem pos_mul {a b : Int} (h1 : 1 ≤ a) (h2 : 1 ≤ b) : 1 ≤ a * b := by
  have q : 1 * 1 ≤ a * b := Int.mul_le_mul h1 h2 (by decide) (by omega)
  omega
/-- how deep the rows stand behind a sign -/
def nxt (s : Int32) (d : Int) : Int := if s.toInt ≤ 3 then d + 1 else if s.toInt = 4 then d else if s.toInt ≤ 8 then d - 1 else 0
def okst (s a : Int32) (d : Int) : Prop := (1 ≤ s.toInt ∧ s.toInt ≤ 10) ∧ (s.toInt = 1 → 0 ≤ a.toInt ∧ a.toInt ≤ 99999999) ∧ (s.toInt = 2 → 0 ≤ a.toInt ∧ a.toInt < 8) ∧ (s.toInt = 3 → 0 ≤ a.toInt ∧ a.toInt < 60) ∧ (s.toInt = 4 → 1 ≤ d) ∧ (5 ≤ s.toInt → s.toInt ≤ 8 → 2 ≤ d) ∧ (s.toInt = 9 → d = 2) ∧ (s.toInt = 10 → d = 1)
def dep (sg : Nat → Int32) (b : Nat) : Nat → Int
  | 0 => 0
  | k + 1 => nxt (sg (b + k)) (dep sg b k)
def SEG (sg ag : Nat → Int32) (b n : Nat) : Prop := ∀ k, k < n → okst (sg (b + k)) (ag (b + k)) (dep sg b k)
theorem dep_rg {sg ag : Nat → Int32} {b n : Nat} (h : SEG sg ag b n) : ∀ k, k ≤ n → 0 ≤ dep sg b k ∧ dep sg b k ≤ k
  | 0, _ => ⟨Int.le_refl 0, Int.le_refl 0⟩
  | k + 1, hk => by
    have ih := dep_rg h k (by omega)
    obtain ⟨⟨s1, s2⟩, _, _, _, h4, h5, _, _⟩ := h k (by omega)
    show 0 ≤ nxt (sg (b + k)) (dep sg b k) ∧ nxt (sg (b + k)) (dep sg b k) ≤ ((k + 1 : Nat) : Int)
    unfold nxt
    split
    · omega
    · split
      · omega
      · split
        · have := h5 (by omega) (by omega)
          omega
        · omega
/-- all but what reckoning works with is as it was -/
def MK (o n : Ob) : Prop := (∀ k, k ≠ 30 → k ≠ 31 → n.1 k = o.1 k) ∧ (∀ k, k ≠ 28 → k ≠ 29 → n.2 k = o.2 k)
theorem MK.refl {o : Ob} : MK o o := ⟨fun _ _ _ => rfl, fun _ _ _ => rfl⟩
theorem MK.tr {o n m : Ob} (h : MK o n) (g : MK n m) : MK o m := ⟨fun k a b => (g.1 k a b).trans (h.1 k a b), fun k a b => (g.2 k a b).trans (h.2 k a b)⟩
theorem MK.s30 {o n : Ob} {v : Int32} {i : Nat} (h : MK o n) : MK o (s32 n 30 i v) := ⟨fun k a b => by rw [← h.1 k a b]; exact if_neg a, h.2⟩
theorem MK.s31 {o n : Ob} {v : Int32} {i : Nat} (h : MK o n) : MK o (s32 n 31 i v) := ⟨fun k a b => by rw [← h.1 k a b]; exact if_neg b, h.2⟩
theorem MK.s28 {o n : Ob} {v : Int64} {i : Nat} (h : MK o n) : MK o (s64 n 28 i v) := ⟨h.1, fun k a b => by rw [← h.2 k a b]; exact if_neg a⟩
theorem MK.s29 {o n : Ob} {v : Int64} {i : Nat} (h : MK o n) : MK o (s64 n 29 i v) := ⟨h.1, fun k a b => by rw [← h.2 k a b]; exact if_neg b⟩
def RV (o : Ob) (t : Int) : Prop := ∀ j : Nat, (j : Int) < t → gv (g64 o 28 j) (g64 o 29 j)
def OV (o : Ob) : Prop := ∀ j : Nat, j < 8 → gv (g64 o 15 j) (g64 o 16 j)
def CV (o : Ob) : Prop := ∀ j : Nat, j < 60 → (g32 o 19 j).toInt = 1 → gv (g64 o 20 j) (g64 o 21 j)
theorem OV.mk {o n : Ob} (h : OV o) (m : MK o n) : OV n := fun j hj => by
  have e1 : g64 n 15 j = g64 o 15 j := congrFun (m.2 15 (by decide) (by decide)) j
  have e2 : g64 n 16 j = g64 o 16 j := congrFun (m.2 16 (by decide) (by decide)) j
  rw [e1, e2]; exact h j hj
theorem CV.mk {o n : Ob} (h : CV o) (m : MK o n) : CV n := fun j hj hs => by
  have e0 : g32 n 19 j = g32 o 19 j := congrFun (m.1 19 (by decide) (by decide)) j
  have e1 : g64 n 20 j = g64 o 20 j := congrFun (m.2 20 (by decide) (by decide)) j
  have e2 : g64 n 21 j = g64 o 21 j := congrFun (m.2 21 (by decide) (by decide)) j
  rw [e0] at hs
  rw [e1, e2]; exact h j hj hs
/-- a row is put on top -/
def tp (o : Ob) (y : Int32) (p q : Int64) : Ob := s32 (s64 (s64 (s32 o 31 0 y) 28 (Int32.toNatClampNeg (g32 o 30 0)) p) 29 (Int32.toNatClampNeg (g32 o 30 0)) q) 30 0 ((g32 o 30 0) + (1 : Int32))
theorem tp_MK {o : Ob} {y : Int32} {p q : Int64} : MK o (tp o y p q) := MK.s30 (MK.s29 (MK.s28 (MK.s31 MK.refl)))
theorem tp_top {o : Ob} {y : Int32} {p q : Int64} : g32 (tp o y p q) 30 0 = (g32 o 30 0) + (1 : Int32) := rfl
theorem tp_rsn {o : Ob} {y : Int32} {p q : Int64} : g32 (tp o y p q) 31 0 = y := rfl
theorem rv_put {o : Ob} {p q : Int64} {t : Int} {i : Nat} (h : RV o t) (hi : (i : Int) = t) (hg : gv p q) : RV (s64 (s64 o 28 i p) 29 i q) (t + 1) := by
  intro j hj
  have e1 : g64 (s64 (s64 o 28 i p) 29 i q) 28 j = if j = i then p else g64 o 28 j := by rw [g64_other _ (by decide), g64_same]
  have e2 : g64 (s64 (s64 o 28 i p) 29 i q) 29 j = if j = i then q else g64 o 29 j := by
    rw [g64_same]
    split
    · rfl
    · rw [g64_other _ (by decide)]
  rw [e1, e2]
  by_cases c : j = i
  · rw [if_pos c, if_pos c]; exact hg
  · rw [if_neg c, if_neg c]; exact h j (by omega)
theorem tp_RV {o : Ob} {y : Int32} {p q : Int64} (h0 : 0 ≤ (g32 o 30 0).toInt) (h : RV o (g32 o 30 0).toInt) (hg : gv p q) : RV (tp o y p q) ((g32 o 30 0).toInt + 1) := by
  have q1 : RV (s32 o 31 0 y) (g32 o 30 0).toInt := h
  have q2 := rv_put (i := Int32.toNatClampNeg (g32 o 30 0)) q1 (clampI h0) hg
  exact q2
theorem m_put_79 (x9 x11 : Int64) (y1 : Int32) (o0 : Ob) (h0 : 0 ≤ (g32 o0 30 0).toInt) (h1 : (g32 o0 30 0).toInt < 420) : F_Mod_put_79 x9 x11 y1 o0 = some (tp o0 y1 x9 x11) := by
  rw [F_Mod_put_79, show (inb (g32 o0 30 0) 420) = true from inb_iff.mpr ⟨h0, by omega⟩, chk_tr]
  rfl
theorem m_put_13 (x1 x3 y0 : Int64) (o0 : Ob) (h0 : 0 ≤ (g32 o0 30 0).toInt) (h1 : (g32 o0 30 0).toInt < 420) (ha : -4000000000000000000 ≤ x1.toInt) (hb : x1.toInt ≤ 4000000000000000000) (hc : 0 < (y0 * x3).toInt) (hd : (y0 * x3).toInt ≤ 4000000000000000000) : ∃ (y : Int32) (p q : Int64), F_Mod_put_13 x1 x3 y0 o0 = some (tp o0 y p q) ∧ (y.toInt = 3 ∨ (y = g32 o0 31 0 ∧ gv p q)) := by
  obtain ⟨g, eg, hg⟩ := mod_cd (a := x1) (b := y0 * x3) ha hb hc hd
  have hdv : ((Int.gcd x1.toInt (y0 * x3).toInt : Nat) : Int) ∣ (y0 * x3).toInt := Int.gcd_dvd_right ..
  rw [← hg] at hdv
  have g1 : g.toInt ≤ (y0 * x3).toInt := Int.le_of_dvd hc hdv
  have g0 : 0 < g.toInt := by
    have n0 : 0 ≤ g.toInt := by rw [hg]; exact Int.natCast_nonneg _
    by_cases z : g.toInt = 0
    · rw [z] at hdv
      have := Int.zero_dvd.mp hdv
      omega
    · omega
  have gn : ¬ g = 0 := fun z => by rw [z] at g0; exact absurd g0 (by decide)
  rw [F_Mod_put_13, eg, bind1_s, show (decide (¬ g = 0)) = true from decide_eq_true gn, chk_tr]
  have hq : 1 ≤ ((y0 * x3) / g).toInt := by
    rw [Int64.toInt_div, Int.tdiv_eq_ediv_of_nonneg (by omega)]
    have b1 : 1 ≤ (y0 * x3).toInt / g.toInt := Int.le_ediv_of_mul_le g0 (by omega)
    have b2 : (y0 * x3).toInt / g.toInt ≤ (y0 * x3).toInt := Int.ediv_le_self _ (by omega)
    rw [Int.bmod_eq_of_le] <;> omega
  have z9 : (1000000000 : Int64).toInt = 1000000000 := by decide
  have z8 : (-1000000000 : Int64).toInt = -1000000000 := by decide
  have t3 : (3 : Int32).toInt = 3 := rfl
  by_cases c1 : 0 < (lg_cmp ((y0 * x1) / g) (1000000000 : Int64))
  · rw [if_pos c1, m_put_79 _ _ _ _ h0 h1]; exact ⟨_, _, _, rfl, Or.inl t3⟩
  rw [if_neg c1]
  have c1 : ¬ (1000000000 : Int64).toInt < ((y0 * x1) / g).toInt := fun z => c1 (lgc_gt.mpr z)
  by_cases c2 : (lg_cmp ((y0 * x1) / g) (-1000000000 : Int64)) < 0
  · rw [if_pos c2, m_put_79 _ _ _ _ h0 h1]; exact ⟨_, _, _, rfl, Or.inl t3⟩
  rw [if_neg c2]
  have c2 : ¬ ((y0 * x1) / g).toInt < (-1000000000 : Int64).toInt := fun z => c2 (lgc_lt.mpr z)
  by_cases c3 : (lg_cmp ((y0 * x3) / g) (1000000000 : Int64)) ≤ 0
  · rw [if_pos c3, m_put_79 _ _ _ _ h0 h1]
    have c3 := lgc_le.mp c3
    exact ⟨_, _, _, rfl, Or.inr ⟨rfl, by omega, by omega, hq, by omega⟩⟩
  · rw [if_neg c3, m_put_79 _ _ _ _ h0 h1]; exact ⟨_, _, _, rfl, Or.inl t3⟩
theorem m_put (x1 x3 : Int64) (o0 : Ob) (h0 : 0 ≤ (g32 o0 30 0).toInt) (h1 : (g32 o0 30 0).toInt < 420) (ha : -4000000000000000000 ≤ x1.toInt) (hb : x1.toInt ≤ 4000000000000000000) (hc : ¬ x3.toInt = 0) (hd : -4000000000000000000 ≤ x3.toInt) (he : x3.toInt ≤ 4000000000000000000) : ∃ (y : Int32) (p q : Int64), F_Mod_put x1 x3 o0 = some (tp o0 y p q) ∧ (y.toInt = 3 ∨ (y = g32 o0 31 0 ∧ gv p q)) := by
  rw [F_Mod_put]
  have z0 : (0 : Int64).toInt = 0 := by decide
  have z1 : (1 : Int64).toInt = 1 := by decide
  have zm : (-1 : Int64).toInt = -1 := by decide
  by_cases c : 0 ≤ (lg_cmp x3 (0 : Int64))
  · rw [if_pos c]
    have c := lgc_ge.mp c
    have e : ((1 : Int64) * x3).toInt = x3.toInt := by rw [i64_mul (by rw [z1]; omega) (by rw [z1]; omega), z1]; omega
    exact m_put_13 x1 x3 1 o0 h0 h1 ha hb (by omega) (by omega)
  · rw [if_neg c]
    have c : ¬ (0 : Int64).toInt ≤ x3.toInt := fun z => c (lgc_ge.mpr z)
    have e : ((-1 : Int64) * x3).toInt = -x3.toInt := by rw [i64_mul (by rw [zm]; omega) (by rw [zm]; omega), zm]; omega
    exact m_put_13 x1 x3 (-1) o0 h0 h1 ha hb (by omega) (by omega)
/-- what one step of reckoning leaves: a reason, or rows of the depth due -/
def RG (o : Ob) (d : Int) : Prop := (0 ≤ (g32 o 31 0).toInt ∧ (g32 o 31 0).toInt ≤ 5 ∧ ¬ (g32 o 31 0).toInt = 1) ∧ ((g32 o 31 0).toInt = 0 → (g32 o 30 0).toInt = d ∧ RV o d)
theorem RG_tp {o : Ob} {y : Int32} {p q : Int64} {d : Int} (h0 : 0 ≤ (g32 o 30 0).toInt) (h1 : (g32 o 30 0).toInt < 420) (hr : (g32 o 31 0).toInt = 0) (hv : RV o (g32 o 30 0).toInt) (hd : d = (g32 o 30 0).toInt + 1) (hy : y.toInt = 3 ∨ (y = g32 o 31 0 ∧ gv p q)) : RG (tp o y p q) d := by
  rcases hy with hy | ⟨hy, hg⟩
  · exact ⟨by rw [tp_rsn]; omega, fun z => by rw [tp_rsn] at z; omega⟩
  · have e : y.toInt = 0 := by rw [hy]; exact hr
    refine ⟨by rw [tp_rsn]; omega, fun _ => ⟨?_, ?_⟩⟩
    · rw [tp_top, add1 (by omega)]; omega
    · rw [hd]; exact tp_RV h0 hv hg
theorem m_pushCell (x1 : Int32) (o0 : Ob) (hx : 0 ≤ x1.toInt) (hx2 : x1.toInt < 60) (hC : CV o0) (h0 : 0 ≤ (g32 o0 30 0).toInt) (h1 : (g32 o0 30 0).toInt < 420) (hr : (g32 o0 31 0).toInt = 0) (hv : RV o0 (g32 o0 30 0).toInt) : ∃ n0, F_Mod_pushCell x1 o0 = some n0 ∧ MK o0 n0 ∧ RG n0 ((g32 o0 30 0).toInt + 1) := by
  rw [F_Mod_pushCell, show (inb x1 60) = true from inb_iff.mpr ⟨hx, by omega⟩, chk_tr]
  by_cases c : (g32 o0 19 (Int32.toNatClampNeg x1)) = (1 : Int32)
  · rw [if_pos c, show (inb (g32 o0 30 0) 420) = true from inb_iff.mpr ⟨h0, by omega⟩, chk_tr]
    have hg : gv (g64 o0 20 (Int32.toNatClampNeg x1)) (g64 o0 21 (Int32.toNatClampNeg x1)) := hC _ (by have := clampI hx; omega) (by rw [c]; rfl)
    refine ⟨_, rfl, MK.s30 (MK.s29 (MK.s28 MK.refl)), ⟨by show 0 ≤ (g32 o0 31 0).toInt ∧ (g32 o0 31 0).toInt ≤ 5 ∧ ¬ (g32 o0 31 0).toInt = 1; omega, fun _ => ⟨?_, ?_⟩⟩⟩
    · show ((g32 o0 30 0) + (1 : Int32)).toInt = _
      exact add1 (by omega)
    · exact rv_put (i := Int32.toNatClampNeg (g32 o0 30 0)) hv (clampI h0) hg
  · rw [if_neg c]
    exact ⟨_, rfl, MK.s31 MK.refl, ⟨by show 0 ≤ (5 : Int32).toInt ∧ (5 : Int32).toInt ≤ 5 ∧ ¬ (5 : Int32).toInt = 1; decide, fun z => absurd (show (5 : Int32).toInt = 0 from z) (by decide)⟩⟩
theorem sub2 {x : Int32} (h : -2147483647 < x.toInt) : (x - (2 : Int32)).toInt = x.toInt - 2 := by
  have e : (2 : Int32).toInt = 2 := rfl
  rw [tsub (by rw [e]; omega) (by rw [e]; have := x.toInt_lt; omega), e]
theorem m_between (x1 : Int32) (o0 : Ob) (h0 : 2 ≤ (g32 o0 30 0).toInt) (h1 : (g32 o0 30 0).toInt < 420) (hr : (g32 o0 31 0).toInt = 0) (hv : RV o0 (g32 o0 30 0).toInt) : ∃ n0, F_Mod_between x1 o0 = some n0 ∧ MK o0 n0 ∧ RG n0 ((g32 o0 30 0).toInt - 1) := by
  have e2 := sub2 (x := g32 o0 30 0) (by omega)
  have e1 := sub1 (x := g32 o0 30 0) (by omega)
  have c2 := clampI (x := (g32 o0 30 0) - (2 : Int32)) (by omega)
  have c1 := clampI (x := (g32 o0 30 0) - (1 : Int32)) (by omega)
  obtain ⟨a1, a2, b1, b2⟩ := hv (Int32.toNatClampNeg ((g32 o0 30 0) - (2 : Int32))) (by omega)
  obtain ⟨p1, p2, q1, q2⟩ := hv (Int32.toNatClampNeg ((g32 o0 30 0) - (1 : Int32))) (by omega)
  rw [F_Mod_between, show (inb ((g32 o0 30 0) - (2 : Int32)) 420) = true from inb_iff.mpr ⟨by omega, by omega⟩, chk_tr, show (inb ((g32 o0 30 0) - (1 : Int32)) 420) = true from inb_iff.mpr ⟨by omega, by omega⟩, chk_tr]
  generalize ha : g64 o0 28 (Int32.toNatClampNeg ((g32 o0 30 0) - (2 : Int32))) = A at a1 a2 ⊢
  generalize hb : g64 o0 29 (Int32.toNatClampNeg ((g32 o0 30 0) - (2 : Int32))) = B at b1 b2 ⊢
  generalize hc : g64 o0 28 (Int32.toNatClampNeg ((g32 o0 30 0) - (1 : Int32))) = C at p1 p2 ⊢
  generalize hd : g64 o0 29 (Int32.toNatClampNeg ((g32 o0 30 0) - (1 : Int32))) = D at q1 q2 ⊢
  have AD := mul9 (a := A) (b := D) a1 a2 (by omega) q2
  have CB := mul9 (a := C) (b := B) p1 p2 (by omega) b2
  have BD := mul9 (a := B) (b := D) (by omega) b2 (by omega) q2
  have AC := mul9 (a := A) (b := C) a1 a2 p1 p2
  have BC := mul9 (a := B) (b := C) (by omega) b2 p1 p2
  have BD1 := pos_mul b1 q1
  have t0 : (g32 (s32 o0 30 0 ((g32 o0 30 0) - (2 : Int32))) 30 0).toInt = (g32 o0 30 0).toInt - 2 := e2
  have tv : RV (s32 o0 30 0 ((g32 o0 30 0) - (2 : Int32))) ((g32 o0 30 0).toInt - 2) := fun j hj => hv j (by omega)
  have go : ∀ (u w : Int64), -4000000000000000000 ≤ u.toInt → u.toInt ≤ 4000000000000000000 → ¬ w.toInt = 0 → -4000000000000000000 ≤ w.toInt → w.toInt ≤ 4000000000000000000 → ∃ n0, bind1 (F_Mod_put u w (s32 o0 30 0 ((g32 o0 30 0) - (2 : Int32)))) (fun o_1 => some o_1) = some n0 ∧ MK o0 n0 ∧ RG n0 ((g32 o0 30 0).toInt - 1) := by
    intro u w u1 u2 w1 w2 w3
    obtain ⟨y, p, q, e, hy⟩ := m_put u w (s32 o0 30 0 ((g32 o0 30 0) - (2 : Int32))) (by omega) (by omega) u1 u2 w1 w2 w3
    rw [e, bind1_s]
    exact ⟨_, rfl, MK.tr (MK.s30 MK.refl) tp_MK, RG_tp (by omega) (by omega) hr (by rw [t0]; exact tv) (by omega) hy⟩
  by_cases x5 : x1 = (5 : Int32)
  · rw [if_pos x5]
    have s := i64_add (a := A * D) (b := C * B) (by omega) (by omega)
    exact go _ _ (by omega) (by omega) (by omega) (by omega) (by omega)
  rw [if_neg x5]
  by_cases x6 : x1 = (6 : Int32)
  · rw [if_pos x6]
    have s := i64_sub (a := A * D) (b := C * B) (by omega) (by omega)
    exact go _ _ (by omega) (by omega) (by omega) (by omega) (by omega)
  rw [if_neg x6]
  by_cases x7 : x1 = (7 : Int32)
  · rw [if_pos x7]
    exact go _ _ (by omega) (by omega) (by omega) (by omega) (by omega)
  rw [if_neg x7]
  by_cases xz : (lg_cmp C (0 : Int64)) = 0
  · rw [if_pos xz]
    exact ⟨_, rfl, MK.s31 (MK.s30 MK.refl), ⟨by show 0 ≤ (2 : Int32).toInt ∧ (2 : Int32).toInt ≤ 5 ∧ ¬ (2 : Int32).toInt = 1; decide, fun z => absurd (show (2 : Int32).toInt = 0 from z) (by decide)⟩⟩
  · rw [if_neg xz]
    have cn : ¬ C.toInt = 0 := fun z => xz (lgc_eq.mpr (Int64.toInt_inj.mp z))
    have nz : ¬ B.toInt * C.toInt = 0 := fun z => by
      rcases Int.mul_eq_zero.mp z with z | z
      · omega
      · exact cn z
    exact go _ _ (by omega) (by omega) (by omega) (by omega) (by omega)
