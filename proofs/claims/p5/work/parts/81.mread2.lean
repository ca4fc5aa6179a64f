/-! THE REFERENCE: what holds while an expression is read -/
def LB (o : Ob) (K L : Int) : Prop := 0 ≤ (g32 o 7 1).toInt ∧ 0 ≤ (g32 o 14 0).toInt ∧ (g32 o 7 1).toInt + (g32 o 14 0).toInt + L ≤ (g32 o 3 0).toInt ∧ (g32 o 3 0).toInt ≤ (g32 o 2 0).toInt + K ∧ 0 ≤ (g32 o 2 0).toInt ∧ (g32 o 2 0).toInt ≤ 400
def EX (o : Ob) (L : Int) (b : Nat) (bd w dp : Int) : Prop := (LB o 0 L ∧ (g32 o 4 0).toInt < 0) ∧ DJ (o.1 5) (o.1 6) (o.1 13) b (Int32.toNatClampNeg (g32 o 7 1)) (Int32.toNatClampNeg (g32 o 14 0)) bd w (2 * (g32 o 3 0).toInt) ∧ cnt (o.1 13) 11 (Int32.toNatClampNeg (g32 o 14 0)) = dp
def EF (o : Ob) (K L : Int) : Prop := LB o K L ∧ 0 ≤ (g32 o 4 0).toInt
def XE (o n : Ob) : Prop := FR [3, 4, 5, 6, 7, 13, 14] [] o n ∧ (∀ k : Nat, (k : Int) < 500 + (g32 o 7 1).toInt → n.1 5 k = o.1 5 k ∧ n.1 6 k = o.1 6 k) ∧ (g32 o 7 1).toInt ≤ (g32 n 7 1).toInt ∧ (∀ k : Nat, 500 + (g32 o 7 1).toInt ≤ (k : Int) → (k : Int) < 500 + (g32 n 7 1).toInt → (n.1 5 k).toInt ≤ 8)
theorem XE.refl {o : Ob} : XE o o := ⟨FR.refl, fun _ _ => ⟨rfl, rfl⟩, Int.le_refl _, fun k a b => by omega⟩
theorem XE.tr {o n m : Ob} (h : XE o n) (g : XE n m) : XE o m := by
  obtain ⟨h1, h2, h3, h4⟩ := h
  obtain ⟨g1, g2, g3, g4⟩ := g
  refine ⟨FR.tr h1 g1, fun k hk => ?_, by omega, fun k a b => ?_⟩
  · have q := g2 k (by omega)
    have p := h2 k hk
    exact ⟨q.1.trans p.1, q.2.trans p.2⟩
  · by_cases c : (k : Int) < 500 + (g32 n 7 1).toInt
    · rw [(g2 k c).1]; exact h4 k a c
    · exact g4 k (by omega) b
theorem XE.s {o n : Ob} {k i : Nat} {v : Int32} (h : XE o n) (hk : k ∈ [3, 4, 13, 14]) : XE o (s32 n k i v) := by
  obtain ⟨h1, h2, h3, h4⟩ := h
  have hk2 : ∀ k, k ∈ [3, 4, 13, 14] → k ∈ [3, 4, 5, 6, 7, 13, 14] ∧ ¬ 5 = k ∧ ¬ 6 = k ∧ ¬ 7 = k := by decide
  obtain ⟨k1, k5, k6, k7⟩ := hk2 k hk
  have e5 : (s32 n k i v).1 5 = n.1 5 := if_neg k5
  have e6 : (s32 n k i v).1 6 = n.1 6 := if_neg k6
  have e7 : g32 (s32 n k i v) 7 1 = g32 n 7 1 := g32_other _ k7
  exact ⟨h1.s k1, by rw [e5, e6]; exact h2, by rw [e7]; exact h3, by rw [e5, e7]; exact h4⟩
/-- a sign comes behind the others -/
def em (o : Ob) (s a : Int32) : Ob := s32 (s32 (s32 o 5 (500 + Int32.toNatClampNeg (g32 o 7 1)) s) 6 (500 + Int32.toNatClampNeg (g32 o 7 1)) a) 7 1 ((g32 o 7 1) + (1 : Int32))
theorem em_5 {o : Ob} {s a : Int32} : (em o s a).1 5 = upd (o.1 5) (500 + Int32.toNatClampNeg (g32 o 7 1)) s := rfl
theorem em_6 {o : Ob} {s a : Int32} : (em o s a).1 6 = upd (o.1 6) (500 + Int32.toNatClampNeg (g32 o 7 1)) a := rfl
theorem em_7 {o : Ob} {s a : Int32} : g32 (em o s a) 7 1 = (g32 o 7 1) + (1 : Int32) := rfl
theorem m_emit (s a : Int32) (o : Ob) (h0 : 0 ≤ (g32 o 7 1).toInt) (h1 : (g32 o 7 1).toInt < 500) : F_Mod_emit s a o = some (em o s a) := by
  have z : (500 : Int32).toInt = 500 := rfl
  have e : ((500 : Int32) + (g32 o 7 1)).toInt = 500 + (g32 o 7 1).toInt := by rw [tadd (by omega) (by omega), z]
  have ix : Int32.toNatClampNeg ((500 : Int32) + (g32 o 7 1)) = 500 + Int32.toNatClampNeg (g32 o 7 1) := by
    have c1 := clampI (x := (500 : Int32) + (g32 o 7 1)) (by omega)
    have c2 := clampI h0
    omega
  have i1b : (inb ((500 : Int32) + (g32 o 7 (Int32.toNatClampNeg (1 : Int32)))) 1000) = true := inb_iff.mpr ⟨by show 0 ≤ ((500 : Int32) + (g32 o 7 1)).toInt; omega, by show ((500 : Int32) + (g32 o 7 1)).toInt < _; omega⟩
  rw [F_Mod_emit, show (inb (1 : Int32) 2) = true from by decide, chk_tr, i1b, chk_tr]
  show some (s32 (s32 (s32 o 5 (Int32.toNatClampNeg ((500 : Int32) + (g32 o 7 1))) s) 6 (Int32.toNatClampNeg ((500 : Int32) + (g32 o 7 1))) a) 7 1 ((g32 o 7 1) + (1 : Int32))) = _
  rw [ix]
  rfl
theorem XE.e {o n : Ob} {s a : Int32} (h : XE o n) (h0 : 0 ≤ (g32 n 7 1).toInt) (h1 : (g32 n 7 1).toInt < 500) (hs : s.toInt ≤ 8) : XE o (em n s a) := by
  obtain ⟨g1, g2, g3, g4⟩ := h
  have c := clampI h0
  have e := add1 (x := g32 n 7 1) (by omega)
  refine ⟨FR.s (FR.s (FR.s g1 (by decide)) (by decide)) (by decide), fun k hk => ?_, by rw [em_7]; omega, fun k a1 b1 => ?_⟩
  · have n5 : (em n s a).1 5 k = n.1 5 k := if_neg (by omega)
    have n6 : (em n s a).1 6 k = n.1 6 k := if_neg (by omega)
    rw [n5, n6]; exact g2 k hk
  · rw [em_7] at b1
    by_cases d : k = 500 + Int32.toNatClampNeg (g32 n 7 1)
    · have n5 : (em n s a).1 5 k = s := if_pos d
      rw [n5]; exact hs
    · have n5 : (em n s a).1 5 k = n.1 5 k := if_neg d
      rw [n5]; exact g4 k a1 (by omega)
theorem EX.oper {o : Ob} {L : Int} {b : Nat} {bd dp : Int} {v s a : Int32} (h : EX o L b bd 0 dp) (hbd : 0 ≤ bd) (h1 : (g32 o 3 0).toInt < v.toInt) (h2 : v.toInt ≤ (g32 o 2 0).toInt) (h3 : 1 ≤ s.toInt) (h4 : s.toInt ≤ 3) (h5 : (s.toInt = 1 → 0 ≤ a.toInt ∧ a.toInt ≤ 99999999) ∧ (s.toInt = 2 → 0 ≤ a.toInt ∧ a.toInt < 8) ∧ (s.toInt = 3 → 0 ≤ a.toInt ∧ a.toInt < 60)) (hw : wt s a + 1 ≤ 2 * (v.toInt - (g32 o 3 0).toInt)) (hL : 0 ≤ L) : EX (em (s32 o 3 0 v) s a) L b bd 1 dp := by
  obtain ⟨⟨⟨l1, l2, l3, l4, l5, l6⟩, lf⟩, hJ, hc⟩ := h
  have e := add1 (x := g32 o 7 1) (by omega)
  have cs := clampS (x := g32 o 7 1) l1 (by omega)
  refine ⟨⟨⟨?_, l2, ?_, ?_, l5, l6⟩, lf⟩, ?_, hc⟩
  · show 0 ≤ ((g32 o 7 1) + (1 : Int32)).toInt; omega
  · show ((g32 o 7 1) + (1 : Int32)).toInt + (g32 o 14 0).toInt + L ≤ v.toInt; omega
  · show v.toInt ≤ (g32 o 2 0).toInt + 0; omega
  · have q := hJ.operand (x := s) (y := a) (B := 2 * (v.toInt - (g32 o 3 0).toInt)) h4 ⟨by omega, h5.1, h5.2.1, h5.2.2, fun z => by omega, fun z _ => by omega, fun z => by omega, fun z => by omega⟩ hw
    have q := q.mono (A' := 2 * v.toInt) (by omega)
    show DJ (upd (o.1 5) (500 + Int32.toNatClampNeg (g32 o 7 1)) s) (upd (o.1 6) (500 + Int32.toNatClampNeg (g32 o 7 1)) a) (o.1 13) b (Int32.toNatClampNeg ((g32 o 7 1) + (1 : Int32))) (Int32.toNatClampNeg (g32 o 14 0)) bd 1 (2 * v.toInt)
    rw [cs]; exact q
theorem EF.oper {o : Ob} {K L : Int} {s a : Int32} (h : EF o K (L + 1)) (hK : K ≤ 50) (hL : 0 ≤ L) : EF (em o s a) K L := by
  obtain ⟨⟨l1, l2, l3, l4, l5, l6⟩, lf⟩ := h
  have e := add1 (x := g32 o 7 1) (by omega)
  refine ⟨⟨?_, l2, ?_, l4, l5, l6⟩, lf⟩
  · show 0 ≤ ((g32 o 7 1) + (1 : Int32)).toInt; omega
  · show ((g32 o 7 1) + (1 : Int32)).toInt + (g32 o 14 0).toInt + L ≤ (g32 o 3 0).toInt; omega
/-- the operator on top -/
theorem m_pop (o : Ob) (h0 : 0 ≤ (g32 o 7 1).toInt) (h1 : (g32 o 7 1).toInt < 500) (h2 : 0 < (g32 o 14 0).toInt) (h3 : (g32 o 14 0).toInt ≤ 420) : F_Mod_pop o = some (em (s32 o 14 0 ((g32 o 14 0) - (1 : Int32))) (g32 o 13 (Int32.toNatClampNeg ((g32 o 14 0) - (1 : Int32)))) 0) := by
  have e := sub1 (x := g32 o 14 0) (by omega)
  rw [F_Mod_pop, show (inb ((g32 o 14 0) - (1 : Int32)) 420) = true from inb_iff.mpr ⟨by omega, by omega⟩, chk_tr, m_emit _ _ (s32 o 14 0 ((g32 o 14 0) - (1 : Int32))) h0 h1]
  rfl
theorem EX.pop {o : Ob} {L : Int} {b : Nat} {bd dp : Int} (h : EX o L b bd 1 dp) (hbd : 0 ≤ bd) (hL : 0 ≤ L) (hw : 0 < (g32 o 14 0).toInt) (hn : ¬ (g32 o 13 (Int32.toNatClampNeg ((g32 o 14 0) - (1 : Int32)))).toInt = 11) : EX (em (s32 o 14 0 ((g32 o 14 0) - (1 : Int32))) (g32 o 13 (Int32.toNatClampNeg ((g32 o 14 0) - (1 : Int32)))) 0) L b bd 1 dp := by
  obtain ⟨⟨⟨l1, l2, l3, l4, l5, l6⟩, lf⟩, hJ, hc⟩ := h
  have e := add1 (x := g32 o 7 1) (by omega)
  have cs := clampS (x := g32 o 7 1) l1 (by omega)
  have e2 := sub1 (x := g32 o 14 0) (by omega)
  have cp := clampP (x := g32 o 14 0) hw
  refine ⟨⟨⟨?_, ?_, ?_, l4, l5, l6⟩, lf⟩, ?_, ?_⟩
  · show 0 ≤ ((g32 o 7 1) + (1 : Int32)).toInt; omega
  · show 0 ≤ ((g32 o 14 0) - (1 : Int32)).toInt; omega
  · show ((g32 o 7 1) + (1 : Int32)).toInt + ((g32 o 14 0) - (1 : Int32)).toInt + L ≤ (g32 o 3 0).toInt; omega
  · rw [cp] at hJ
    have q := hJ.pop (y := 0) hbd hn
    show DJ (upd (o.1 5) (500 + Int32.toNatClampNeg (g32 o 7 1)) _) (upd (o.1 6) (500 + Int32.toNatClampNeg (g32 o 7 1)) 0) (o.1 13) b (Int32.toNatClampNeg ((g32 o 7 1) + (1 : Int32))) (Int32.toNatClampNeg ((g32 o 14 0) - (1 : Int32))) bd 1 (2 * (g32 o 3 0).toInt)
    rw [cs]; exact q
  · rw [cp] at hc
    have hc : cnt (o.1 13) 11 (Int32.toNatClampNeg ((g32 o 14 0) - (1 : Int32))) + (if o.1 13 (Int32.toNatClampNeg ((g32 o 14 0) - (1 : Int32))) = 11 then 1 else 0) = dp := hc
    rw [if_neg (fun z => hn (congrArg Int32.toInt z))] at hc
    show cnt (o.1 13) 11 (Int32.toNatClampNeg ((g32 o 14 0) - (1 : Int32))) = dp
    omega
theorem EF.pop {o : Ob} {K L : Int} {x : Int32} (h : EF o K L) (hK : K ≤ 50) (hL : 0 ≤ L) (hw : 0 < (g32 o 14 0).toInt) : EF (em (s32 o 14 0 ((g32 o 14 0) - (1 : Int32))) x 0) K L := by
  obtain ⟨⟨l1, l2, l3, l4, l5, l6⟩, lf⟩ := h
  have e := add1 (x := g32 o 7 1) (by omega)
  have e2 := sub1 (x := g32 o 14 0) (by omega)
  refine ⟨⟨?_, ?_, ?_, l4, l5, l6⟩, lf⟩
  · show 0 ≤ ((g32 o 7 1) + (1 : Int32)).toInt; omega
  · show 0 ≤ ((g32 o 14 0) - (1 : Int32)).toInt; omega
  · show ((g32 o 7 1) + (1 : Int32)).toInt + ((g32 o 14 0) - (1 : Int32)).toInt + L ≤ (g32 o 3 0).toInt; omega
theorem m_isWaiting (x1 x2 : Int32) (o : Ob) (h3 : (g32 o 14 0).toInt ≤ 420) : ∃ r, F_Mod_isWaiting x1 x2 o = some r ∧ (r = true → 0 < (g32 o 14 0).toInt ∧ x1.toInt ≤ (g32 o 13 (Int32.toNatClampNeg ((g32 o 14 0) - (1 : Int32)))).toInt ∧ (g32 o 13 (Int32.toNatClampNeg ((g32 o 14 0) - (1 : Int32)))).toInt ≤ x2.toInt) ∧ (r = false → (g32 o 14 0).toInt ≤ 0 ∨ (g32 o 13 (Int32.toNatClampNeg ((g32 o 14 0) - (1 : Int32)))).toInt < x1.toInt ∨ x2.toInt < (g32 o 13 (Int32.toNatClampNeg ((g32 o 14 0) - (1 : Int32)))).toInt) := by
  rw [F_Mod_isWaiting]
  by_cases c : (g32 o 14 0) ≤ 0
  · rw [if_pos c]; exact ⟨false, rfl, fun z => (by cases z), fun _ => Or.inl (le0 c)⟩
  rw [if_neg c]
  have c := nle0 c
  have e := sub1 (x := g32 o 14 0) (by omega)
  rw [show (inb ((g32 o 14 0) - (1 : Int32)) 420) = true from inb_iff.mpr ⟨by omega, by omega⟩, chk_tr]
  by_cases d : (g32 o 13 (Int32.toNatClampNeg ((g32 o 14 0) - (1 : Int32)))) < x1
  · rw [if_pos d]; exact ⟨false, rfl, fun z => (by cases z), fun _ => Or.inr (Or.inl (Int32.lt_iff_toInt_lt.mp d))⟩
  rw [if_neg d]
  have d : ¬ (g32 o 13 (Int32.toNatClampNeg ((g32 o 14 0) - (1 : Int32)))).toInt < x1.toInt := fun z => d (Int32.lt_iff_toInt_lt.mpr z)
  by_cases f : x2 < (g32 o 13 (Int32.toNatClampNeg ((g32 o 14 0) - (1 : Int32))))
  · rw [if_pos f]; exact ⟨false, rfl, fun z => (by cases z), fun _ => Or.inr (Or.inr (Int32.lt_iff_toInt_lt.mp f))⟩
  rw [if_neg f]
  have f : ¬ x2.toInt < (g32 o 13 (Int32.toNatClampNeg ((g32 o 14 0) - (1 : Int32)))).toInt := fun z => f (Int32.lt_iff_toInt_lt.mpr z)
  exact ⟨true, rfl, fun _ => ⟨c, by omega, by omega⟩, fun z => (by cases z)⟩
theorem LB.sz {o : Ob} {K L : Int} (h : LB o K L) (hK : K ≤ 50) (hL : 0 ≤ L) : (g32 o 7 1).toInt < 500 ∧ (g32 o 14 0).toInt ≤ 450 := by
  obtain ⟨l1, l2, l3, l4, l5, l6⟩ := h
  omega
/-- minus signs that wait for this factor -/
theorem m_endFactor_0 (L : Int) (b : Nat) (bd dp : Int) (hbd : 0 ≤ bd) (hL : 0 ≤ L) : ∀ (n : Nat) (o : Ob), (EX o L b bd 1 dp ∨ EF o 1 L) → (g32 o 14 0).toInt < (n : Int) → ∃ n0, F_Mod_endFactor_0 n o = some n0 ∧ XE o n0 ∧ g32 n0 3 0 = g32 o 3 0 ∧ (EX o L b bd 1 dp → EX n0 L b bd 1 dp) ∧ (EF o 1 L → EF n0 1 L) := by
  intro n
  induction n with
  | zero =>
    intro o hh hn
    exfalso
    have hl : 0 ≤ (g32 o 14 0).toInt := by rcases hh with h | h; exact h.1.1.2.1; exact h.1.2.1
    omega
  | succ n ih =>
    intro o hh hn
    have hlb : LB o 1 L := by
      rcases hh with h | h
      · obtain ⟨⟨⟨l1, l2, l3, l4, l5, l6⟩, lf⟩, _⟩ := h
        exact ⟨l1, l2, l3, by omega, l5, l6⟩
      · exact h.1
    obtain ⟨l1, l2, l3, l4, l5, l6⟩ := hlb
    rw [F_Mod_endFactor_0]
    obtain ⟨r, er, rt, rf⟩ := m_isWaiting 4 4 o (by omega)
    rw [er, bind1_s]
    by_cases c : (b2i r) = 0
    · rw [if_pos c]; exact ⟨o, rfl, XE.refl, rfl, fun h => h, fun h => h⟩
    rw [if_neg c]
    obtain ⟨w1, w2, w3⟩ := rt (b2i_1 c)
    have z4 : (4 : Int32).toInt = 4 := rfl
    have e2 := sub1 (x := g32 o 14 0) (by omega)
    rw [m_pop o l1 (by omega) w1 (by omega), bind1_s]
    have hx : XE o (em (s32 o 14 0 ((g32 o 14 0) - (1 : Int32))) (g32 o 13 (Int32.toNatClampNeg ((g32 o 14 0) - (1 : Int32)))) 0) := XE.e (XE.s XE.refl (by decide)) l1 (show (g32 o 7 1).toInt < 500 by omega) (by omega)
    have h1 : EX o L b bd 1 dp → EX (em (s32 o 14 0 ((g32 o 14 0) - (1 : Int32))) (g32 o 13 (Int32.toNatClampNeg ((g32 o 14 0) - (1 : Int32)))) 0) L b bd 1 dp := fun h => h.pop hbd hL w1 (by omega)
    have h2 : EF o 1 L → EF (em (s32 o 14 0 ((g32 o 14 0) - (1 : Int32))) (g32 o 13 (Int32.toNatClampNeg ((g32 o 14 0) - (1 : Int32)))) 0) 1 L := fun h => h.pop (by omega) hL w1
    obtain ⟨n0, q1, q2, q3, q4, q5⟩ := ih _ (by rcases hh with h | h; exact Or.inl (h1 h); exact Or.inr (h2 h)) (by show ((g32 o 14 0) - (1 : Int32)).toInt < (n : Int); omega)
    exact ⟨n0, q1, XE.tr hx q2, q3, fun h => q4 (h1 h), fun h => q5 (h2 h)⟩
theorem m_endFactor (L : Int) (b : Nat) (bd dp : Int) (hbd : 0 ≤ bd) (hL : 0 ≤ L) (o : Ob) (hh : EX o L b bd 1 dp ∨ EF o 1 L) : ∃ n0, F_Mod_endFactor o = some n0 ∧ XE o n0 ∧ g32 n0 3 0 = g32 o 3 0 ∧ (EX o L b bd 1 dp → EX n0 L b bd 1 dp) ∧ (EF o 1 L → EF n0 1 L) := by
  refine m_endFactor_0 L b bd dp hbd hL fuel o hh ?_
  rw [fuel_eq]
  rcases hh with h | h
  · obtain ⟨⟨⟨l1, l2, l3, l4, l5, l6⟩, lf⟩, _⟩ := h
    omega
  · obtain ⟨⟨l1, l2, l3, l4, l5, l6⟩, lf⟩ := h
    omega
theorem m_here (o : Ob) (h0 : 0 ≤ (g32 o 3 0).toInt) (h1 : (g32 o 2 0).toInt ≤ 400) : ∃ r, F_Mod_here o = some r ∧ (((g32 o 2 0).toInt ≤ (g32 o 3 0).toInt ∧ r.toInt = -1) ∨ ((g32 o 3 0).toInt < (g32 o 2 0).toInt ∧ r = g32 o 1 (Int32.toNatClampNeg (g32 o 3 0)))) := by
  rw [F_Mod_here]
  by_cases c : (g32 o 2 0) ≤ (g32 o 3 0)
  · rw [if_pos c]; exact ⟨_, rfl, Or.inl ⟨Int32.le_iff_toInt_le.mp c, rfl⟩⟩
  · rw [if_neg c]
    have c : ¬ (g32 o 2 0).toInt ≤ (g32 o 3 0).toInt := fun z => c (Int32.le_iff_toInt_le.mpr z)
    rw [show (inb (g32 o 3 0) 400) = true from inb_iff.mpr ⟨h0, by omega⟩, chk_tr]
    exact ⟨_, rfl, Or.inr ⟨by omega, rfl⟩⟩
theorem m_failAt (x : Int32) (o : Ob) (h : 0 ≤ x.toInt) : ∃ v : Int32, F_Mod_failAt x o = some (s32 o 4 0 v) ∧ 0 ≤ v.toInt := by
  rw [F_Mod_failAt]
  by_cases c : 0 ≤ (g32 o 4 0)
  · rw [if_pos c]; exact ⟨_, rfl, Int32.le_iff_toInt_le.mp c⟩
  · rw [if_neg c]; exact ⟨_, rfl, h⟩
theorem EF.fail {o : Ob} {K L : Int} {v : Int32} (h : LB o K L) (hv : 0 ≤ v.toInt) : EF (s32 o 4 0 v) K L := ⟨h, hv⟩
theorem m_isDigit (x : Int32) : ∃ r, F_Mod_isDigit x = some r ∧ (r = true → 48 ≤ x.toInt ∧ x.toInt ≤ 57) ∧ (r = false → ¬ (48 ≤ x.toInt ∧ x.toInt ≤ 57)) := by
  have z1 : (48 : Int32).toInt = 48 := rfl
  have z2 : (57 : Int32).toInt = 57 := rfl
  rw [F_Mod_isDigit]
  by_cases c : x < (48 : Int32)
  · rw [if_pos c]
    have c := Int32.lt_iff_toInt_lt.mp c
    exact ⟨false, rfl, fun z => (by cases z), fun _ => by omega⟩
  rw [if_neg c]
  have c : ¬ x.toInt < 48 := fun z => c (Int32.lt_iff_toInt_lt.mpr (by omega))
  by_cases d : (57 : Int32) < x
  · rw [if_pos d]
    have d := Int32.lt_iff_toInt_lt.mp d
    exact ⟨false, rfl, fun z => (by cases z), fun _ => by omega⟩
  rw [if_neg d]
  have d : ¬ 57 < x.toInt := fun z => d (Int32.lt_iff_toInt_lt.mpr (by omega))
  exact ⟨true, rfl, fun _ => by omega, fun z => (by cases z)⟩
