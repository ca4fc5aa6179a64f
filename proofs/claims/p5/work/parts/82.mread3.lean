/-! THE REFERENCE: numbers, cells, factors -/
def dig (n r : Int) : Prop := (n = 0 ∧ r = 0) ∨ (n = 1 ∧ 0 ≤ r ∧ r ≤ 9) ∨ (n = 2 ∧ 0 ≤ r ∧ r ≤ 99) ∨ (n = 3 ∧ 0 ≤ r ∧ r ≤ 999) ∨ (n = 4 ∧ 0 ≤ r ∧ r ≤ 9999) ∨ (n = 5 ∧ 0 ≤ r ∧ r ≤ 99999)
theorem dig_s {n r c : Int} (h : dig n r) (hn : n < 5) (h0 : 0 ≤ c) (h1 : c ≤ 9) : dig (n + 1) (10 * r + c) := by
  unfold dig at *
  omega
def pw (v : Int) : Int := if v < 10000 then 1 else if v < 100000 then 2 else if v < 1000000 then 3 else if v < 10000000 then 4 else 5
def pf (v : Int) : Int := if v % 1000 = 0 then 0 else if v % 100 = 0 then 2 else if v % 10 = 0 then 3 else 4
theorem pw_le {n w f : Int} (h : dig n w) (hn : 1 ≤ n) (h0 : 0 ≤ f) (h1 : f < 1000) : pw (1000 * w + f) ≤ n := by
  unfold pw
  unfold dig at h
  repeat' split
  all_goals omega
theorem pf_le1 {w f : Int} : pf (1000 * w + 100 * f) ≤ 2 := by
  unfold pf
  repeat' split
  all_goals omega
theorem pf_le2 {w f : Int} : pf (1000 * w + 10 * f) ≤ 3 := by
  unfold pf
  repeat' split
  all_goals omega
theorem pf_le3 {w : Int} : pf w ≤ 4 := by
  unfold pf
  repeat' split
  all_goals omega
theorem pf_le0 {w : Int} : pf (1000 * w) = 0 := by
  unfold pf
  rw [if_pos (by omega)]
theorem plen_eq (v : Int) : plen v = pw v + pf v := rfl
theorem wt_1 {s a : Int32} (h : s.toInt = 1) : wt s a = plen a.toInt := by unfold wt; rw [if_pos h]
theorem m_digits_4 : ∀ (n : Nat) (x1 x2 x3 : Int32) (o : Ob), 0 ≤ (g32 o 3 0).toInt → (g32 o 3 0).toInt ≤ (g32 o 2 0).toInt → (g32 o 2 0).toInt ≤ 400 → x1.toInt ≤ 5 → 0 ≤ x3.toInt → x3.toInt ≤ x1.toInt → dig x3.toInt x2.toInt → 5 - x3.toInt < (n : Int) → ∃ (r : Int32) (n0 : Ob), F_Mod_digits_4 n x1 x2 x3 o = some (r, n0) ∧ FR [3, 4] [] o n0 ∧ (g32 o 3 0).toInt ≤ (g32 n0 3 0).toInt ∧ (g32 n0 3 0).toInt ≤ (g32 o 2 0).toInt ∧ (g32 n0 3 0).toInt - (g32 o 3 0).toInt + x3.toInt ≤ x1.toInt ∧ dig ((g32 n0 3 0).toInt - (g32 o 3 0).toInt + x3.toInt) r.toInt ∧ ((g32 n0 3 0).toInt - (g32 o 3 0).toInt + x3.toInt = 0 → 0 ≤ (g32 n0 4 0).toInt) ∧ (0 < (g32 n0 3 0).toInt - (g32 o 3 0).toInt + x3.toInt → g32 n0 4 0 = g32 o 4 0) ∧ ((g32 n0 3 0).toInt = (g32 o 3 0).toInt → x1.toInt ≤ x3.toInt ∨ ¬ ((g32 o 3 0).toInt < (g32 o 2 0).toInt ∧ 48 ≤ (g32 o 1 (Int32.toNatClampNeg (g32 o 3 0))).toInt ∧ (g32 o 1 (Int32.toNatClampNeg (g32 o 3 0))).toInt ≤ 57)) := by
  intro n
  induction n with
  | zero => intro x1 x2 x3 o _ _ _ _ _ _ _ _; exfalso; omega
  | succ n ih =>
    intro x1 x2 x3 o ha hb hc h1 h3 h3b hd hn
    have hr : 0 ≤ x2.toInt ∧ x2.toInt ≤ 99999 := by clear ih; unfold dig at hd; omega
    rw [F_Mod_digits_4]
    have stop : (x1.toInt ≤ x3.toInt ∨ ¬ ((g32 o 3 0).toInt < (g32 o 2 0).toInt ∧ 48 ≤ (g32 o 1 (Int32.toNatClampNeg (g32 o 3 0))).toInt ∧ (g32 o 1 (Int32.toNatClampNeg (g32 o 3 0))).toInt ≤ 57)) → ∃ (r : Int32) (n0 : Ob), (if x3 = 0 then (bind1 (F_Mod_failAt (g32 o 3 0) o) (fun o_4 => some (x2, o_4))) else (some (x2, o))) = some (r, n0) ∧ FR [3, 4] [] o n0 ∧ (g32 o 3 0).toInt ≤ (g32 n0 3 0).toInt ∧ (g32 n0 3 0).toInt ≤ (g32 o 2 0).toInt ∧ (g32 n0 3 0).toInt - (g32 o 3 0).toInt + x3.toInt ≤ x1.toInt ∧ dig ((g32 n0 3 0).toInt - (g32 o 3 0).toInt + x3.toInt) r.toInt ∧ ((g32 n0 3 0).toInt - (g32 o 3 0).toInt + x3.toInt = 0 → 0 ≤ (g32 n0 4 0).toInt) ∧ (0 < (g32 n0 3 0).toInt - (g32 o 3 0).toInt + x3.toInt → g32 n0 4 0 = g32 o 4 0) ∧ ((g32 n0 3 0).toInt = (g32 o 3 0).toInt → x1.toInt ≤ x3.toInt ∨ ¬ ((g32 o 3 0).toInt < (g32 o 2 0).toInt ∧ 48 ≤ (g32 o 1 (Int32.toNatClampNeg (g32 o 3 0))).toInt ∧ (g32 o 1 (Int32.toNatClampNeg (g32 o 3 0))).toInt ≤ 57)) := by
      intro hs
      have dz : (g32 o 3 0).toInt - (g32 o 3 0).toInt + x3.toInt = x3.toInt := by omega
      by_cases c : x3 = 0
      · have c3 : x3.toInt = 0 := by rw [c]; rfl
        obtain ⟨v, ev, hv⟩ := m_failAt (g32 o 3 0) o ha
        rw [if_pos c, ev, bind1_s]
        exact ⟨x2, _, rfl, FR.s FR.refl (by decide), Int.le_refl _, hb, by show (g32 o 3 0).toInt - (g32 o 3 0).toInt + x3.toInt ≤ x1.toInt; omega, by show dig ((g32 o 3 0).toInt - (g32 o 3 0).toInt + x3.toInt) x2.toInt; rw [dz]; exact hd, fun _ => hv, fun z => by have z : 0 < (g32 o 3 0).toInt - (g32 o 3 0).toInt + x3.toInt := z; omega, fun _ => hs⟩
      · have c3 : ¬ x3.toInt = 0 := fun z => c (Int32.toInt_inj.mp z)
        rw [if_neg c]
        exact ⟨x2, o, rfl, FR.refl, Int.le_refl _, hb, by omega, by rw [dz]; exact hd, fun z => by omega, fun _ => rfl, fun _ => hs⟩
    by_cases c : x1 ≤ x3
    · rw [if_pos c]; exact stop (Or.inl (Int32.le_iff_toInt_le.mp c))
    rw [if_neg c]
    have c : ¬ x1.toInt ≤ x3.toInt := fun z => c (Int32.le_iff_toInt_le.mpr z)
    obtain ⟨v6, e6, h6⟩ := m_here o ha hc
    rw [e6, bind1_s]
    obtain ⟨v8, e8, t8, f8⟩ := m_isDigit v6
    rw [e8, bind1_s]
    by_cases d : (b2i v8) = 0
    · rw [if_pos d]
      have d := f8 (b2i_0.mp d)
      refine stop (Or.inr ?_)
      intro ⟨a1, a2, a3⟩
      rcases h6 with ⟨q1, q2⟩ | ⟨q1, q2⟩
      · omega
      · rw [q2] at d; exact d ⟨a2, a3⟩
    · rw [if_neg d, bind1_s]
      have d := t8 (b2i_1 d)
      have ea : (g32 o 3 0).toInt < (g32 o 2 0).toInt := by
        rcases h6 with ⟨q1, q2⟩ | ⟨q1, q2⟩ <;> omega
      have e3 := add1 (x := g32 o 3 0) (by omega)
      have ex := add1 (x := x3) (by omega)
      have z10 : (10 : Int32).toInt = 10 := rfl
      have z48 : (48 : Int32).toInt = 48 := rfl
      have em10 : ((10 : Int32) * x2).toInt = 10 * x2.toInt := by rw [tmul (by rw [z10]; omega) (by rw [z10]; omega), z10]
      have ead : (((10 : Int32) * x2) + v6).toInt = 10 * x2.toInt + v6.toInt := by rw [tadd (by omega) (by omega), em10]
      have ev : ((((10 : Int32) * x2) + v6) - (48 : Int32)).toInt = 10 * x2.toInt + (v6.toInt - 48) := by rw [tsub (by omega) (by omega), ead, z48]; omega
      obtain ⟨r, n0, q1, q2, q3, q4, q5, q6, q7, q8, q9⟩ := ih x1 ((((10 : Int32) * x2) + v6) - (48 : Int32)) (x3 + (1 : Int32)) (s32 o 3 0 ((g32 o 3 0) + (1 : Int32))) (by show 0 ≤ ((g32 o 3 0) + (1 : Int32)).toInt; omega) (by show ((g32 o 3 0) + (1 : Int32)).toInt ≤ (g32 o 2 0).toInt; omega) hc h1 (by omega) (by omega) (by rw [ex, ev]; exact dig_s hd (by omega) (by omega) (by omega)) (by omega)
      have p3 : ((g32 o 3 0) + (1 : Int32)).toInt ≤ (g32 n0 3 0).toInt := q3
      have p4 : (g32 n0 3 0).toInt ≤ (g32 o 2 0).toInt := q4
      have eqn : (g32 n0 3 0).toInt - ((g32 o 3 0) + (1 : Int32)).toInt + (x3 + (1 : Int32)).toInt = (g32 n0 3 0).toInt - (g32 o 3 0).toInt + x3.toInt := by omega
      have p5 : (g32 n0 3 0).toInt - ((g32 o 3 0) + (1 : Int32)).toInt + (x3 + (1 : Int32)).toInt ≤ x1.toInt := q5
      have p6 : dig ((g32 n0 3 0).toInt - ((g32 o 3 0) + (1 : Int32)).toInt + (x3 + (1 : Int32)).toInt) r.toInt := q6
      have p8 : 0 < (g32 n0 3 0).toInt - ((g32 o 3 0) + (1 : Int32)).toInt + (x3 + (1 : Int32)).toInt → g32 n0 4 0 = g32 o 4 0 := q8
      rw [eqn] at p5 p6 p8
      exact ⟨r, n0, q1, FR.tr (FR.s FR.refl (by decide)) q2, by omega, p4, p5, p6, fun z => by omega, p8, fun z => by omega⟩
theorem m_digits (x1 : Int32) (o : Ob) (ha : 0 ≤ (g32 o 3 0).toInt) (hb : (g32 o 3 0).toInt ≤ (g32 o 2 0).toInt) (hc : (g32 o 2 0).toInt ≤ 400) (h1 : x1.toInt ≤ 5) (h0 : 1 ≤ x1.toInt) : ∃ (r : Int32) (n0 : Ob), F_Mod_digits x1 o = some (r, n0) ∧ FR [3, 4] [] o n0 ∧ (g32 o 3 0).toInt ≤ (g32 n0 3 0).toInt ∧ (g32 n0 3 0).toInt ≤ (g32 o 2 0).toInt ∧ (g32 n0 3 0).toInt - (g32 o 3 0).toInt ≤ x1.toInt ∧ dig ((g32 n0 3 0).toInt - (g32 o 3 0).toInt) r.toInt ∧ ((g32 n0 3 0).toInt - (g32 o 3 0).toInt = 0 → 0 ≤ (g32 n0 4 0).toInt) ∧ (0 < (g32 n0 3 0).toInt - (g32 o 3 0).toInt → g32 n0 4 0 = g32 o 4 0) ∧ ((g32 n0 3 0).toInt = (g32 o 3 0).toInt → ¬ ((g32 o 3 0).toInt < (g32 o 2 0).toInt ∧ 48 ≤ (g32 o 1 (Int32.toNatClampNeg (g32 o 3 0))).toInt ∧ (g32 o 1 (Int32.toNatClampNeg (g32 o 3 0))).toInt ≤ 57)) := by
  have z0 : (0 : Int32).toInt = 0 := rfl
  obtain ⟨r, n0, q1, q2, q3, q4, q5, q6, q7, q8, q9⟩ := m_digits_4 fuel x1 0 0 o ha hb hc h1 (by omega) (by omega) (Or.inl ⟨z0, z0⟩) (by rw [fuel_eq]; omega)
  rw [z0, Int.add_zero] at q5 q6 q7 q8
  exact ⟨r, n0, q1, q2, q3, q4, q5, q6, q7, q8, fun z => by rcases q9 z with h | h; omega; exact h⟩
theorem fx_34 {o n : Ob} (h : FR [3, 4] [] o n) : XE o n := by
  refine ⟨h.mono (by decide) (by decide), fun k _ => ⟨congrFun (h.1 5 (by decide)) k, congrFun (h.1 6 (by decide)) k⟩, ?_, fun k a b => ?_⟩
  · rw [h.g (by decide)]; exact Int.le_refl _
  · rw [h.g (by decide)] at b; omega
/-- the same place and failure of another object that is the same else -/
theorem eq_34 {o n : Ob} (h : FR [3, 4] [] o n) (k i : Nat) (hk : k ∉ [3, 4]) : g32 n k i = g32 o k i := h.g hk i
/-- emit, behind digits: the object is as if the place alone had moved -/
theorem EX.num {o n : Ob} {L : Int} {b : Nat} {bd dp : Int} {a : Int32} (h : EX o L b bd 0 dp) (f : FR [3, 4] [] o n) (hbd : 0 ≤ bd) (hL : 0 ≤ L) (h1 : (g32 o 3 0).toInt < (g32 n 3 0).toInt) (h2 : (g32 n 3 0).toInt ≤ (g32 o 2 0).toInt) (h4 : g32 n 4 0 = g32 o 4 0) (ha : 0 ≤ a.toInt) (hb : a.toInt ≤ 99999999) (hw : plen a.toInt ≤ (g32 n 3 0).toInt - (g32 o 3 0).toInt) : EX (em n 1 a) L b bd 1 dp := by
  have z1 : (1 : Int32).toInt = 1 := rfl
  have q := EX.oper (v := g32 n 3 0) (s := 1) (a := a) h hbd h1 h2 (by omega) (by omega) ⟨fun _ => ⟨ha, hb⟩, fun z => by omega, fun z => by omega⟩ (by rw [wt_1 z1]; omega) hL
  have e3 : n.1 5 = o.1 5 := f.1 5 (by decide)
  have e6 : n.1 6 = o.1 6 := f.1 6 (by decide)
  have e13 : n.1 13 = o.1 13 := f.1 13 (by decide)
  have e7 : g32 n 7 1 = g32 o 7 1 := f.g (by decide) 1
  have e14 : g32 n 14 0 = g32 o 14 0 := f.g (by decide) 0
  have e2 : g32 n 2 0 = g32 o 2 0 := f.g (by decide) 0
  have q' : ((((0 ≤ ((g32 o 7 1) + (1 : Int32)).toInt ∧ 0 ≤ (g32 o 14 0).toInt ∧ ((g32 o 7 1) + (1 : Int32)).toInt + (g32 o 14 0).toInt + L ≤ (g32 n 3 0).toInt ∧ (g32 n 3 0).toInt ≤ (g32 o 2 0).toInt + 0 ∧ 0 ≤ (g32 o 2 0).toInt ∧ (g32 o 2 0).toInt ≤ 400) ∧ (g32 o 4 0).toInt < 0) ∧ DJ (upd (o.1 5) (500 + Int32.toNatClampNeg (g32 o 7 1)) 1) (upd (o.1 6) (500 + Int32.toNatClampNeg (g32 o 7 1)) a) (o.1 13) b (Int32.toNatClampNeg ((g32 o 7 1) + (1 : Int32))) (Int32.toNatClampNeg (g32 o 14 0)) bd 1 (2 * (g32 n 3 0).toInt) ∧ cnt (o.1 13) 11 (Int32.toNatClampNeg (g32 o 14 0)) = dp)) := q
  show ((((0 ≤ ((g32 n 7 1) + (1 : Int32)).toInt ∧ 0 ≤ (g32 n 14 0).toInt ∧ ((g32 n 7 1) + (1 : Int32)).toInt + (g32 n 14 0).toInt + L ≤ (g32 n 3 0).toInt ∧ (g32 n 3 0).toInt ≤ (g32 n 2 0).toInt + 0 ∧ 0 ≤ (g32 n 2 0).toInt ∧ (g32 n 2 0).toInt ≤ 400) ∧ (g32 n 4 0).toInt < 0) ∧ DJ (upd (n.1 5) (500 + Int32.toNatClampNeg (g32 n 7 1)) 1) (upd (n.1 6) (500 + Int32.toNatClampNeg (g32 n 7 1)) a) (n.1 13) b (Int32.toNatClampNeg ((g32 n 7 1) + (1 : Int32))) (Int32.toNatClampNeg (g32 n 14 0)) bd 1 (2 * (g32 n 3 0).toInt) ∧ cnt (n.1 13) 11 (Int32.toNatClampNeg (g32 n 14 0)) = dp))
  rw [e3, e6, e13, e7, e14, e2, h4]
  exact q'
/-- what reading a piece of an expression leaves -/
def PX (o n : Ob) (L : Int) (b : Nat) (bd w dp : Int) : Prop := XE o n ∧ ((EX n L b bd w dp ∧ (g32 o 3 0).toInt < (g32 n 3 0).toInt) ∨ EF n 1 L)
theorem PX.ef {o m : Ob} {L : Int} {b : Nat} {bd dp : Int} (hbd : 0 ≤ bd) (hL : 0 ≤ L) (hx : XE o m) (hm : (EX m L b bd 1 dp ∧ (g32 o 3 0).toInt < (g32 m 3 0).toInt) ∨ EF m 1 L) : ∃ n0, bind1 (F_Mod_endFactor m) (fun o_8 => some o_8) = some n0 ∧ PX o n0 L b bd 1 dp := by
  obtain ⟨n0, q1, q2, q3, q4, q5⟩ := m_endFactor L b bd dp hbd hL m (by rcases hm with h | h; exact Or.inl h.1; exact Or.inr h)
  rw [q1, bind1_s]
  refine ⟨n0, rfl, XE.tr hx q2, ?_⟩
  rcases hm with h | h
  · exact Or.inl ⟨q4 h.1, by rw [q3]; exact h.2⟩
  · exact Or.inr (q5 h)
theorem m_readNumber (o : Ob) (L : Int) (b : Nat) (bd dp : Int) (hbd : 0 ≤ bd) (hL : 0 ≤ L) (h : EX o L b bd 0 dp) (h1 : (g32 o 3 0).toInt < (g32 o 2 0).toInt) (h2 : 48 ≤ (g32 o 1 (Int32.toNatClampNeg (g32 o 3 0))).toInt) (h3 : (g32 o 1 (Int32.toNatClampNeg (g32 o 3 0))).toInt ≤ 57) : ∃ n0, F_Mod_readNumber o = some n0 ∧ PX o n0 L b bd 1 dp := by
  obtain ⟨⟨⟨l1, l2, l3, l4, l5, l6⟩, lf⟩, hJ, hc⟩ := id h
  have z5 : (5 : Int32).toInt = 5 := rfl
  have z3 : (3 : Int32).toInt = 3 := rfl
  have z46 : (46 : Int32).toInt = 46 := rfl
  have zk : (1000 : Int32).toInt = 1000 := rfl
  have zh : (100 : Int32).toInt = 100 := rfl
  have zt : (10 : Int32).toInt = 10 := rfl
  rw [F_Mod_readNumber]
  obtain ⟨v2, m, q1, q2, q3, q4, q5, q6, q7, q8, q9⟩ := m_digits 5 o (by omega) (by omega) l6 (by omega) (by omega)
  rw [q1, bind2_s]
  have m2 : g32 m 2 0 = g32 o 2 0 := q2.g (by decide) 0
  have m7 : g32 m 7 1 = g32 o 7 1 := q2.g (by decide) 1
  have m14 : g32 m 14 0 = g32 o 14 0 := q2.g (by decide) 0
  have at1 : (g32 o 3 0).toInt < (g32 m 3 0).toInt := by
    by_cases z : (g32 m 3 0).toInt = (g32 o 3 0).toInt
    · exact absurd ⟨h1, h2, h3⟩ (q9 z)
    · omega
  have m4 := q8 (by omega)
  have vr : 0 ≤ v2.toInt ∧ v2.toInt ≤ 99999 := by unfold dig at q6; omega
  have ev : ((1000 : Int32) * v2).toInt = 1000 * v2.toInt := by rw [tmul (by rw [zk]; omega) (by rw [zk]; omega), zk]
  obtain ⟨v5, e5, h5⟩ := m_here m (by omega) (by rw [m2]; exact l6)
  rw [e5, bind1_s]
  by_cases c : v5 = (46 : Int32)
  · rw [if_pos c]
    have c5 : v5.toInt = 46 := by rw [c]; rfl
    have at2 : (g32 m 3 0).toInt < (g32 o 2 0).toInt := by rw [m2] at h5; rcases h5 with ⟨a1, a2⟩ | ⟨a1, a2⟩ <;> omega
    have e3 := add1 (x := g32 m 3 0) (by omega)
    have f1 : FR [3, 4] [] o (s32 m 3 0 ((g32 m 3 0) + (1 : Int32))) := q2.s (by decide)
    obtain ⟨v12, k, p1, p2, p3, p4, p5, p6, p7, p8, p9⟩ := m_digits 3 (s32 m 3 0 ((g32 m 3 0) + (1 : Int32))) (by show 0 ≤ ((g32 m 3 0) + (1 : Int32)).toInt; omega) (by show ((g32 m 3 0) + (1 : Int32)).toInt ≤ (g32 m 2 0).toInt; rw [m2]; omega) (by show (g32 m 2 0).toInt ≤ 400; rw [m2]; exact l6) (by omega) (by omega)
    rw [p1, bind2_s]
    have fk : FR [3, 4] [] o k := FR.tr f1 p2
    have p3 : ((g32 m 3 0) + (1 : Int32)).toInt ≤ (g32 k 3 0).toInt := p3
    have p4 : (g32 k 3 0).toInt ≤ (g32 m 2 0).toInt := p4
    rw [m2] at p4
    have p5 : (g32 k 3 0).toInt - ((g32 m 3 0) + (1 : Int32)).toInt ≤ 3 := p5
    have p6 : dig ((g32 k 3 0).toInt - ((g32 m 3 0) + (1 : Int32)).toInt) v12.toInt := p6
    have p7 : (g32 k 3 0).toInt - ((g32 m 3 0) + (1 : Int32)).toInt = 0 → 0 ≤ (g32 k 4 0).toInt := p7
    have p8 : 0 < (g32 k 3 0).toInt - ((g32 m 3 0) + (1 : Int32)).toInt → g32 k 4 0 = g32 m 4 0 := p8
    have k7 : g32 k 7 1 = g32 o 7 1 := fk.g (by decide) 1
    have k14 : g32 k 14 0 = g32 o 14 0 := fk.g (by decide) 0
    have k2 : g32 k 2 0 = g32 o 2 0 := fk.g (by decide) 0
    have es : ((g32 k 3 0) - ((g32 m 3 0) + (1 : Int32))).toInt = (g32 k 3 0).toInt - ((g32 m 3 0) + (1 : Int32)).toInt := tsub (by omega) (by omega)
    have o1 : (1 : Int32).toInt = 1 := rfl
    have o2 : (2 : Int32).toInt = 2 := rfl
    have go : ∀ a : Int32, (0 < (g32 k 3 0).toInt - ((g32 m 3 0) + (1 : Int32)).toInt → 0 ≤ a.toInt ∧ a.toInt ≤ 99999999 ∧ plen a.toInt ≤ (g32 k 3 0).toInt - (g32 o 3 0).toInt) → ∃ n0, bind1 (F_Mod_emit (1 : Int32) a k) (fun o_25 => bind1 (F_Mod_endFactor o_25) (fun o_27 => some o_27)) = some n0 ∧ PX o n0 L b bd 1 dp := by
      intro a ha
      rw [m_emit 1 a k (by rw [k7]; exact l1) (by rw [k7]; omega), bind1_s]
      have hx : XE o (em k 1 a) := XE.e (fx_34 fk) (by rw [k7]; exact l1) (by rw [k7]; omega) (by omega)
      refine PX.ef hbd hL hx ?_
      by_cases z : (g32 k 3 0).toInt - ((g32 m 3 0) + (1 : Int32)).toInt = 0
      · refine Or.inr (EF.oper (K := 1) (L := L) ⟨⟨?_, ?_, ?_, ?_, ?_, ?_⟩, p7 z⟩ (by omega) hL)
        · rw [k7]; exact l1
        · rw [k14]; exact l2
        · rw [k7, k14]; omega
        · rw [k2]; omega
        · rw [k2]; exact l5
        · rw [k2]; exact l6
      · obtain ⟨a1, a2, a3⟩ := ha (by omega)
        refine Or.inl ⟨EX.num h fk hbd hL (by omega) p4 ((p8 (by omega)).trans m4) a1 a2 a3, ?_⟩
        show (g32 o 3 0).toInt < (g32 k 3 0).toInt
        omega
    by_cases d : ((g32 k 3 0) - ((g32 m 3 0) + (1 : Int32))) = (1 : Int32)
    · rw [if_pos d]
      have d1 : (g32 k 3 0).toInt - ((g32 m 3 0) + (1 : Int32)).toInt = 1 := by rw [← es, d]; rfl
      rw [d1] at p6
      have pr : 0 ≤ v12.toInt ∧ v12.toInt ≤ 9 := by unfold dig at p6; omega
      have eh : ((100 : Int32) * v12).toInt = 100 * v12.toInt := by rw [tmul (by rw [zh]; omega) (by rw [zh]; omega), zh]
      have ea : (((1000 : Int32) * v2) + ((100 : Int32) * v12)).toInt = 1000 * v2.toInt + 100 * v12.toInt := by rw [tadd (by omega) (by omega), ev, eh]
      refine go _ (fun _ => ⟨by omega, by omega, ?_⟩)
      rw [ea, plen_eq]
      have w1 := pw_le (f := 100 * v12.toInt) q6 (by omega) (by omega) (by omega)
      have w2 := pf_le1 (w := v2.toInt) (f := v12.toInt)
      omega
    rw [if_neg d]
    have d1 : ¬ (g32 k 3 0).toInt - ((g32 m 3 0) + (1 : Int32)).toInt = 1 := fun z => d (Int32.toInt_inj.mp (by rw [es, z]; rfl))
    by_cases d2 : ((g32 k 3 0) - ((g32 m 3 0) + (1 : Int32))) = (2 : Int32)
    · rw [if_pos d2]
      have d3 : (g32 k 3 0).toInt - ((g32 m 3 0) + (1 : Int32)).toInt = 2 := by rw [← es, d2]; rfl
      rw [d3] at p6
      have pr : 0 ≤ v12.toInt ∧ v12.toInt ≤ 99 := by unfold dig at p6; omega
      have eh : ((10 : Int32) * v12).toInt = 10 * v12.toInt := by rw [tmul (by rw [zt]; omega) (by rw [zt]; omega), zt]
      have ea : (((1000 : Int32) * v2) + ((10 : Int32) * v12)).toInt = 1000 * v2.toInt + 10 * v12.toInt := by rw [tadd (by omega) (by omega), ev, eh]
      refine go _ (fun _ => ⟨by omega, by omega, ?_⟩)
      rw [ea, plen_eq]
      have w1 := pw_le (f := 10 * v12.toInt) q6 (by omega) (by omega) (by omega)
      have w2 := pf_le2 (w := v2.toInt) (f := v12.toInt)
      omega
    rw [if_neg d2]
    have d3 : ¬ (g32 k 3 0).toInt - ((g32 m 3 0) + (1 : Int32)).toInt = 2 := fun z => d2 (Int32.toInt_inj.mp (by rw [es, z]; rfl))
    have pr : 0 ≤ v12.toInt ∧ v12.toInt ≤ 999 := by unfold dig at p6; omega
    have ea : (((1000 : Int32) * v2) + v12).toInt = 1000 * v2.toInt + v12.toInt := by rw [tadd (by omega) (by omega), ev]
    refine go _ (fun _ => ⟨by omega, by omega, ?_⟩)
    rw [ea, plen_eq]
    have w1 := pw_le (f := v12.toInt) q6 (by omega) (by omega) (by omega)
    have w2 := pf_le3 (w := 1000 * v2.toInt + v12.toInt)
    omega
  · rw [if_neg c]
    rw [m_emit 1 _ m (by rw [m7]; exact l1) (by rw [m7]; omega), bind1_s]
    have hx : XE o (em m 1 ((1000 : Int32) * v2)) := XE.e (fx_34 q2) (by rw [m7]; exact l1) (by rw [m7]; omega) (by decide)
    refine PX.ef hbd hL hx (Or.inl ⟨EX.num h q2 hbd hL at1 q4 m4 (by omega) (by omega) ?_, at1⟩)
    rw [ev, plen_eq]
    have w1 := pw_le (f := 0) q6 (by omega) (by omega) (by omega)
    rw [Int.add_zero] at w1
    have w2 := pf_le0 (w := v2.toInt)
    omega
