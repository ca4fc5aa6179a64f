/-! THE REFERENCE: signs and statements, printed -/
def wk (f : Nat → Int32) : Nat → Int
  | 0 => 0
  | n + 1 => wk f n + (if (f n).toInt < 3 then 1 else 0)
theorem wk_0le (f : Nat → Int32) : ∀ n, 0 ≤ wk f n
  | 0 => Int.le_refl 0
  | n + 1 => by
    have h := wk_0le f n
    show 0 ≤ wk f n + (if (f n).toInt < 3 then 1 else 0)
    split <;> omega
theorem wk_upd (f : Nat → Int32) (x : Int32) (i : Nat) : ∀ n, n ≤ i → wk (upd f i x) n = wk f n
  | 0, _ => rfl
  | n + 1, h => by
    show wk (upd f i x) n + (if (upd f i x n).toInt < 3 then 1 else 0) = wk f n + (if (f n).toInt < 3 then 1 else 0)
    have e : upd f i x n = f n := if_neg (by omega)
    rw [wk_upd f x i n (by omega), e]
theorem wk_push (f : Nat → Int32) (x : Int32) (n : Nat) : wk (upd f n x) (n + 1) = wk f n + (if x.toInt < 3 then 1 else 0) := by
  show wk (upd f n x) n + (if (upd f n x n).toInt < 3 then 1 else 0) = _
  have e : upd f n x n = x := if_pos rfl
  rw [wk_upd f x n n (Nat.le_refl n), e]
def S34 (o : Ob) : Prop := ∀ j : Nat, 0 ≤ (g32 o 34 j).toInt ∧ (g32 o 34 j).toInt ≤ 899
theorem S34.fr {o n : Ob} (h : S34 o) (f : FR [32, 33] [] o n) : S34 n := fun j => by rw [f.g (by decide)]; exact h j
/-- what printing a sign leaves: rows r, at most W characters with the brackets that may still come -/
def PB (o n : Ob) (r : Int32) (W : Int) : Prop := FR [32, 33, 34, 35] [] o n ∧ S34 n ∧ 0 ≤ (g32 n 33 0).toInt ∧ (g32 n 33 0).toInt + 2 * wk (n.1 35) (Int32.toNatClampNeg r) ≤ W
theorem m_ps_279 (x3 x4 : Int32) (o a : Ob) (W : Int) (h3 : 2 ≤ x3.toInt) (h3b : x3.toInt ≤ 419) (hf : FR [32, 33, 34, 35] [] o a) (hs : S34 a) (h0 : 0 ≤ (g32 a 33 0).toInt) (hW : (g32 a 33 0).toInt + 2 * wk (a.1 35) (Int32.toNatClampNeg x3 - 2) + 2 ≤ W) : ∃ (r : Int32) (n0 : Ob), F_Mod_printSign_279 x3 x4 a = some (r, n0) ∧ r.toInt = x3.toInt - 1 ∧ PB o n0 r W ∧ g32 n0 33 0 = g32 a 33 0 := by
  have e1 := sub1 (x := x3) (by omega)
  have e2 := sub2 (x := x3) (by omega)
  have c3 := clampI (x := x3) (by omega)
  have c1 := clampI (x := x3 - (1 : Int32)) (by omega)
  have c2 := clampI (x := x3 - (2 : Int32)) (by omega)
  have i1 : Int32.toNatClampNeg (x3 - (1 : Int32)) = (Int32.toNatClampNeg x3 - 2) + 1 := by omega
  have i2 : Int32.toNatClampNeg (x3 - (2 : Int32)) = Int32.toNatClampNeg x3 - 2 := by omega
  have ic : (inb (x3 - (2 : Int32)) 420) = true := inb_iff.mpr ⟨by omega, by omega⟩
  have key : ∀ v : Int32, v.toInt < 3 → PB o (s32 a 35 (Int32.toNatClampNeg (x3 - (2 : Int32))) v) (x3 - (1 : Int32)) W := by
    intro v hv
    refine ⟨FR.s hf (by decide), hs, h0, ?_⟩
    show (g32 a 33 0).toInt + 2 * wk (upd (a.1 35) (Int32.toNatClampNeg (x3 - (2 : Int32))) v) (Int32.toNatClampNeg (x3 - (1 : Int32))) ≤ W
    rw [i1, i2, wk_push, if_pos hv]
    omega
  rw [F_Mod_printSign_279]
  split
  · rw [ic, chk_tr]; exact ⟨_, _, rfl, e1, key 1 (by decide), rfl⟩
  · rw [ic, chk_tr]; exact ⟨_, _, rfl, e1, key 2 (by decide), rfl⟩
theorem wk_two {f : Nat → Int32} {n : Nat} (h : 2 ≤ n) : wk f n = wk f (n - 2) + (if (f (n - 2)).toInt < 3 then 1 else 0) + (if (f (n - 1)).toInt < 3 then 1 else 0) := by
  have e : n = (n - 2) + 1 + 1 := by omega
  have e1 : (n - 2) + 1 = n - 1 := by omega
  have q : wk f ((n - 2) + 1 + 1) = wk f (n - 2) + (if (f (n - 2)).toInt < 3 then 1 else 0) + (if (f ((n - 2) + 1)).toInt < 3 then 1 else 0) := rfl
  rw [← e, e1] at q
  exact q
/-- insert the operator; the left side's brackets, if it needs them -/
theorem m_ps_231 (x3 x4 y1 y2 : Int32) (o a : Ob) (W : Int) (h3 : 2 ≤ x3.toInt) (h3b : x3.toInt ≤ 419) (hy : 0 ≤ y1.toInt ∧ y1.toInt ≤ 899) (hf : FR [32, 33, 34, 35] [] o a) (hs : S34 a) (h0 : 0 ≤ (g32 a 33 0).toInt) (hW9 : W ≤ 899) (hW : (g32 a 33 0).toInt + 1 + 2 * wk (a.1 35) (Int32.toNatClampNeg x3 - 2) + 2 * (if (a.1 35 (Int32.toNatClampNeg x3 - 2)).toInt < 3 then 1 else 0) + 2 ≤ W) : ∃ (r : Int32) (n0 : Ob), F_Mod_printSign_231 x3 x4 y1 y2 a = some (r, n0) ∧ r.toInt = x3.toInt - 1 ∧ PB o n0 r W ∧ (x4 = 0 → (g32 n0 33 0).toInt = (g32 a 33 0).toInt + 1) := by
  have e2 := sub2 (x := x3) (by omega)
  have e1 := sub1 (x := x3) (by omega)
  have c3 := clampI (x := x3) (by omega)
  have c2 := clampI (x := x3 - (2 : Int32)) (by omega)
  have i2 : Int32.toNatClampNeg (x3 - (2 : Int32)) = Int32.toNatClampNeg x3 - 2 := by omega
  have w0 := wk_0le (a.1 35) (Int32.toNatClampNeg x3 - 2)
  have iw : (0 : Int) ≤ (if (a.1 35 (Int32.toNatClampNeg x3 - 2)).toInt < 3 then 1 else 0) := by split <;> omega
  rw [F_Mod_printSign_231]
  obtain ⟨m, q1, q2⟩ := m_insert y1 y2 a hy.1 (by omega) h0 (by omega)
  have q3 := q2.2
  have m35 : m.1 35 = a.1 35 := q2.1.1 35 (by decide)
  have fm : FR [32, 33, 34, 35] [] o m := FR.tr hf (q2.1.mono (by decide) (by decide))
  have sm := hs.fr q2.1
  rw [q1, bind1_s]
  by_cases c : x4 = 0
  · rw [if_pos c]
    obtain ⟨r, n0, p1, p2, p3, p4⟩ := m_ps_279 x3 x4 o m W h3 h3b fm sm (by omega) (by rw [m35]; omega)
    exact ⟨r, n0, p1, p2, p3, fun _ => by rw [p4]; omega⟩
  rw [if_neg c, show (inb (x3 - (2 : Int32)) 420) = true from inb_iff.mpr ⟨by omega, by omega⟩, chk_tr]
  by_cases d : (g32 m 35 (Int32.toNatClampNeg (x3 - (2 : Int32)))) = (1 : Int32)
  · rw [if_pos d, show (inb (x3 - (1 : Int32)) 420) = true from inb_iff.mpr ⟨by omega, by omega⟩, chk_tr]
    have d1 : (a.1 35 (Int32.toNatClampNeg x3 - 2)).toInt < 3 := by
      have e : g32 m 35 (Int32.toNatClampNeg (x3 - (2 : Int32))) = a.1 35 (Int32.toNatClampNeg x3 - 2) := by rw [i2]; exact congrFun m35 _
      rw [← e, d]; decide
    rw [if_pos d1] at hW
    have p34 := sm (Int32.toNatClampNeg (x3 - (1 : Int32)))
    obtain ⟨t, t1, t2⟩ := m_insert (g32 m 34 (Int32.toNatClampNeg (x3 - (1 : Int32)))) 41 m p34.1 (by omega) (by omega) (by omega)
    have t3 := t2.2
    rw [t1, bind1_s]
    have st := sm.fr t2.1
    have p34b := st (Int32.toNatClampNeg (x3 - (2 : Int32)))
    obtain ⟨u, u1, u2⟩ := m_insert (g32 t 34 (Int32.toNatClampNeg (x3 - (2 : Int32)))) 40 t p34b.1 (by omega) (by omega) (by omega)
    have u3 := u2.2
    rw [u1, bind1_s]
    have u35 : u.1 35 = a.1 35 := (u2.1.1 35 (by decide)).trans ((t2.1.1 35 (by decide)).trans m35)
    obtain ⟨r, n0, p1, p2, p3, p4⟩ := m_ps_279 x3 x4 o u W h3 h3b (FR.tr fm (FR.tr (t2.1.mono (by decide) (by decide)) (u2.1.mono (by decide) (by decide)))) (st.fr u2.1) (by omega) (by rw [u35]; omega)
    exact ⟨r, n0, p1, p2, p3, fun z => absurd z c⟩
  · rw [if_neg d]
    obtain ⟨r, n0, p1, p2, p3, p4⟩ := m_ps_279 x3 x4 o m W h3 h3b fm sm (by omega) (by rw [m35]; omega)
    exact ⟨r, n0, p1, p2, p3, fun z => absurd z c⟩
theorem m_ps_178 (x1 x2 x3 x4 : Int32) (o a : Ob) (W : Int) (h3 : 2 ≤ x3.toInt) (h3b : x3.toInt ≤ 419) (hf : FR [32, 33, 34, 35] [] o a) (hs : S34 a) (h0 : 0 ≤ (g32 a 33 0).toInt) (hW9 : W ≤ 899) (hW : (g32 a 33 0).toInt + 1 + 2 * wk (a.1 35) (Int32.toNatClampNeg x3 - 2) + 2 * (if (a.1 35 (Int32.toNatClampNeg x3 - 2)).toInt < 3 then 1 else 0) + 2 ≤ W) : ∃ (r : Int32) (n0 : Ob), F_Mod_printSign_178 x1 x2 x3 x4 a = some (r, n0) ∧ r.toInt = x3.toInt - 1 ∧ PB o n0 r W ∧ (x4 = 0 → (g32 n0 33 0).toInt = (g32 a 33 0).toInt + 1) := by
  have e1 := sub1 (x := x3) (by omega)
  have p34 := hs (Int32.toNatClampNeg (x3 - (1 : Int32)))
  rw [F_Mod_printSign_178, show (inb (x3 - (1 : Int32)) 420) = true from inb_iff.mpr ⟨by omega, by omega⟩, chk_tr]
  split
  · exact m_ps_231 x3 x4 _ _ o a W h3 h3b p34 hf hs h0 hW9 hW
  split
  · exact m_ps_231 x3 x4 _ _ o a W h3 h3b p34 hf hs h0 hW9 hW
  split
  · exact m_ps_231 x3 x4 _ _ o a W h3 h3b p34 hf hs h0 hW9 hW
  split
  · exact m_ps_231 x3 x4 _ _ o a W h3 h3b p34 hf hs h0 hW9 hW
  exact m_ps_231 x3 x4 _ _ o a W h3 h3b p34 hf hs h0 hW9 hW
theorem m_ps_131 (x1 x2 x3 y0 : Int32) (o : Ob) (W : Int) (h3 : 2 ≤ x3.toInt) (h3b : x3.toInt ≤ 419) (hs : S34 o) (h0 : 0 ≤ (g32 o 33 0).toInt) (hW9 : W + 3 ≤ 899) (hW : (g32 o 33 0).toInt + 2 * wk (o.1 35) (Int32.toNatClampNeg x3) ≤ W) : ∃ (r : Int32) (n0 : Ob), F_Mod_printSign_131 x1 x2 x3 y0 o = some (r, n0) ∧ r.toInt = x3.toInt - 1 ∧ PB o n0 r (W + 3) ∧ (x1 = 9 → y0 = 0 → (g32 n0 33 0).toInt = (g32 o 33 0).toInt + 1) := by
  have e1 := sub1 (x := x3) (by omega)
  have c3 := clampI (x := x3) (by omega)
  have c1 := clampI (x := x3 - (1 : Int32)) (by omega)
  have i1 : Int32.toNatClampNeg (x3 - (1 : Int32)) = Int32.toNatClampNeg x3 - 1 := by omega
  have w2 := wk_two (f := o.1 35) (n := Int32.toNatClampNeg x3) (by omega)
  have w0 := wk_0le (o.1 35) (Int32.toNatClampNeg x3 - 2)
  have iw : (0 : Int) ≤ (if (o.1 35 (Int32.toNatClampNeg x3 - 2)).toInt < 3 then 1 else 0) := by split <;> omega
  have iw1 : (0 : Int) ≤ (if (o.1 35 (Int32.toNatClampNeg x3 - 1)).toInt < 3 then 1 else 0) := by split <;> omega
  have p34 := hs (Int32.toNatClampNeg (x3 - (1 : Int32)))
  have g35 : g32 o 35 (Int32.toNatClampNeg (x3 - (1 : Int32))) = o.1 35 (Int32.toNatClampNeg x3 - 1) := by rw [i1]; rfl
  have plain : ∃ (r : Int32) (n0 : Ob), F_Mod_printSign_178 x1 x2 x3 y0 o = some (r, n0) ∧ r.toInt = x3.toInt - 1 ∧ PB o n0 r (W + 3) ∧ (y0 = 0 → (g32 n0 33 0).toInt = (g32 o 33 0).toInt + 1) := m_ps_178 x1 x2 x3 y0 o o (W + 3) h3 h3b FR.refl hs h0 hW9 (by omega)
  have encl : (o.1 35 (Int32.toNatClampNeg x3 - 1)).toInt < 3 → ∃ (r : Int32) (n0 : Ob), bind1 (F_Mod_enclose (g32 o 34 (Int32.toNatClampNeg (x3 - (1 : Int32)))) o) (fun o_25 => F_Mod_printSign_178 x1 x2 x3 y0 o_25) = some (r, n0) ∧ r.toInt = x3.toInt - 1 ∧ PB o n0 r (W + 3) := by
    intro hw
    rw [if_pos hw] at w2
    obtain ⟨m, q1, q2⟩ := m_enclose (g32 o 34 (Int32.toNatClampNeg (x3 - (1 : Int32)))) o p34.1 (by omega) h0 (by omega)
    have q3 := q2.2
    have m35 : m.1 35 = o.1 35 := q2.1.1 35 (by decide)
    rw [q1, bind1_s]
    obtain ⟨r, n0, t1, t2, t3, _⟩ := m_ps_178 x1 x2 x3 y0 o m (W + 3) h3 h3b (q2.1.mono (by decide) (by decide)) (hs.fr q2.1) (by omega) hW9 (by rw [m35]; omega)
    exact ⟨r, n0, t1, t2, t3⟩
  rw [F_Mod_printSign_131, show (inb (x3 - (1 : Int32)) 420) = true from inb_iff.mpr ⟨by omega, by omega⟩, chk_tr]
  by_cases c9 : x1 = (9 : Int32)
  · rw [if_pos c9]
    obtain ⟨r, n0, t1, t2, t3, t4⟩ := plain
    exact ⟨r, n0, t1, t2, t3, fun _ z => t4 z⟩
  rw [if_neg c9]
  have lift : (∃ (r : Int32) (n0 : Ob), F_Mod_printSign_178 x1 x2 x3 y0 o = some (r, n0) ∧ r.toInt = x3.toInt - 1 ∧ PB o n0 r (W + 3) ∧ (x1 = 9 → y0 = 0 → (g32 n0 33 0).toInt = (g32 o 33 0).toInt + 1)) := by
    obtain ⟨r, n0, t1, t2, t3, t4⟩ := plain
    exact ⟨r, n0, t1, t2, t3, fun z => absurd z c9⟩
  by_cases d : (g32 o 35 (Int32.toNatClampNeg (x3 - (1 : Int32)))) = (1 : Int32)
  · rw [if_pos d]
    obtain ⟨r, n0, t1, t2, t3⟩ := encl (by rw [← g35, d]; decide)
    exact ⟨r, n0, t1, t2, t3, fun z => absurd z c9⟩
  rw [if_neg d]
  by_cases f : y0 = 0
  · rw [if_pos f]; exact lift
  rw [if_neg f]
  by_cases g : (g32 o 35 (Int32.toNatClampNeg (x3 - (1 : Int32)))) = (2 : Int32)
  · rw [if_pos g]
    obtain ⟨r, n0, t1, t2, t3⟩ := encl (by rw [← g35, g]; decide)
    exact ⟨r, n0, t1, t2, t3, fun z => absurd z c9⟩
  · rw [if_neg g]; exact lift
theorem m_ps_89 (x3 : Int32) (o a : Ob) (W : Int) (h3 : 1 ≤ x3.toInt) (h3b : x3.toInt ≤ 419) (hf : FR [32, 33, 34, 35] [] o a) (hs : S34 a) (h0 : 0 ≤ (g32 a 33 0).toInt) (hW9 : W ≤ 899) (hW : (g32 a 33 0).toInt + 1 + 2 * wk (a.1 35) (Int32.toNatClampNeg x3 - 1) ≤ W) : ∃ (r : Int32) (n0 : Ob), F_Mod_printSign_89 x3 a = some (r, n0) ∧ r.toInt = x3.toInt ∧ PB o n0 r W := by
  have e1 := sub1 (x := x3) (by omega)
  have c3 := clampI (x := x3) (by omega)
  have c1 := clampI (x := x3 - (1 : Int32)) (by omega)
  have i1 : Int32.toNatClampNeg (x3 - (1 : Int32)) = Int32.toNatClampNeg x3 - 1 := by omega
  have i3 : Int32.toNatClampNeg x3 = (Int32.toNatClampNeg x3 - 1) + 1 := by omega
  have p34 := hs (Int32.toNatClampNeg (x3 - (1 : Int32)))
  have w0 := wk_0le (a.1 35) (Int32.toNatClampNeg x3 - 1)
  rw [F_Mod_printSign_89, show (inb (x3 - (1 : Int32)) 420) = true from inb_iff.mpr ⟨by omega, by omega⟩, chk_tr]
  obtain ⟨m, q1, q2⟩ := m_insert (g32 a 34 (Int32.toNatClampNeg (x3 - (1 : Int32)))) 45 a p34.1 (by omega) h0 (by omega)
  have q3 := q2.2
  have m35 : m.1 35 = a.1 35 := q2.1.1 35 (by decide)
  rw [q1, bind1_s]
  refine ⟨_, _, rfl, rfl, FR.s (FR.tr hf (q2.1.mono (by decide) (by decide))) (by decide), (show S34 (s32 m 35 (Int32.toNatClampNeg (x3 - (1 : Int32))) 3) from (hs.fr q2.1 : S34 m)), show 0 ≤ (g32 m 33 0).toInt by omega, ?_⟩
  show (g32 m 33 0).toInt + 2 * wk (upd (m.1 35) (Int32.toNatClampNeg (x3 - (1 : Int32))) 3) (Int32.toNatClampNeg x3) ≤ W
  rw [i1, m35]
  have e : wk (upd (a.1 35) (Int32.toNatClampNeg x3 - 1) 3) (Int32.toNatClampNeg x3) = wk (a.1 35) (Int32.toNatClampNeg x3 - 1) := by
    rw [i3]
    have q := wk_push (a.1 35) 3 (Int32.toNatClampNeg x3 - 1)
    rw [if_neg (by decide), Int.add_zero] at q
    have ei : Int32.toNatClampNeg x3 - 1 + 1 - 1 = Int32.toNatClampNeg x3 - 1 := by omega
    rw [ei]; exact q
  rw [e]; omega
/-- one sign, printed -/
theorem m_printSign (x1 x2 x3 : Int32) (o : Ob) (W : Int) (hk : okst x1 x2 x3.toInt) (hn : ¬ x1.toInt = 10) (h3 : 0 ≤ x3.toInt) (h3b : x3.toInt ≤ 418) (hs : S34 o) (h0 : 0 ≤ (g32 o 33 0).toInt) (hW9 : W + wt x1 x2 ≤ 896) (hW : (g32 o 33 0).toInt + 2 * wk (o.1 35) (Int32.toNatClampNeg x3) ≤ W) : ∃ (r : Int32) (n0 : Ob), F_Mod_printSign x1 x2 x3 o = some (r, n0) ∧ FR [32, 33, 34, 35] [] o n0 ∧ S34 n0 ∧ 0 ≤ (g32 n0 33 0).toInt ∧ (x1.toInt ≤ 8 → r.toInt = nxt x1 x3.toInt ∧ (g32 n0 33 0).toInt + 2 * wk (n0.1 35) (Int32.toNatClampNeg r) ≤ W + wt x1 x2) ∧ (x1.toInt = 9 → (g32 n0 33 0).toInt ≤ W + 1) := by
  obtain ⟨⟨t1, t2⟩, k1, k2, k3, k4, k5, k9, k10⟩ := hk
  have z3 : (3 : Int32).toInt = 3 := rfl
  have c3 := clampI (x := x3) h3
  have w0 := wk_0le (o.1 35) (Int32.toNatClampNeg x3)
  have wt0 := wt_0le x1 x2
  rw [F_Mod_printSign]
  by_cases c : (3 : Int32) < x1
  · rw [if_pos c]
    have c := Int32.lt_iff_toInt_lt.mp c
    by_cases d : x1 = (4 : Int32)
    · rw [if_pos d]
      have d4 : x1.toInt = 4 := by rw [d]; rfl
      have hd := k4 d4
      have e1 := sub1 (x := x3) (by omega)
      have c1 := clampI (x := x3 - (1 : Int32)) (by omega)
      have i1 : Int32.toNatClampNeg (x3 - (1 : Int32)) = Int32.toNatClampNeg x3 - 1 := by omega
      have i3 : Int32.toNatClampNeg x3 = (Int32.toNatClampNeg x3 - 1) + 1 := by omega
      have p34 := hs (Int32.toNatClampNeg (x3 - (1 : Int32)))
      have ew : wk (o.1 35) (Int32.toNatClampNeg x3) = wk (o.1 35) (Int32.toNatClampNeg x3 - 1) + (if (o.1 35 (Int32.toNatClampNeg x3 - 1)).toInt < 3 then 1 else 0) := by
        have q : wk (o.1 35) ((Int32.toNatClampNeg x3 - 1) + 1) = wk (o.1 35) (Int32.toNatClampNeg x3 - 1) + (if (o.1 35 (Int32.toNatClampNeg x3 - 1)).toInt < 3 then 1 else 0) := rfl
        rw [← i3] at q
        exact q
      have w1 := wk_0le (o.1 35) (Int32.toNatClampNeg x3 - 1)
      have g35 : g32 o 35 (Int32.toNatClampNeg (x3 - (1 : Int32))) = o.1 35 (Int32.toNatClampNeg x3 - 1) := by rw [i1]; rfl
      have ew4 := wt_4 (y := x2) d4
      rw [show (inb (x3 - (1 : Int32)) 420) = true from inb_iff.mpr ⟨by omega, by omega⟩, chk_tr]
      by_cases f : (3 : Int32) ≤ (g32 o 35 (Int32.toNatClampNeg (x3 - (1 : Int32))))
      · rw [if_pos f]
        have f := Int32.le_iff_toInt_le.mp f
        rw [g35] at f
        rw [if_neg (by omega)] at ew
        obtain ⟨r, n0, q1, q2, q3⟩ := m_ps_89 x3 o o (W + 1) (by omega) (by omega) FR.refl hs h0 (by omega) (by omega)
        exact ⟨r, n0, q1, q3.1, q3.2.1, q3.2.2.1, fun _ => ⟨by rw [nxt_4 d4, q2], by rw [ew4]; exact q3.2.2.2⟩, fun z => by omega⟩
      · rw [if_neg f]
        have f : (o.1 35 (Int32.toNatClampNeg x3 - 1)).toInt < 3 := by
          rw [← g35]
          have : ¬ 3 ≤ (g32 o 35 (Int32.toNatClampNeg (x3 - (1 : Int32)))).toInt := fun z => f (Int32.le_iff_toInt_le.mpr (by omega))
          omega
        rw [if_pos f] at ew
        obtain ⟨m, q1, q2⟩ := m_enclose (g32 o 34 (Int32.toNatClampNeg (x3 - (1 : Int32)))) o p34.1 (by omega) h0 (by omega)
        have q3 := q2.2
        have m35 : m.1 35 = o.1 35 := q2.1.1 35 (by decide)
        rw [q1, bind1_s]
        obtain ⟨r, n0, u1, u2, u3⟩ := m_ps_89 x3 o m (W + 1) (by omega) (by omega) (q2.1.mono (by decide) (by decide)) (hs.fr q2.1) (by omega) (by omega) (by rw [m35]; omega)
        exact ⟨r, n0, u1, u3.1, u3.2.1, u3.2.2.1, fun _ => ⟨by rw [nxt_4 d4, u2], by rw [ew4]; exact u3.2.2.2⟩, fun z => by omega⟩
    rw [if_neg d]
    have d4 : ¬ x1.toInt = 4 := fun z => d (Int32.toInt_inj.mp z)
    have hd : 2 ≤ x3.toInt := by
      by_cases w : x1.toInt ≤ 8
      · exact k5 (by omega) w
      · have := k9 (by omega); omega
    have fin : ∀ y0 : Int32, (x1.toInt = 9 → y0 = 0) → ∃ (r : Int32) (n0 : Ob), F_Mod_printSign_131 x1 x2 x3 y0 o = some (r, n0) ∧ FR [32, 33, 34, 35] [] o n0 ∧ S34 n0 ∧ 0 ≤ (g32 n0 33 0).toInt ∧ (x1.toInt ≤ 8 → r.toInt = nxt x1 x3.toInt ∧ (g32 n0 33 0).toInt + 2 * wk (n0.1 35) (Int32.toNatClampNeg r) ≤ W + wt x1 x2) ∧ (x1.toInt = 9 → (g32 n0 33 0).toInt ≤ W + 1) := by
      intro y0 hy
      have hw3 : W + 3 ≤ 899 := by omega
      obtain ⟨r, n0, q1, q2, q3, q4⟩ := m_ps_131 x1 x2 x3 y0 o W hd (by omega) hs h0 hw3 hW
      refine ⟨r, n0, q1, q3.1, q3.2.1, q3.2.2.1, fun z => ⟨by rw [nxt_b (by omega) z, q2], ?_⟩, fun z => ?_⟩
      · rw [wt_b (by omega) z]; exact q3.2.2.2
      · have := q4 (Int32.toInt_inj.mp z) (hy z)
        omega
    by_cases f : x1 = (7 : Int32)
    · rw [if_pos f]
      exact fin 1 (fun z => by rw [f] at z; exact absurd z (by decide))
    rw [if_neg f]
    by_cases g : x1 = (8 : Int32)
    · rw [if_pos g]
      exact fin 1 (fun z => by rw [g] at z; exact absurd z (by decide))
    · rw [if_neg g]; exact fin 0 (fun _ => rfl)
  · rw [if_neg c]
    have c : x1.toInt ≤ 3 := by
      have : ¬ 3 < x1.toInt := fun z => c (Int32.lt_iff_toInt_lt.mpr (by omega))
      omega
    have e1 := add1 (x := x3) (by omega)
    have cs := clampS (x := x3) h3 (by omega)
    have i420 : (inb x3 420) = true := inb_iff.mpr ⟨by omega, by omega⟩
    rw [i420, chk_tr]
    have sa : S34 (s32 (s32 o 34 (Int32.toNatClampNeg x3) (g32 o 33 0)) 35 (Int32.toNatClampNeg x3) (3 : Int32)) := fun j => by
      show 0 ≤ (g32 (s32 o 34 (Int32.toNatClampNeg x3) (g32 o 33 0)) 34 j).toInt ∧ (g32 (s32 o 34 (Int32.toNatClampNeg x3) (g32 o 33 0)) 34 j).toInt ≤ 899
      rw [g32_same]
      split
      · omega
      · exact hs j
    have fa : FR [32, 33, 34, 35] [] o (s32 (s32 o 34 (Int32.toNatClampNeg x3) (g32 o 33 0)) 35 (Int32.toNatClampNeg x3) (3 : Int32)) := FR.s (FR.s FR.refl (by decide)) (by decide)
    have fin : ∀ (n0 : Ob) (k : Int), PA (s32 (s32 o 34 (Int32.toNatClampNeg x3) (g32 o 33 0)) 35 (Int32.toNatClampNeg x3) (3 : Int32)) n0 k → 0 ≤ k → k ≤ wt x1 x2 → FR [32, 33, 34, 35] [] o n0 ∧ S34 n0 ∧ 0 ≤ (g32 n0 33 0).toInt ∧ (x1.toInt ≤ 8 → (x3 + (1 : Int32)).toInt = nxt x1 x3.toInt ∧ (g32 n0 33 0).toInt + 2 * wk (n0.1 35) (Int32.toNatClampNeg (x3 + (1 : Int32))) ≤ W + wt x1 x2) ∧ (x1.toInt = 9 → (g32 n0 33 0).toInt ≤ W + 1) := by
      intro n0 k hp k0 k1
      have hp2 : (g32 n0 33 0).toInt = (g32 o 33 0).toInt + k := hp.2
      refine ⟨FR.tr fa (hp.1.mono (by decide) (by decide)), sa.fr hp.1, by omega, fun _ => ⟨by rw [nxt_op c]; exact e1, ?_⟩, fun z => by omega⟩
      have e35 : n0.1 35 = upd (o.1 35) (Int32.toNatClampNeg x3) 3 := hp.1.1 35 (by decide)
      rw [e35, cs, wk_push, if_neg (by decide)]
      omega
    by_cases g1 : x1 = (1 : Int32)
    · rw [if_pos g1]
      have h1 : x1.toInt = 1 := by rw [g1]; rfl
      have kk := k1 h1
      have ew := wt_1 (a := x2) h1
      obtain ⟨n0, k, q1, q2, q3, q4⟩ := m_addNumber x2 (s32 (s32 o 34 (Int32.toNatClampNeg x3) (g32 o 33 0)) 35 (Int32.toNatClampNeg x3) (3 : Int32)) kk.1 kk.2 h0 (show (g32 o 33 0).toInt + plen x2.toInt ≤ 900 by omega)
      rw [q1, bind1_s]
      exact ⟨_, n0, rfl, fin n0 k q2 q3 (by omega)⟩
    rw [if_neg g1]
    by_cases g2 : x1 = (2 : Int32)
    · rw [if_pos g2]
      have h2 : x1.toInt = 2 := by rw [g2]; rfl
      have ew := wt_2 (a := x2) h2
      obtain ⟨n0, q1, q2⟩ := m_add ((97 : Int32) + x2) (s32 (s32 o 34 (Int32.toNatClampNeg x3) (g32 o 33 0)) 35 (Int32.toNatClampNeg x3) (3 : Int32)) h0 (show (g32 o 33 0).toInt < 900 by omega)
      rw [q1, bind1_s]
      exact ⟨_, n0, rfl, fin n0 1 q2 (by omega) (by omega)⟩
    · rw [if_neg g2]
      have h3c : x1.toInt = 3 := by
        have n1 : ¬ x1.toInt = 1 := fun z => g1 (Int32.toInt_inj.mp z)
        have n2 : ¬ x1.toInt = 2 := fun z => g2 (Int32.toInt_inj.mp z)
        omega
      have ew := wt_3 (a := x2) h3c
      obtain ⟨n0, q1, q2⟩ := m_addCell x2 (s32 (s32 o 34 (Int32.toNatClampNeg x3) (g32 o 33 0)) 35 (Int32.toNatClampNeg x3) (3 : Int32)) h0 (show (g32 o 33 0).toInt + 2 ≤ 900 by omega)
      rw [q1, bind1_s]
      exact ⟨_, n0, rfl, fin n0 2 q2 (by omega) (by omega)⟩
