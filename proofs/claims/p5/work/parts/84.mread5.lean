/-! THE REFERENCE: expressions -/
theorem EX.drop {o : Ob} {L : Int} {b : Nat} {bd dp : Int} (h : EX o L b bd 1 dp) (hL : 0 ≤ L) (h1 : (g32 o 3 0).toInt < (g32 o 2 0).toInt) (hw : 0 < (g32 o 14 0).toInt) (ht : (g32 o 13 (Int32.toNatClampNeg ((g32 o 14 0) - (1 : Int32)))).toInt = 11) : EX (s32 (s32 o 14 0 ((g32 o 14 0) - (1 : Int32))) 3 0 ((g32 o 3 0) + (1 : Int32))) L b bd 1 (dp - 1) := by
  obtain ⟨⟨⟨l1, l2, l3, l4, l5, l6⟩, lf⟩, hJ, hc⟩ := h
  have e := sub1 (x := g32 o 14 0) (by omega)
  have e3 := add1 (x := g32 o 3 0) (by omega)
  have cp := clampP (x := g32 o 14 0) hw
  refine ⟨⟨⟨l1, ?_, ?_, ?_, l5, l6⟩, lf⟩, ?_, ?_⟩
  · show 0 ≤ ((g32 o 14 0) - (1 : Int32)).toInt; omega
  · show (g32 o 7 1).toInt + ((g32 o 14 0) - (1 : Int32)).toInt + L ≤ ((g32 o 3 0) + (1 : Int32)).toInt; omega
  · show ((g32 o 3 0) + (1 : Int32)).toInt ≤ (g32 o 2 0).toInt + 0; omega
  · rw [cp] at hJ
    have q := (hJ.drop ht).mono (A' := 2 * ((g32 o 3 0) + (1 : Int32)).toInt) (by omega)
    exact q
  · rw [cp] at hc
    have hc : cnt (o.1 13) 11 (Int32.toNatClampNeg ((g32 o 14 0) - (1 : Int32))) + (if o.1 13 (Int32.toNatClampNeg ((g32 o 14 0) - (1 : Int32))) = 11 then 1 else 0) = dp := hc
    rw [if_pos (Int32.toInt_inj.mp ht)] at hc
    show cnt (o.1 13) 11 (Int32.toNatClampNeg ((g32 o 14 0) - (1 : Int32))) = dp - 1
    omega
/-- what the loop goes on with: good, or failed -/
def GO (o : Ob) (L : Int) (b : Nat) (bd : Int) (x1 x2 x3 : Int32) (n : Int) : Prop := (EX o L b bd x1.toInt x3.toInt ∧ (x1.toInt = 0 ∨ x1.toInt = 1) ∧ (x2.toInt = 1 ∨ (x2.toInt = 0 ∧ x1.toInt = 1 ∧ x3.toInt = 0)) ∧ 2 * ((g32 o 2 0).toInt - (g32 o 3 0).toInt) + x2.toInt + 1 < n) ∨ (EF o 1 L ∧ 1 ≤ n)
def FIN (o n : Ob) (L : Int) (b : Nat) (bd : Int) : Prop := XE o n ∧ ((EX n L b bd 1 0 ∧ (g32 n 14 0).toInt = 0) ∨ EF n 1 L)
theorem FIN.tr {o m n : Ob} {L : Int} {b : Nat} {bd : Int} (h : XE o m) (g : FIN m n L b bd) : FIN o n L b bd := ⟨XE.tr h g.1, g.2⟩
theorem m_readExpression_145 (L : Int) (b : Nat) (bd : Int) (hbd : 0 ≤ bd) (hL : 0 ≤ L) (N : Int) (k11 : Int32 → Int32 → Int32 → Ob → Option Ob) (hk : ∀ (x1 x2 x3 : Int32) (o : Ob), GO o L b bd x1 x2 x3 N → ∃ n0, k11 x1 x2 x3 o = some n0 ∧ FIN o n0 L b bd) (x1 x2 x3 : Int32) (h1 : x1.toInt = 1) (h2 : x2.toInt = 1) (h3 : 0 < x3.toInt) : ∀ (n : Nat) (o : Ob), EX o L b bd 1 x3.toInt → (g32 o 3 0).toInt < (g32 o 2 0).toInt → 2 * ((g32 o 2 0).toInt - (g32 o 3 0).toInt) + 1 ≤ N → (g32 o 14 0).toInt < (n : Int) → ∃ n0, F_Mod_readExpression_145 k11 n x1 x2 x3 o = some n0 ∧ FIN o n0 L b bd := by
  intro n
  induction n with
  | zero => intro o h _ _ hn; exfalso; have := h.1.1.2.1; omega
  | succ n ih =>
    intro o h ha hN hn
    obtain ⟨⟨⟨l1, l2, l3, l4, l5, l6⟩, lf⟩, hJ, hc⟩ := id h
    have z11 : (11 : Int32).toInt = 11 := rfl
    have e3 := add1 (x := g32 o 3 0) (by omega)
    have cq := cnt_le (o.1 13) 11 (Int32.toNatClampNeg (g32 o 14 0))
    have ci2 := clampI (x := g32 o 14 0) (by omega)
    have hw : 0 < (g32 o 14 0).toInt := by omega
    have e2 := sub1 (x := g32 o 14 0) (by omega)
    have ci := clampI (x := (g32 o 14 0) - (1 : Int32)) (by omega)
    rw [F_Mod_readExpression_145]
    obtain ⟨r, er, rt, rf⟩ := m_isWaiting 11 11 o (by omega)
    rw [er, bind1_s]
    by_cases c : (b2i r) = 0
    · rw [if_pos c]
      have c := rf (b2i_0.mp c)
      have hq : 4 ≤ (g32 o 13 (Int32.toNatClampNeg ((g32 o 14 0) - (1 : Int32)))).toInt ∧ ((g32 o 13 (Int32.toNatClampNeg ((g32 o 14 0) - (1 : Int32)))).toInt ≤ 8 ∨ (g32 o 13 (Int32.toNatClampNeg ((g32 o 14 0) - (1 : Int32)))).toInt = 11) := hJ.2 (Int32.toNatClampNeg ((g32 o 14 0) - (1 : Int32))) (by omega)
      rw [m_pop o l1 (by omega) hw (by omega), bind1_s]
      obtain ⟨n0, q1, q2⟩ := ih _ (h.pop hbd hL hw (by omega)) ha hN (by show ((g32 o 14 0) - (1 : Int32)).toInt < (n : Int); omega)
      exact ⟨n0, q1, FIN.tr (XE.pop l1 (by omega) (by omega)) q2⟩
    · rw [if_neg c]
      obtain ⟨w1, w2, w3⟩ := rt (b2i_1 c)
      have hd := h.drop hL ha w1 (by omega)
      have hx : XE o (s32 (s32 o 14 0 ((g32 o 14 0) - (1 : Int32))) 3 0 ((g32 o 3 0) + (1 : Int32))) := XE.s (XE.s XE.refl (by decide)) (by decide)
      obtain ⟨m, p1, p2, p3, p4, p5⟩ := m_endFactor L b bd (x3.toInt - 1) hbd hL _ (Or.inl hd)
      rw [p1, bind1_s]
      have hm := p4 hd
      have p3 : g32 m 3 0 = (g32 o 3 0) + (1 : Int32) := p3
      have m2 : g32 m 2 0 = g32 o 2 0 := (XE.tr hx p2).1.g (by decide) 0
      have neg : (x3 + (-1 : Int32)).toInt = x3.toInt - 1 := by rw [tadd (by rw [neg1]; omega) (by rw [neg1]; have := x3.toInt_lt; omega), neg1]; omega
      obtain ⟨n0, q1, q2⟩ := hk x1 x2 (x3 + (-1 : Int32)) m (Or.inl ⟨by rw [h1, neg]; exact hm, Or.inr h1, Or.inl h2, by rw [m2, p3]; omega⟩)
      exact ⟨n0, q1, FIN.tr (XE.tr hx p2) q2⟩
theorem m_readExpression_11 (L : Int) (b : Nat) (bd : Int) (hbd : 0 ≤ bd) (hL : 0 ≤ L) : ∀ (n : Nat) (x1 x2 x3 : Int32) (o : Ob), GO o L b bd x1 x2 x3 (n : Int) → ∃ n0, F_Mod_readExpression_11 n x1 x2 x3 o = some n0 ∧ FIN o n0 L b bd := by
  intro n
  induction n with
  | zero =>
    intro x1 x2 x3 o h
    exfalso
    rcases h with ⟨⟨⟨⟨l1, l2, l3, l4, l5, l6⟩, lf⟩, _⟩, a1, a2, a3⟩ | ⟨_, h⟩
    · rcases a2 with a | a <;> omega
    · omega
  | succ n ih =>
    intro x1 x2 x3 o hg
    have z0 : (0 : Int32).toInt = 0 := rfl
    rw [F_Mod_readExpression_11]
    rcases hg with ⟨h, a1, a2, a3⟩ | ⟨h, a1⟩
    · obtain ⟨⟨⟨l1, l2, l3, l4, l5, l6⟩, lf⟩, hJ, hc⟩ := id h
      by_cases c : x2 = 0
      · rw [if_pos c]
        have c2 : x2.toInt = 0 := by rw [c]; rfl
        obtain ⟨b1, b2, b3⟩ : x2.toInt = 0 ∧ x1.toInt = 1 ∧ x3.toInt = 0 := by rcases a2 with a | a; omega; exact a
        rw [b2, b3] at h
        exact m_readExpression_213 L b bd hbd hL fuel o (Or.inl h) (by rw [fuel_eq]; omega)
      rw [if_neg c, if_neg (fun z => by have := Int32.le_iff_toInt_le.mp z; omega)]
      have c2 : x2.toInt = 1 := by
        have : ¬ x2.toInt = 0 := fun z => c (Int32.toInt_inj.mp z)
        rcases a2 with a | a <;> omega
      obtain ⟨v4, e4, h4⟩ := m_here o (by omega) l6
      rw [e4, bind1_s]
      have cq := cnt_le (o.1 13) 11 (Int32.toNatClampNeg (g32 o 14 0))
      have cq0 := cnt_0le (o.1 13) 11 (Int32.toNatClampNeg (g32 o 14 0))
      have ci2 := clampI (x := g32 o 14 0) (by omega)
      by_cases w : x1 = 0
      · rw [if_pos w]
        have w1 : x1.toInt = 0 := by rw [w]; rfl
        rw [w1] at h
        obtain ⟨v19, m, q1, q2, q3⟩ := m_readFactor v4 x3 o L b bd x3.toInt hbd hL h h4
        rw [q1, bind2_s]
        have br := b2i_rg v19
        have m2 : g32 m 2 0 = g32 o 2 0 := q2.1.g (by decide) 0
        by_cases p : v4 = (40 : Int32)
        · rw [if_pos p]
          have p4 : v4.toInt = 40 := by rw [p]; rfl
          have ex := add1 (x := x3) (by omega)
          rw [if_pos p4] at q3
          have hgo : GO m L b bd (b2i v19) x2 (x3 + (1 : Int32)) (n : Int) := by
            rcases q3 with ⟨q3, q4⟩ | q3
            · exact Or.inl ⟨by rw [ex]; exact q3, by omega, Or.inl c2, by rw [m2]; omega⟩
            · exact Or.inr ⟨q3, by omega⟩
          obtain ⟨n0, r1, r2⟩ := ih _ _ _ _ hgo
          exact ⟨n0, r1, FIN.tr q2 r2⟩
        · rw [if_neg p]
          have p4 : ¬ v4.toInt = 40 := fun z => p (Int32.toInt_inj.mp z)
          rw [if_neg p4, Int.add_zero] at q3
          have hgo : GO m L b bd (b2i v19) x2 x3 (n : Int) := by
            rcases q3 with ⟨q3, q4⟩ | q3
            · exact Or.inl ⟨q3, by omega, Or.inl c2, by rw [m2]; omega⟩
            · exact Or.inr ⟨q3, by omega⟩
          obtain ⟨n0, r1, r2⟩ := ih _ _ _ _ hgo
          exact ⟨n0, r1, FIN.tr q2 r2⟩
      rw [if_neg w]
      have w1 : x1.toInt = 1 := by
        have : ¬ x1.toInt = 0 := fun z => w (Int32.toInt_inj.mp z)
        omega
      rw [w1] at h
      have at1 : ∀ k : Int, v4.toInt = k → 0 ≤ k → (g32 o 3 0).toInt < (g32 o 2 0).toInt := by
        intro k hk hk0
        rcases h4 with ⟨b1, b2⟩ | ⟨b1, b2⟩ <;> omega
      have op : ∀ (s f : Int32), 5 ≤ s.toInt → s.toInt ≤ 8 → (g32 o 3 0).toInt < (g32 o 2 0).toInt → ∃ n0, bind1 (F_Mod_operator s f o) (fun o_30 => F_Mod_readExpression_11 n (0 : Int32) x2 x3 o_30) = some n0 ∧ FIN o n0 L b bd := by
        intro s f s1 s2 ha
        obtain ⟨m, q1, q2, q3, q4⟩ := m_operator L b bd x3.toInt hbd hL s f s1 s2 o h ha
        have m2 : g32 m 2 0 = g32 o 2 0 := q2.1.g (by decide) 0
        rw [q1, bind1_s]
        obtain ⟨n0, r1, r2⟩ := ih 0 x2 x3 m (Or.inl ⟨by rw [z0]; exact q3, Or.inl z0, Or.inl c2, by rw [m2]; omega⟩)
        exact ⟨n0, r1, FIN.tr q2 r2⟩
      have stop : x3 ≤ 0 → ∃ n0, F_Mod_readExpression_11 n x1 (0 : Int32) x3 o = some n0 ∧ FIN o n0 L b bd := by
        intro hx
        have hx := le0 hx
        exact ih x1 0 x3 o (Or.inl ⟨by rw [w1]; exact h, Or.inr w1, Or.inr ⟨z0, w1, by omega⟩, by rw [z0]; omega⟩)
      have fail : ∃ n0, bind1 (F_Mod_failAt (g32 o 3 0) o) (fun o_17 => F_Mod_readExpression_11 n x1 x2 x3 o_17) = some n0 ∧ FIN o n0 L b bd := by
        obtain ⟨v, ev, hv⟩ := m_failAt (g32 o 3 0) o (by omega)
        rw [ev, bind1_s]
        obtain ⟨n0, r1, r2⟩ := ih x1 x2 x3 (s32 o 4 0 v) (Or.inr ⟨⟨⟨l1, l2, l3, show (g32 o 3 0).toInt ≤ (g32 o 2 0).toInt + 1 by omega, l5, l6⟩, hv⟩, by omega⟩)
        exact ⟨n0, r1, FIN.tr (XE.s XE.refl (by decide)) r2⟩
      have plus : (g32 o 3 0).toInt < (g32 o 2 0).toInt → ∃ n0, F_Mod_readExpression_72 (F_Mod_readExpression_11 n) x2 x3 v4 o = some n0 ∧ FIN o n0 L b bd := by
        intro ha
        rw [F_Mod_readExpression_72]
        split
        · exact op 5 5 (by decide) (by decide) ha
        · exact op 6 5 (by decide) (by decide) ha
      have times : (g32 o 3 0).toInt < (g32 o 2 0).toInt → ∃ n0, F_Mod_readExpression_109 (F_Mod_readExpression_11 n) x2 x3 v4 o = some n0 ∧ FIN o n0 L b bd := by
        intro ha
        rw [F_Mod_readExpression_109]
        split
        · exact op 7 7 (by decide) (by decide) ha
        · exact op 8 7 (by decide) (by decide) ha
      by_cases p1 : v4 = (43 : Int32)
      · rw [if_pos p1]; exact plus (at1 43 (by rw [p1]; rfl) (by omega))
      rw [if_neg p1]
      by_cases p2 : v4 = (45 : Int32)
      · rw [if_pos p2]; exact plus (at1 45 (by rw [p2]; rfl) (by omega))
      rw [if_neg p2]
      by_cases p3 : v4 = (42 : Int32)
      · rw [if_pos p3]; exact times (at1 42 (by rw [p3]; rfl) (by omega))
      rw [if_neg p3]
      by_cases p4 : v4 = (47 : Int32)
      · rw [if_pos p4]; exact times (at1 47 (by rw [p4]; rfl) (by omega))
      rw [if_neg p4]
      by_cases p5 : v4 = (41 : Int32)
      · rw [if_pos p5]
        by_cases d : x3 ≤ 0
        · rw [if_pos d, if_pos d]; exact stop d
        · rw [if_neg d]
          have d := nle0 d
          have ha := at1 41 (by rw [p5]; rfl) (by omega)
          exact m_readExpression_145 L b bd hbd hL (n : Int) (F_Mod_readExpression_11 n) ih x1 x2 x3 w1 c2 d fuel o h ha (by omega) (by rw [fuel_eq]; omega)
      · rw [if_neg p5]
        by_cases d : x3 ≤ 0
        · rw [if_pos d]; exact stop d
        · rw [if_neg d]; exact fail
    · obtain ⟨⟨l1, l2, l3, l4, l5, l6⟩, lf⟩ := id h
      have r := m_readExpression_213 L b bd hbd hL fuel o (Or.inr h) (by rw [fuel_eq]; omega)
      by_cases c : x2 = 0
      · rw [if_pos c]; exact r
      · rw [if_neg c, if_pos (Int32.le_iff_toInt_le.mpr (by rw [z0]; exact lf))]; exact r
/-- a statement's state between expressions -/
def SX (o : Ob) (L : Int) (b : Nat) (D : Int) : Prop := ((0 ≤ (g32 o 7 1).toInt ∧ (g32 o 7 1).toInt + L ≤ (g32 o 3 0).toInt ∧ (g32 o 3 0).toInt ≤ (g32 o 2 0).toInt ∧ 0 ≤ (g32 o 2 0).toInt ∧ (g32 o 2 0).toInt ≤ 400) ∧ (g32 o 4 0).toInt < 0) ∧ DS (o.1 5) (o.1 6) b (Int32.toNatClampNeg (g32 o 7 1)) D (2 * (g32 o 3 0).toInt)
def SF (o : Ob) (K L : Int) : Prop := (0 ≤ (g32 o 7 1).toInt ∧ (g32 o 7 1).toInt + L ≤ (g32 o 3 0).toInt ∧ (g32 o 3 0).toInt ≤ (g32 o 2 0).toInt + K ∧ 0 ≤ (g32 o 2 0).toInt ∧ (g32 o 2 0).toInt ≤ 400) ∧ 0 ≤ (g32 o 4 0).toInt
theorem m_readExpression (o : Ob) (L : Int) (b : Nat) (D : Int) (hD : 0 ≤ D) (hL : 0 ≤ L) (h : SX o L b D) : ∃ n0, F_Mod_readExpression o = some n0 ∧ XE o n0 ∧ (SX n0 L b (D + 1) ∨ SF n0 1 L) := by
  obtain ⟨⟨⟨l1, l3, l4, l5, l6⟩, lf⟩, hS⟩ := id h
  have z0 : (0 : Int32).toInt = 0 := rfl
  have z1 : (1 : Int32).toInt = 1 := rfl
  have hx : EX (s32 o 14 0 (0 : Int32)) L b D 0 0 := by
    refine ⟨⟨⟨l1, show 0 ≤ (0 : Int32).toInt by omega, show (g32 o 7 1).toInt + (0 : Int32).toInt + L ≤ (g32 o 3 0).toInt by omega, show (g32 o 3 0).toInt ≤ (g32 o 2 0).toInt + 0 by omega, l5, l6⟩, lf⟩, ?_, rfl⟩
    have q : DJ (o.1 5) (o.1 6) (o.1 13) b (Int32.toNatClampNeg (g32 o 7 1)) 0 D 0 (2 * (g32 o 3 0).toInt) := by
      refine ⟨?_, fun j hj => by omega⟩
      have e : D + cB (o.1 13) 0 + 0 = D := by
        have : cB (o.1 13) 0 = 0 := rfl
        omega
      rw [e]
      exact hS.mono (by omega)
    exact q
  rw [F_Mod_readExpression]
  obtain ⟨n0, q1, q2, q3⟩ := m_readExpression_11 L b D hD hL fuel 0 1 0 (s32 o 14 0 (0 : Int32)) (Or.inl ⟨by rw [z0]; exact hx, Or.inl z0, Or.inl z1, by show 2 * ((g32 o 2 0).toInt - (g32 o 3 0).toInt) + (1 : Int32).toInt + 1 < _; rw [fuel_eq]; omega⟩)
  refine ⟨n0, q1, XE.tr (XE.s XE.refl (by decide)) q2, ?_⟩
  rcases q3 with ⟨⟨⟨⟨m1, m2, m3, m4, m5, m6⟩, mf⟩, mJ, mc⟩, mw⟩ | ⟨⟨m1, m2, m3, m4, m5, m6⟩, mf⟩
  · refine Or.inl ⟨⟨⟨m1, by omega, by omega, m5, m6⟩, mf⟩, ?_⟩
    have ew : Int32.toNatClampNeg (g32 n0 14 0) = 0 := by
      have := clampI (x := g32 n0 14 0) (by omega)
      omega
    rw [ew] at mJ
    have q := mJ.1
    have e : D + cB (n0.1 13) 0 + 1 = D + 1 := by
      have : cB (n0.1 13) 0 = 0 := rfl
      omega
    rw [e] at q
    exact q.mono (by omega)
  · exact Or.inr ⟨⟨m1, by omega, m4, m5, m6⟩, mf⟩
