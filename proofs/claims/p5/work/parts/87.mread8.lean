/-! THE REFERENCE: a statement, read -/
/-- what a statement leaves -/
def SD (o n : Ob) : Prop := LOW o n ∧ (TS n ∨ SF n 4 0) ∧ (g32 n 8 1).toInt = (g32 o 8 1).toInt + 1
theorem fin_bad {o n : Ob} {S : Int32} (h0 : 25 ≤ S.toInt) (h1 : S.toInt ≤ 48) (hl : LOW o n) (h8 : g32 n 8 1 = g32 o 8 1) (hst : 0 ≤ (g32 o 8 1).toInt ∧ (g32 o 8 1).toInt < 24) (h : SF n 4 0) : SD o (fin n S) := by
  have e8 := add1 (x := g32 o 8 1) (by omega)
  refine ⟨fin_low h0 h1 hl, Or.inr h, ?_⟩
  show ((g32 n 8 1) + (1 : Int32)).toInt = _
  rw [h8]; exact e8
/-- the object as the statement begins -/
def bgn (o : Ob) (S : Int32) : Ob := s32 (s32 o 9 (Int32.toNatClampNeg S) (g32 o 7 1)) 10 (Int32.toNatClampNeg S) (-1 : Int32)
theorem bgn_low {o : Ob} {S : Int32} (h0 : 25 ≤ S.toInt) : LOW o (bgn o S) := by
  have c := clampI (x := S) (by omega)
  exact LOW.tr (LOW.s9 (by omega)) (LOW.s10 (by omega))
theorem bgn_SX {o : Ob} {S : Int32} (h : NB o) : SX (bgn o S) 0 (Int32.toNatClampNeg (g32 o 7 1)) 0 := by
  obtain ⟨⟨a1, a2, a3, a4, a5⟩, a6, a7, a8, a9⟩ := h
  refine ⟨⟨⟨a1, show (g32 o 7 1).toInt + 0 ≤ (g32 o 3 0).toInt by omega, a3, a4, a5⟩, a6⟩, ?_⟩
  have q : DS (o.1 5) (o.1 6) (Int32.toNatClampNeg (g32 o 7 1)) (Int32.toNatClampNeg (g32 o 7 1)) 0 (2 * (g32 o 3 0).toInt) := ⟨Nat.le_refl _, fun k hk => by omega, by rw [Nat.sub_self]; rfl, by omega⟩
  exact q
theorem CLO.nil {o : Ob} {b : Nat} (h : (g32 o 7 1).toInt = (b : Int)) : CLO o b := fun k hk hk2 _ => by omega
/-- the end of a statement that defines, behind its name -/
theorem m_rs143 (o B : Ob) (S x5 : Int32) (hT : TS o) (hst : (g32 o 8 1).toInt < 24) (hS : S.toInt = 25 + (g32 o 8 1).toInt) (hF : FR [3, 4] [] (bgn o S) B) (hB : (SX (s32 B 3 0 ((g32 B 3 0) + (1 : Int32))) 0 (Int32.toNatClampNeg (g32 o 7 1)) 0 ∧ 0 ≤ x5.toInt ∧ x5.toInt < 60) ∨ SF (s32 B 3 0 ((g32 B 3 0) + (1 : Int32))) 3 0) : ∃ n0, F_Mod_readStatement_143 S x5 B = some n0 ∧ SD o n0 := by
  obtain ⟨⟨⟨a1, a2, a3, a4, a5⟩, a6, a7, a8, a9⟩, hCS⟩ := id hT
  have z0 : (0 : Int32).toInt = 0 := rfl
  have cS := clampI (x := S) (by omega)
  have cst := clampI (x := g32 o 8 1) a8
  have csz := clampI a1
  have iS : Int32.toNatClampNeg S = 25 + Int32.toNatClampNeg (g32 o 8 1) := by omega
  have i50 : (inb S 50) = true := inb_iff.mpr ⟨by omega, by omega⟩
  rw [F_Mod_readStatement_143]
  obtain ⟨m, q1, q2, q3, q4⟩ := m_readMark 61 (s32 B 3 0 ((g32 B 3 0) + (1 : Int32))) 0 (Int32.toNatClampNeg (g32 o 7 1)) 0 3 (by decide) (by omega) (by omega) (by rcases hB with h | h; exact Or.inl h.1; exact Or.inr h)
  rw [q1, bind1_s, i50, chk_tr]
  have fm : FR [3, 4] [] (bgn o S) m := FR.tr (hF.s (by decide)) q2
  have hm : (SX m 1 (Int32.toNatClampNeg (g32 o 7 1)) 0 ∧ 0 ≤ x5.toInt ∧ x5.toInt < 60) ∨ SF m 4 0 := by
    rcases hB with ⟨h, hx⟩ | h
    · rcases q3 h with q | q
      · exact Or.inl ⟨q, hx⟩
      · exact Or.inr (q.lo (by omega) (by omega))
    · exact Or.inr ((q4 h).lo (by omega) (by omega))
  have m5 : m.1 5 = o.1 5 := fm.1 5 (by decide)
  have m6 : m.1 6 = o.1 6 := fm.1 6 (by decide)
  have m7 : g32 m 7 1 = g32 o 7 1 := fm.g (by decide) 1
  have m8 : m.1 8 = o.1 8 := fm.1 8 (by decide)
  have m9 : m.1 9 = upd (o.1 9) (25 + Int32.toNatClampNeg (g32 o 8 1)) (g32 o 7 1) := by
    rw [fm.1 9 (by decide), ← iS]; rfl
  have m10 : m.1 10 = upd (o.1 10) (25 + Int32.toNatClampNeg (g32 o 8 1)) (-1) := by
    rw [fm.1 10 (by decide), ← iS]; rfl
  have lm : LOW o m := LOW.tr (bgn_low (by omega)) (LOW.ye (fx_34 fm).y a1)
  have lm2 : LOW o (s32 m 10 (Int32.toNatClampNeg S) x5) := LOW.tr lm (LOW.s10 (by omega))
  have g8 : g32 (s32 m 10 (Int32.toNatClampNeg S) x5) 8 1 = g32 o 8 1 := congrFun m8 1
  by_cases c : 0 ≤ (g32 m 4 0)
  · rw [if_pos c, m_rs189 S _ (by omega) (by omega)]
    have c := Int32.le_iff_toInt_le.mp c
    have hf : SF m 4 0 := by
      rcases hm with ⟨q, _⟩ | q
      · have := q.1.2; omega
      · exact q
    exact ⟨_, rfl, fin_bad (by omega) (by omega) lm2 g8 ⟨a8, hst⟩ hf⟩
  · rw [if_neg c]
    have c' : ¬ 0 ≤ (g32 m 4 0).toInt := fun z => c (Int32.le_iff_toInt_le.mpr (by rw [z0]; exact z))
    obtain ⟨hs, hx0, hx1⟩ : SX m 1 (Int32.toNatClampNeg (g32 o 7 1)) 0 ∧ 0 ≤ x5.toInt ∧ x5.toInt < 60 := by
      rcases hm with q | q
      · exact q
      · exact absurd q.2 c'
    have hs2 : SX (s32 m 10 (Int32.toNatClampNeg S) x5) 0 (Int32.toNatClampNeg (g32 o 7 1)) 0 := SX.lo (L := 1) hs (by omega)
    obtain ⟨p, p1, p2, p3⟩ := m_readChoice (Int32.toNatClampNeg (g32 o 7 1)) (s32 m 10 (Int32.toNatClampNeg S) x5) hs2 (CLO.nil (show (g32 m 7 1).toInt = _ by rw [m7]; omega))
    rw [p1, bind1_s, m_rs189 S _ (by omega) (by omega)]
    have lp : LOW o p := LOW.tr lm2 (LOW.ye p2 (show 0 ≤ (g32 m 7 1).toInt by rw [m7]; exact a1))
    have p8 : p.1 8 = o.1 8 := (p2.1.1 8 (by decide)).trans m8
    rcases p3 with ⟨ps, pc⟩ | pf
    · obtain ⟨⟨⟨l1, l3, l4, l5, l6⟩, lf⟩, d1, d2, d3, d4⟩ := id ps
      have p9 : p.1 9 = upd (o.1 9) (25 + Int32.toNatClampNeg (g32 o 8 1)) (g32 o 7 1) := (p2.1.1 9 (by decide)).trans m9
      have p10 : p.1 10 = upd (upd (o.1 10) (25 + Int32.toNatClampNeg (g32 o 8 1)) (-1)) (25 + Int32.toNatClampNeg (g32 o 8 1)) x5 := by
        rw [p2.1.1 10 (by decide)]
        show upd (m.1 10) (Int32.toNatClampNeg S) x5 = _
        rw [m10, iS]
      have pv : p.1 10 (25 + Int32.toNatClampNeg (g32 o 8 1)) = x5 := by rw [p10]; exact if_pos rfl
      have hg := fin_good (n := p) (S := S) hT hst hS p9 (fun k hk => by
        rw [p10]
        show (if k = 25 + Int32.toNatClampNeg (g32 o 8 1) then _ else upd (o.1 10) _ _ _) = _
        rw [if_neg (by omega)]
        exact if_neg (by omega)) p8 (fun k hk => by
        have q := p2.2.1 k (show (k : Int) < 500 + (g32 m 7 1).toInt by rw [m7]; exact hk)
        have e5 : (s32 m 10 (Int32.toNatClampNeg S) x5).1 5 k = o.1 5 k := congrFun m5 k
        have e6 : (s32 m 10 (Int32.toNatClampNeg S) x5).1 6 k = o.1 6 k := congrFun m6 k
        exact ⟨q.1.trans e5, q.2.trans e6⟩) (by
        have q := p2.2.2
        have e : (g32 (s32 m 10 (Int32.toNatClampNeg S) x5) 7 1) = g32 o 7 1 := m7
        rw [e] at q
        exact q) ⟨⟨by omega, l4, l5, l6⟩, lf⟩ (by omega) (by rw [pv]; exact stm_def ps pc hx0 hx1)
      exact ⟨_, rfl, fin_low (by omega) (by omega) lp, Or.inl hg.1, hg.2⟩
    · exact ⟨_, rfl, fin_bad (by omega) (by omega) lp (congrFun p8 1) ⟨a8, hst⟩ pf⟩
theorem m_readStatement (o : Ob) (hT : TS o) (hst : (g32 o 8 1).toInt < 24) : ∃ n0, F_Mod_readStatement o = some n0 ∧ SD o n0 := by
  obtain ⟨⟨⟨a1, a2, a3, a4, a5⟩, a6, a7, a8, a9⟩, hCS⟩ := id hT
  have z0 : (0 : Int32).toInt = 0 := rfl
  have z25 : (25 : Int32).toInt = 25 := rfl
  have z33 : (33 : Int32).toInt = 33 := rfl
  have z65 : (65 : Int32).toInt = 65 := rfl
  have z74 : (74 : Int32).toInt = 74 := rfl
  have hS : ((25 : Int32) + (g32 o 8 1)).toInt = 25 + (g32 o 8 1).toInt := by rw [tadd (by omega) (by omega), z25]
  obtain ⟨v3, e3, h3⟩ := m_here o (by omega) a5
  have i50 : (inb ((25 : Int32) + (g32 o 8 (Int32.toNatClampNeg (1 : Int32)))) 50) = true := inb_iff.mpr ⟨by show 0 ≤ ((25 : Int32) + (g32 o 8 1)).toInt; omega, by show ((25 : Int32) + (g32 o 8 1)).toInt < _; omega⟩
  rw [F_Mod_readStatement, show (inb (1 : Int32) 2) = true from by decide, chk_tr, e3, bind1_s, i50, chk_tr]
  show ∃ n0, (if v3 = (33 : Int32) then (bind1 (F_Mod_readExpression (s32 (bgn o ((25 : Int32) + (g32 o 8 1))) 3 0 ((g32 o 3 0) + (1 : Int32)))) (fun o_22 => bind1 (F_Mod_readCompare o_22) (fun o_24 => F_Mod_readStatement_189 ((25 : Int32) + (g32 o 8 1)) o_24))) else (if v3 < (65 : Int32) then (bind1 (F_Mod_failAt (g32 o 3 0) (bgn o ((25 : Int32) + (g32 o 8 1)))) (fun o_10 => F_Mod_readStatement_189 ((25 : Int32) + (g32 o 8 1)) o_10)) else (if (74 : Int32) < v3 then (bind1 (F_Mod_failAt (g32 o 3 0) (bgn o ((25 : Int32) + (g32 o 8 1)))) (fun o_13 => F_Mod_readStatement_189 ((25 : Int32) + (g32 o 8 1)) o_13)) else (bind1 (F_Mod_here (s32 (bgn o ((25 : Int32) + (g32 o 8 1))) 3 0 ((g32 o 3 0) + (1 : Int32)))) (fun v15 => bind1 (F_Mod_measureOf v15) (fun v17 => if 0 ≤ v17 then (F_Mod_readStatement_110 ((25 : Int32) + (g32 o 8 1)) v3 (g32 o 3 0) v17 (s32 (bgn o ((25 : Int32) + (g32 o 8 1))) 3 0 ((g32 o 3 0) + (1 : Int32)))) else (bind1 (F_Mod_failAt ((g32 o 3 0) + (1 : Int32)) (s32 (bgn o ((25 : Int32) + (g32 o 8 1))) 3 0 ((g32 o 3 0) + (1 : Int32)))) (fun o_20 => F_Mod_readStatement_110 ((25 : Int32) + (g32 o 8 1)) v3 (g32 o 3 0) v17 o_20)))))))) = some n0 ∧ SD o n0
  generalize hSe : (25 : Int32) + (g32 o 8 1) = S at hS
  have b0 := bgn_SX (S := S) hT.1
  have bl := bgn_low (o := o) (S := S) (by omega)
  have cS := clampI (x := S) (by omega)
  have cst := clampI (x := g32 o 8 1) a8
  have csz := clampI a1
  have iS : Int32.toNatClampNeg S = 25 + Int32.toNatClampNeg (g32 o 8 1) := by omega
  have e1 := add1 (x := g32 o 3 0) (by omega)
  have fail : ∃ n0, bind1 (F_Mod_failAt (g32 o 3 0) (bgn o S)) (fun o_10 => F_Mod_readStatement_189 S o_10) = some n0 ∧ SD o n0 := by
    obtain ⟨v, ev, hv⟩ := m_failAt (g32 o 3 0) (bgn o S) (by omega)
    rw [ev, bind1_s, m_rs189 S _ (by omega) (by omega)]
    exact ⟨_, rfl, fin_bad (by omega) (by omega) (LOW.tr bl (LOW.s34 (by decide))) rfl ⟨a8, hst⟩ ((b0.fail hv).lo (by omega) (by omega))⟩
  by_cases c : v3 = (33 : Int32)
  · rw [if_pos c]
    have ha : (g32 o 3 0).toInt < (g32 o 2 0).toInt := by
      have : v3.toInt = 33 := by rw [c]; rfl
      rcases h3 with ⟨q1, q2⟩ | ⟨q1, q2⟩ <;> omega
    have s1 : SX (s32 (bgn o S) 3 0 ((g32 o 3 0) + (1 : Int32))) 1 (Int32.toNatClampNeg (g32 o 7 1)) 0 := SX.step (L := 0) b0 ha
    obtain ⟨m, q1, q2, q3⟩ := m_readExpression (s32 (bgn o S) 3 0 ((g32 o 3 0) + (1 : Int32))) 0 (Int32.toNatClampNeg (g32 o 7 1)) 0 (by omega) (by omega) (s1.lo (by omega))
    rw [q1, bind1_s]
    obtain ⟨p, p1, p2, p3⟩ := m_readCompare m 0 (Int32.toNatClampNeg (g32 o 7 1)) (by omega) q3
    rw [p1, bind1_s, m_rs189 S _ (by omega) (by omega)]
    have ym : YE (s32 (bgn o S) 3 0 ((g32 o 3 0) + (1 : Int32))) p := YE.tr q2.y p2
    have lp : LOW o p := LOW.tr bl (LOW.tr (LOW.s34 (by decide)) (LOW.ye ym a1))
    have p8 : p.1 8 = o.1 8 := ym.1.1 8 (by decide)
    rcases p3 with ⟨w, v, w1, w2, w3⟩ | pf
    · have p9 : p.1 9 = upd (o.1 9) (25 + Int32.toNatClampNeg (g32 o 8 1)) (g32 o 7 1) := by
        rw [ym.1.1 9 (by decide), ← iS]; rfl
      have p10 : p.1 10 = upd (o.1 10) (25 + Int32.toNatClampNeg (g32 o 8 1)) (-1) := by
        rw [ym.1.1 10 (by decide), ← iS]; rfl
      have pv : (p.1 10 (25 + Int32.toNatClampNeg (g32 o 8 1))).toInt = -1 := by
        rw [p10]
        have e : upd (o.1 10) (25 + Int32.toNatClampNeg (g32 o 8 1)) (-1) (25 + Int32.toNatClampNeg (g32 o 8 1)) = -1 := if_pos rfl
        rw [e]; rfl
      have hx : XE (s32 (bgn o S) 3 0 ((g32 o 3 0) + (1 : Int32))) w := XE.tr q2 w1
      have ps : SX p 0 (Int32.toNatClampNeg (g32 o 7 1)) 0 := by rw [w3]; exact SX.c9 (L := 0) w2 (by omega)
      obtain ⟨⟨⟨l1, l3, l4, l5, l6⟩, lf⟩, d1, d2, d3, d4⟩ := id ps
      have hg := fin_good (n := p) (S := S) hT hst hS p9 (fun k hk => by rw [p10]; exact if_neg (by omega)) p8 (fun k hk => ym.2.1 k hk) ym.2.2 ⟨⟨by omega, l4, l5, l6⟩, lf⟩ (by omega) (by
        rw [pv, w3]
        exact stm_lim hx (show (g32 o 7 1).toInt = _ by omega) w2)
      exact ⟨_, rfl, fin_low (by omega) (by omega) lp, Or.inl hg.1, hg.2⟩
    · exact ⟨_, rfl, fin_bad (by omega) (by omega) lp (congrFun p8 1) ⟨a8, hst⟩ (pf.lo (by omega) (by omega))⟩
  rw [if_neg c]
  by_cases d : v3 < (65 : Int32)
  · rw [if_pos d]; exact fail
  rw [if_neg d]
  have d : ¬ v3.toInt < 65 := fun z => d (Int32.lt_iff_toInt_lt.mpr (by omega))
  by_cases f : (74 : Int32) < v3
  · rw [if_pos f]; exact fail
  rw [if_neg f]
  have f : ¬ 74 < v3.toInt := fun z => f (Int32.lt_iff_toInt_lt.mpr (by omega))
  have ha : (g32 o 3 0).toInt < (g32 o 2 0).toInt := by rcases h3 with ⟨q1, q2⟩ | ⟨q1, q2⟩ <;> omega
  have s1 : SX (s32 (bgn o S) 3 0 ((g32 o 3 0) + (1 : Int32))) 1 (Int32.toNatClampNeg (g32 o 7 1)) 0 := SX.step (L := 0) b0 ha
  have f1 : FR [3, 4] [] (bgn o S) (s32 (bgn o S) 3 0 ((g32 o 3 0) + (1 : Int32))) := FR.s FR.refl (by decide)
  obtain ⟨v15, e15, h15⟩ := m_here (s32 (bgn o S) 3 0 ((g32 o 3 0) + (1 : Int32))) (by show 0 ≤ ((g32 o 3 0) + (1 : Int32)).toInt; omega) a5
  have h15 : ((g32 o 2 0).toInt ≤ ((g32 o 3 0) + (1 : Int32)).toInt ∧ v15.toInt = -1) ∨ (((g32 o 3 0) + (1 : Int32)).toInt < (g32 o 2 0).toInt ∧ v15 = g32 o 1 (Int32.toNatClampNeg ((g32 o 3 0) + (1 : Int32)))) := h15
  rw [e15, bind1_s]
  obtain ⟨v17, r1, r2, r3, r4⟩ := m_measureOf v15
  rw [r1, bind1_s]
  have es : (v3 - (65 : Int32)).toInt = v3.toInt - 65 := by rw [tsub (by omega) (by omega), z65]
  by_cases g : 0 ≤ v17
  · rw [if_pos g]
    have g := Int32.le_iff_toInt_le.mp g
    have at2 : ((g32 o 3 0) + (1 : Int32)).toInt < (g32 o 2 0).toInt := by
      have := r4 (by omega)
      rcases h15 with ⟨q1, q2⟩ | ⟨q1, q2⟩ <;> omega
    have ec := cellno (p := v3 - (65 : Int32)) (m := v17) (by omega) (by omega) (by omega) (by omega)
    rw [F_Mod_readStatement_110, if_neg (fun z => by have z2 : (0 : Int32).toInt ≤ (g32 o 4 0).toInt := Int32.le_iff_toInt_le.mp z; omega)]
    obtain ⟨v34, e34⟩ := m_isDefined_4 (s32 (bgn o S) 3 0 ((g32 o 3 0) + (1 : Int32))) (show (g32 o 8 1).toInt ≤ 24 by omega) fuel (((6 : Int32) * (v3 - (65 : Int32))) + v17) 0 0 (by omega) (by omega) (by omega) (by rw [fuel_eq]; omega)
    rw [F_Mod_isDefined, e34, bind1_s]
    have s2 : SX (s32 (s32 (bgn o S) 3 0 ((g32 o 3 0) + (1 : Int32))) 3 0 ((g32 (s32 (bgn o S) 3 0 ((g32 o 3 0) + (1 : Int32))) 3 0) + (1 : Int32))) 2 (Int32.toNatClampNeg (g32 o 7 1)) 0 := SX.step (L := 1) s1 at2
    by_cases w : (b2i v34) = 0
    · rw [if_pos w]
      exact m_rs143 o _ S _ hT hst hS f1 (Or.inl ⟨s2.lo (by omega), by omega, by omega⟩)
    · rw [if_neg w]
      obtain ⟨v, ev, hv⟩ := m_failAt (g32 o 3 0) (s32 (bgn o S) 3 0 ((g32 o 3 0) + (1 : Int32))) (by omega)
      rw [ev, bind1_s]
      exact m_rs143 o _ S _ hT hst hS (f1.s (by decide)) (Or.inr (SF.lo (SF.step (SX.fail s1 hv) (by omega)) (by omega) (by omega)))
  · rw [if_neg g]
    obtain ⟨v, ev, hv⟩ := m_failAt ((g32 o 3 0) + (1 : Int32)) (s32 (bgn o S) 3 0 ((g32 o 3 0) + (1 : Int32))) (by omega)
    rw [ev, bind1_s, F_Mod_readStatement_110, if_pos (Int32.le_iff_toInt_le.mpr (by rw [z0]; exact hv))]
    exact m_rs143 o _ S _ hT hst hS (f1.s (by decide)) (Or.inr (SF.lo (SF.step (SX.fail s1 hv) (by omega)) (by omega) (by omega)))
