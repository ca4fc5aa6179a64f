/-! THE REFERENCE: cells, factors, operators, expressions -/
theorem m_measureOf (x : Int32) : ∃ r, F_Mod_measureOf x = some r ∧ -1 ≤ r.toInt ∧ r.toInt ≤ 5 ∧ (0 ≤ r.toInt → 100 ≤ x.toInt) := by
  rw [F_Mod_measureOf]
  by_cases c1 : x = 100
  · rw [if_pos c1, c1]; exact ⟨_, rfl, by decide, by decide, fun _ => by decide⟩
  rw [if_neg c1]
  by_cases c2 : x = 104
  · rw [if_pos c2, c2]; exact ⟨_, rfl, by decide, by decide, fun _ => by decide⟩
  rw [if_neg c2]
  by_cases c3 : x = 119
  · rw [if_pos c3, c3]; exact ⟨_, rfl, by decide, by decide, fun _ => by decide⟩
  rw [if_neg c3]
  by_cases c4 : x = 120
  · rw [if_pos c4, c4]; exact ⟨_, rfl, by decide, by decide, fun _ => by decide⟩
  rw [if_neg c4]
  by_cases c5 : x = 121
  · rw [if_pos c5, c5]; exact ⟨_, rfl, by decide, by decide, fun _ => by decide⟩
  rw [if_neg c5]
  by_cases c6 : x = 122
  · rw [if_pos c6, c6]; exact ⟨_, rfl, by decide, by decide, fun _ => by decide⟩
  rw [if_neg c6]
  exact ⟨_, rfl, by decide, by decide, fun h => absurd h (by decide)⟩
theorem wt_2 {s a : Int32} (h : s.toInt = 2) : wt s a = 1 := by unfold wt; rw [if_neg (by omega), if_pos h]
theorem wt_3 {s a : Int32} (h : s.toInt = 3) : wt s a = 2 := by unfold wt; rw [if_neg (by omega), if_neg (by omega), if_pos h]
theorem m_readCell (x1 : Int32) (o : Ob) (L : Int) (b : Nat) (bd dp : Int) (hbd : 0 ≤ bd) (hL : 0 ≤ L) (h : EX o L b bd 0 dp) (h1 : (g32 o 3 0).toInt < (g32 o 2 0).toInt) (h2 : 65 ≤ x1.toInt) (h3 : x1.toInt ≤ 74) : ∃ n0, F_Mod_readCell x1 o = some n0 ∧ PX o n0 L b bd 1 dp := by
  obtain ⟨⟨⟨l1, l2, l3, l4, l5, l6⟩, lf⟩, hJ, hc⟩ := id h
  have z3 : (3 : Int32).toInt = 3 := rfl
  have z65 : (65 : Int32).toInt = 65 := rfl
  have z0 : (0 : Int32).toInt = 0 := rfl
  have e3 := add1 (x := g32 o 3 0) (by omega)
  have e4 := add1 (x := (g32 o 3 0) + (1 : Int32)) (by omega)
  rw [F_Mod_readCell]
  obtain ⟨v2, q1, q2⟩ := m_here (s32 o 3 0 ((g32 o 3 0) + (1 : Int32))) (by show 0 ≤ ((g32 o 3 0) + (1 : Int32)).toInt; omega) l6
  have q2 : ((g32 o 2 0).toInt ≤ ((g32 o 3 0) + (1 : Int32)).toInt ∧ v2.toInt = -1) ∨ (((g32 o 3 0) + (1 : Int32)).toInt < (g32 o 2 0).toInt ∧ v2 = g32 o 1 (Int32.toNatClampNeg ((g32 o 3 0) + (1 : Int32)))) := q2
  rw [q1, bind1_s]
  obtain ⟨v4, r1, r2, r3, r4⟩ := m_measureOf v2
  rw [r1, bind1_s]
  have es : (x1 - (65 : Int32)).toInt = x1.toInt - 65 := by rw [tsub (by omega) (by omega), z65]
  by_cases c : 0 ≤ v4
  · rw [if_pos c]
    have c := Int32.le_iff_toInt_le.mp c
    have at2 : ((g32 o 3 0) + (1 : Int32)).toInt < (g32 o 2 0).toInt := by
      have := r4 (by omega)
      rcases q2 with ⟨a1, a2⟩ | ⟨a1, a2⟩ <;> omega
    have ec := cellno (p := x1 - (65 : Int32)) (m := v4) (by omega) (by omega) (by omega) (by omega)
    rw [F_Mod_readCell_30, m_emit 3 _ (s32 (s32 o 3 0 ((g32 o 3 0) + (1 : Int32))) 3 0 ((g32 (s32 o 3 0 ((g32 o 3 0) + (1 : Int32))) 3 0) + (1 : Int32))) l1 (show (g32 o 7 1).toInt < 500 by omega), bind1_s]
    have q : EX (em (s32 o 3 0 (((g32 o 3 0) + (1 : Int32)) + (1 : Int32))) 3 (((6 : Int32) * (x1 - (65 : Int32))) + v4)) L b bd 1 dp := EX.oper h hbd (by omega) (by omega) (by omega) (by omega) ⟨fun z => by omega, fun z => by omega, fun _ => by omega⟩ (by rw [wt_3 z3]; omega) hL
    exact PX.ef hbd hL (XE.e (XE.s (XE.s XE.refl (by decide)) (by decide)) l1 (show (g32 o 7 1).toInt < 500 by omega) (by omega)) (Or.inl ⟨q, show (g32 o 3 0).toInt < (((g32 o 3 0) + (1 : Int32)) + (1 : Int32)).toInt by omega⟩)
  · rw [if_neg c]
    obtain ⟨w, ew, hw⟩ := m_failAt ((g32 o 3 0) + (1 : Int32)) (s32 o 3 0 ((g32 o 3 0) + (1 : Int32))) (by omega)
    rw [ew, bind1_s, F_Mod_readCell_30, m_emit 3 _ (s32 (s32 (s32 o 3 0 ((g32 o 3 0) + (1 : Int32))) 4 0 w) 3 0 ((g32 (s32 (s32 o 3 0 ((g32 o 3 0) + (1 : Int32))) 4 0 w) 3 0) + (1 : Int32))) l1 (show (g32 o 7 1).toInt < 500 by omega), bind1_s]
    refine PX.ef hbd hL (XE.e (XE.s (XE.s (XE.s XE.refl (by decide)) (by decide)) (by decide)) l1 (show (g32 o 7 1).toInt < 500 by omega) (by omega)) (Or.inr (EF.oper (K := 1) (L := L) ⟨⟨l1, l2, ?_, ?_, l5, l6⟩, hw⟩ (by omega) hL))
    · show (g32 o 7 1).toInt + (g32 o 14 0).toInt + (L + 1) ≤ (((g32 o 3 0) + (1 : Int32)) + (1 : Int32)).toInt; omega
    · show (((g32 o 3 0) + (1 : Int32)) + (1 : Int32)).toInt ≤ (g32 o 2 0).toInt + 1; omega
/-- an operator goes on top -/
def pu (o : Ob) (x : Int32) : Ob := s32 (s32 (s32 o 13 (Int32.toNatClampNeg (g32 o 14 0)) x) 14 0 ((g32 o 14 0) + (1 : Int32))) 3 0 ((g32 o 3 0) + (1 : Int32))
theorem m_push (x : Int32) (o : Ob) (h0 : 0 ≤ (g32 o 14 0).toInt) (h1 : (g32 o 14 0).toInt < 420) : F_Mod_push x o = some (pu o x) := by
  rw [F_Mod_push, show (inb (g32 o 14 0) 420) = true from inb_iff.mpr ⟨h0, by omega⟩, chk_tr]
  rfl
theorem XE.pu {o : Ob} {x : Int32} : XE o (pu o x) := XE.s (XE.s (XE.s XE.refl (by decide)) (by decide)) (by decide)
theorem EX.pushp {o : Ob} {L : Int} {b : Nat} {bd dp : Int} {x : Int32} (h : EX o L b bd 0 dp) (hL : 0 ≤ L) (h1 : (g32 o 3 0).toInt < (g32 o 2 0).toInt) (hx : x.toInt = 4 ∨ x.toInt = 11) : EX (pu o x) L b bd 0 (dp + (if x.toInt = 11 then 1 else 0)) := by
  obtain ⟨⟨⟨l1, l2, l3, l4, l5, l6⟩, lf⟩, hJ, hc⟩ := h
  have e := add1 (x := g32 o 14 0) (by omega)
  have e3 := add1 (x := g32 o 3 0) (by omega)
  have cs := clampS (x := g32 o 14 0) l2 (by omega)
  refine ⟨⟨⟨l1, ?_, ?_, ?_, l5, l6⟩, lf⟩, ?_, ?_⟩
  · show 0 ≤ ((g32 o 14 0) + (1 : Int32)).toInt; omega
  · show (g32 o 7 1).toInt + ((g32 o 14 0) + (1 : Int32)).toInt + L ≤ ((g32 o 3 0) + (1 : Int32)).toInt; omega
  · show ((g32 o 3 0) + (1 : Int32)).toInt ≤ (g32 o 2 0).toInt + 0; omega
  · have q := (hJ.pushp hx).mono (A' := 2 * ((g32 o 3 0) + (1 : Int32)).toInt) (by omega)
    show DJ (o.1 5) (o.1 6) (upd (o.1 13) (Int32.toNatClampNeg (g32 o 14 0)) x) b (Int32.toNatClampNeg (g32 o 7 1)) (Int32.toNatClampNeg ((g32 o 14 0) + (1 : Int32))) bd 0 (2 * ((g32 o 3 0) + (1 : Int32)).toInt)
    rw [cs]; exact q
  · show cnt (upd (o.1 13) (Int32.toNatClampNeg (g32 o 14 0)) x) 11 (Int32.toNatClampNeg ((g32 o 14 0) + (1 : Int32))) = _
    rw [cs, cnt_push, hc]
    by_cases c : x.toInt = 11
    · rw [if_pos c, if_pos (Int32.toInt_inj.mp c)]
    · rw [if_neg c, if_neg (fun z => c (by rw [z]; rfl))]
theorem EX.pushb {o : Ob} {L : Int} {b : Nat} {bd dp : Int} {x : Int32} (h : EX o L b bd 1 dp) (hL : 0 ≤ L) (h1 : (g32 o 3 0).toInt < (g32 o 2 0).toInt) (hx : 5 ≤ x.toInt) (hx2 : x.toInt ≤ 8) : EX (pu o x) L b bd 0 dp := by
  obtain ⟨⟨⟨l1, l2, l3, l4, l5, l6⟩, lf⟩, hJ, hc⟩ := h
  have e := add1 (x := g32 o 14 0) (by omega)
  have e3 := add1 (x := g32 o 3 0) (by omega)
  have cs := clampS (x := g32 o 14 0) l2 (by omega)
  refine ⟨⟨⟨l1, ?_, ?_, ?_, l5, l6⟩, lf⟩, ?_, ?_⟩
  · show 0 ≤ ((g32 o 14 0) + (1 : Int32)).toInt; omega
  · show (g32 o 7 1).toInt + ((g32 o 14 0) + (1 : Int32)).toInt + L ≤ ((g32 o 3 0) + (1 : Int32)).toInt; omega
  · show ((g32 o 3 0) + (1 : Int32)).toInt ≤ (g32 o 2 0).toInt + 0; omega
  · have q := (hJ.pushb hx hx2).mono (A' := 2 * ((g32 o 3 0) + (1 : Int32)).toInt) (by omega)
    show DJ (o.1 5) (o.1 6) (upd (o.1 13) (Int32.toNatClampNeg (g32 o 14 0)) x) b (Int32.toNatClampNeg (g32 o 7 1)) (Int32.toNatClampNeg ((g32 o 14 0) + (1 : Int32))) bd 0 (2 * ((g32 o 3 0) + (1 : Int32)).toInt)
    rw [cs]; exact q
  · show cnt (upd (o.1 13) (Int32.toNatClampNeg (g32 o 14 0)) x) 11 (Int32.toNatClampNeg ((g32 o 14 0) + (1 : Int32))) = _
    rw [cs, cnt_push, hc, if_neg (fun z => by rw [z] at hx2; exact absurd hx2 (by decide))]
    omega
def HR (o : Ob) (x : Int32) : Prop := ((g32 o 2 0).toInt ≤ (g32 o 3 0).toInt ∧ x.toInt = -1) ∨ ((g32 o 3 0).toInt < (g32 o 2 0).toInt ∧ x = g32 o 1 (Int32.toNatClampNeg (g32 o 3 0)))
def FX (o : Ob) (x1 : Int32) (L : Int) (b : Nat) (bd dp : Int) (r : Bool) (n : Ob) : Prop := XE o n ∧ ((EX n L b bd (b2i r).toInt (dp + (if x1.toInt = 40 then 1 else 0)) ∧ (g32 o 3 0).toInt < (g32 n 3 0).toInt) ∨ EF n 1 L)
theorem m_readFactor_69 (x1 x2 : Int32) (o : Ob) (L : Int) (b : Nat) (bd dp : Int) (hL : 0 ≤ L) (h : EX o L b bd 0 dp) (hh : HR o x1) : ∃ (r : Bool) (n0 : Ob), F_Mod_readFactor_69 x1 x2 o = some (r, n0) ∧ FX o x1 L b bd dp r n0 := by
  obtain ⟨⟨⟨l1, l2, l3, l4, l5, l6⟩, lf⟩, hJ, hc⟩ := id h
  have z4 : (4 : Int32).toInt = 4 := rfl
  have z11 : (11 : Int32).toInt = 11 := rfl
  have e3 := add1 (x := g32 o 3 0) (by omega)
  have fail : ∃ (r : Bool) (n0 : Ob), bind1 (F_Mod_failAt (g32 o 3 0) o) (fun o_26 => some (false, o_26)) = some (r, n0) ∧ FX o x1 L b bd dp r n0 := by
    obtain ⟨w, ew, hw⟩ := m_failAt (g32 o 3 0) o (by omega)
    rw [ew, bind1_s]
    exact ⟨false, _, rfl, XE.s XE.refl (by decide), Or.inr ⟨⟨l1, l2, l3, show (g32 o 3 0).toInt ≤ (g32 o 2 0).toInt + 1 by omega, l5, l6⟩, hw⟩⟩
  rw [F_Mod_readFactor_69]
  by_cases c : x1 = (45 : Int32)
  · rw [if_pos c]
    have cx : x1.toInt = 45 := by rw [c]; rfl
    have ha : (g32 o 3 0).toInt < (g32 o 2 0).toInt := by rcases hh with ⟨a1, a2⟩ | ⟨a1, a2⟩ <;> omega
    rw [m_push 4 o l2 (by omega), bind1_s]
    have q := EX.pushp (x := 4) h hL ha (Or.inl z4)
    rw [if_neg (by omega)] at q
    exact ⟨false, _, rfl, XE.pu, Or.inl ⟨by rw [if_neg (by omega)]; exact q, show (g32 o 3 0).toInt < ((g32 o 3 0) + (1 : Int32)).toInt by omega⟩⟩
  rw [if_neg c]
  by_cases d : x1 = (40 : Int32)
  · rw [if_pos d]
    have cx : x1.toInt = 40 := by rw [d]; rfl
    by_cases f : (8 : Int32) ≤ x2
    · rw [if_pos f]; exact fail
    rw [if_neg f]
    have ha : (g32 o 3 0).toInt < (g32 o 2 0).toInt := by rcases hh with ⟨a1, a2⟩ | ⟨a1, a2⟩ <;> omega
    rw [m_push 11 o l2 (by omega), bind1_s]
    have q := EX.pushp (x := 11) h hL ha (Or.inr z11)
    rw [if_pos z11] at q
    exact ⟨false, _, rfl, XE.pu, Or.inl ⟨by rw [if_pos cx]; exact q, show (g32 o 3 0).toInt < ((g32 o 3 0) + (1 : Int32)).toInt by omega⟩⟩
  · rw [if_neg d]; exact fail
theorem m_readFactor (x1 x2 : Int32) (o : Ob) (L : Int) (b : Nat) (bd dp : Int) (hbd : 0 ≤ bd) (hL : 0 ≤ L) (h : EX o L b bd 0 dp) (hh : HR o x1) : ∃ (r : Bool) (n0 : Ob), F_Mod_readFactor x1 x2 o = some (r, n0) ∧ FX o x1 L b bd dp r n0 := by
  obtain ⟨⟨⟨l1, l2, l3, l4, l5, l6⟩, lf⟩, hJ, hc⟩ := id h
  have z97 : (97 : Int32).toInt = 97 := rfl
  have z104 : (104 : Int32).toInt = 104 := rfl
  have z65 : (65 : Int32).toInt = 65 := rfl
  have z74 : (74 : Int32).toInt = 74 := rfl
  have z2 : (2 : Int32).toInt = 2 := rfl
  have lift : ∀ n0, x1.toInt ≠ 40 → PX o n0 L b bd 1 dp → FX o x1 L b bd dp true n0 := by
    intro n0 hx hp
    refine ⟨hp.1, ?_⟩
    rw [if_neg hx, Int.add_zero]
    exact hp.2
  have six := m_readFactor_69 x1 x2 o L b bd dp hL h hh
  have cell : 65 ≤ x1.toInt → x1.toInt ≤ 74 → ∃ (r : Bool) (n0 : Ob), bind1 (F_Mod_readCell x1 o) (fun o_8 => some (true, o_8)) = some (r, n0) ∧ FX o x1 L b bd dp r n0 := by
    intro a1 a2
    have ha : (g32 o 3 0).toInt < (g32 o 2 0).toInt := by rcases hh with ⟨b1, b2⟩ | ⟨b1, b2⟩ <;> omega
    obtain ⟨n0, q1, q2⟩ := m_readCell x1 o L b bd dp hbd hL h ha a1 a2
    rw [q1, bind1_s]
    exact ⟨true, n0, rfl, lift n0 (by omega) q2⟩
  have two : ∃ (r : Bool) (n0 : Ob), (if x1 < (65 : Int32) then (F_Mod_readFactor_69 x1 x2 o) else (if (74 : Int32) < x1 then (F_Mod_readFactor_69 x1 x2 o) else (bind1 (F_Mod_readCell x1 o) (fun o_8 => some (true, o_8))))) = some (r, n0) ∧ FX o x1 L b bd dp r n0 := by
    by_cases c : x1 < (65 : Int32)
    · rw [if_pos c]; exact six
    rw [if_neg c]
    have c : ¬ x1.toInt < 65 := fun z => c (Int32.lt_iff_toInt_lt.mpr (by omega))
    by_cases d : (74 : Int32) < x1
    · rw [if_pos d]; exact six
    rw [if_neg d]
    have d : ¬ 74 < x1.toInt := fun z => d (Int32.lt_iff_toInt_lt.mpr (by omega))
    exact cell (by omega) (by omega)
  rw [F_Mod_readFactor]
  obtain ⟨v2, e2, t2, f2⟩ := m_isDigit x1
  rw [e2, bind1_s]
  by_cases c : (b2i v2) = 0
  · rw [if_pos c]
    by_cases d : x1 < (97 : Int32)
    · rw [if_pos d]; exact two
    rw [if_neg d]
    have d : ¬ x1.toInt < 97 := fun z => d (Int32.lt_iff_toInt_lt.mpr (by omega))
    by_cases f : (104 : Int32) < x1
    · rw [if_pos f]; exact two
    rw [if_neg f]
    have f : ¬ 104 < x1.toInt := fun z => f (Int32.lt_iff_toInt_lt.mpr (by omega))
    have ha : (g32 o 3 0).toInt < (g32 o 2 0).toInt := by rcases hh with ⟨b1, b2⟩ | ⟨b1, b2⟩ <;> omega
    have e3 := add1 (x := g32 o 3 0) (by omega)
    have es : (x1 - (97 : Int32)).toInt = x1.toInt - 97 := by rw [tsub (by omega) (by omega), z97]
    rw [m_emit 2 _ (s32 o 3 0 ((g32 o 3 0) + (1 : Int32))) l1 (show (g32 o 7 1).toInt < 500 by omega), bind1_s]
    have q : EX (em (s32 o 3 0 ((g32 o 3 0) + (1 : Int32))) 2 (x1 - (97 : Int32))) L b bd 1 dp := EX.oper h hbd (by omega) (by omega) (by omega) (by omega) ⟨fun z => by omega, fun _ => by omega, fun z => by omega⟩ (by rw [wt_2 z2]; omega) hL
    obtain ⟨n0, p1, p2⟩ := PX.ef hbd hL (XE.e (a := x1 - (97 : Int32)) (s := 2) (XE.s (v := (g32 o 3 0) + (1 : Int32)) (i := 0) (k := 3) (XE.refl (o := o)) (by decide)) l1 (show (g32 o 7 1).toInt < 500 by omega) (by omega)) (Or.inl ⟨q, show (g32 o 3 0).toInt < ((g32 o 3 0) + (1 : Int32)).toInt by omega⟩)
    obtain ⟨m, e5, _⟩ := m_endFactor L b bd dp hbd hL _ (Or.inl q)
    rw [e5, bind1_s] at p1
    rw [e5, bind1_s]
    have em0 : m = n0 := Option.some.inj p1
    exact ⟨true, m, rfl, lift m (by omega) (by rw [em0]; exact p2)⟩
  · rw [if_neg c]
    have c := t2 (b2i_1 c)
    obtain ⟨ha, hx⟩ : (g32 o 3 0).toInt < (g32 o 2 0).toInt ∧ x1 = g32 o 1 (Int32.toNatClampNeg (g32 o 3 0)) := by
      rcases hh with ⟨b1, b2⟩ | hb
      · omega
      · exact hb
    obtain ⟨n0, q1, q2⟩ := m_readNumber o L b bd dp hbd hL h ha (by rw [← hx]; exact c.1) (by rw [← hx]; exact c.2)
    rw [q1, bind1_s]
    exact ⟨true, n0, rfl, lift n0 (by omega) q2⟩
theorem XE.pop {o : Ob} (l1 : 0 ≤ (g32 o 7 1).toInt) (l2 : (g32 o 7 1).toInt < 500) (hs : (g32 o 13 (Int32.toNatClampNeg ((g32 o 14 0) - (1 : Int32)))).toInt ≤ 8) : XE o (em (s32 o 14 0 ((g32 o 14 0) - (1 : Int32))) (g32 o 13 (Int32.toNatClampNeg ((g32 o 14 0) - (1 : Int32)))) 0) := by
  have q : XE o (s32 o 14 0 ((g32 o 14 0) - (1 : Int32))) := XE.s XE.refl (by decide)
  exact XE.e q l1 l2 hs
theorem m_operator_0 (L : Int) (b : Nat) (bd dp : Int) (hbd : 0 ≤ bd) (hL : 0 ≤ L) (x1 x2 : Int32) (h1 : 5 ≤ x1.toInt) (h1b : x1.toInt ≤ 8) : ∀ (n : Nat) (o : Ob), EX o L b bd 1 dp → (g32 o 3 0).toInt < (g32 o 2 0).toInt → (g32 o 14 0).toInt < (n : Int) → ∃ n0, F_Mod_operator_0 n x1 x2 o = some n0 ∧ XE o n0 ∧ EX n0 L b bd 0 dp ∧ (g32 o 3 0).toInt < (g32 n0 3 0).toInt := by
  intro n
  induction n with
  | zero => intro o h _ hn; exfalso; have := h.1.1.2.1; omega
  | succ n ih =>
    intro o h ha hn
    obtain ⟨⟨⟨l1, l2, l3, l4, l5, l6⟩, lf⟩, hJ, hc⟩ := id h
    have z8 : (8 : Int32).toInt = 8 := rfl
    have e3 := add1 (x := g32 o 3 0) (by omega)
    rw [F_Mod_operator_0]
    obtain ⟨r, er, rt, rf⟩ := m_isWaiting x2 8 o (by omega)
    rw [er, bind1_s]
    by_cases c : (b2i r) = 0
    · rw [if_pos c, m_push x1 o l2 (by omega), bind1_s]
      exact ⟨_, rfl, XE.pu, EX.pushb h hL ha h1 h1b, show (g32 o 3 0).toInt < ((g32 o 3 0) + (1 : Int32)).toInt by omega⟩
    · rw [if_neg c]
      obtain ⟨w1, w2, w3⟩ := rt (b2i_1 c)
      have e2 := sub1 (x := g32 o 14 0) (by omega)
      rw [m_pop o l1 (by omega) w1 (by omega), bind1_s]
      obtain ⟨n0, q1, q2, q3, q4⟩ := ih _ (h.pop hbd hL w1 (by omega)) ha (by show ((g32 o 14 0) - (1 : Int32)).toInt < (n : Int); omega)
      exact ⟨n0, q1, XE.tr (XE.pop l1 (by omega) (by omega)) q2, q3, q4⟩
theorem m_operator (L : Int) (b : Nat) (bd dp : Int) (hbd : 0 ≤ bd) (hL : 0 ≤ L) (x1 x2 : Int32) (h1 : 5 ≤ x1.toInt) (h1b : x1.toInt ≤ 8) (o : Ob) (h : EX o L b bd 1 dp) (ha : (g32 o 3 0).toInt < (g32 o 2 0).toInt) : ∃ n0, F_Mod_operator x1 x2 o = some n0 ∧ XE o n0 ∧ EX n0 L b bd 0 dp ∧ (g32 o 3 0).toInt < (g32 n0 3 0).toInt := by
  obtain ⟨⟨⟨l1, l2, l3, l4, l5, l6⟩, lf⟩, _⟩ := id h
  exact m_operator_0 L b bd dp hbd hL x1 x2 h1 h1b fuel o h ha (by rw [fuel_eq]; omega)
theorem cnt_zero {f : Nat → Int32} {v : Int32} : ∀ n, cnt f v n = 0 → ∀ j, j < n → ¬ f j = v
  | 0, _, j, hj => by omega
  | n + 1, h, j, hj => by
    have h : cnt f v n + (if f n = v then 1 else 0) = 0 := h
    have q := cnt_0le f v n
    by_cases c : f n = v
    · rw [if_pos c] at h; omega
    · rw [if_neg c] at h
      by_cases d : j = n
      · rw [d]; exact c
      · exact cnt_zero n (by omega) j (by omega)
theorem m_readExpression_213 (L : Int) (b : Nat) (bd : Int) (hbd : 0 ≤ bd) (hL : 0 ≤ L) : ∀ (n : Nat) (o : Ob), (EX o L b bd 1 0 ∨ EF o 1 L) → (g32 o 14 0).toInt < (n : Int) → ∃ n0, F_Mod_readExpression_213 n o = some n0 ∧ XE o n0 ∧ ((EX n0 L b bd 1 0 ∧ (g32 n0 14 0).toInt = 0) ∨ EF n0 1 L) := by
  intro n
  induction n with
  | zero => intro o hh hn; exfalso; rcases hh with h | h; (have := h.1.1.2.1; omega); (have := h.1.2.1; omega)
  | succ n ih =>
    intro o hh hn
    have z0 : (0 : Int32).toInt = 0 := rfl
    rw [F_Mod_readExpression_213]
    rcases hh with h | h
    · obtain ⟨⟨⟨l1, l2, l3, l4, l5, l6⟩, lf⟩, hJ, hc⟩ := id h
      by_cases c : (g32 o 14 0) ≤ 0
      · rw [if_pos c]
        have c := le0 c
        exact ⟨o, rfl, XE.refl, Or.inl ⟨h, by omega⟩⟩
      rw [if_neg c, if_neg (fun z => by have := Int32.le_iff_toInt_le.mp z; omega)]
      have c := nle0 c
      have e2 := sub1 (x := g32 o 14 0) (by omega)
      have ci := clampI (x := (g32 o 14 0) - (1 : Int32)) (by omega)
      have ci2 := clampI (x := g32 o 14 0) (by omega)
      have hq := hJ.2 (Int32.toNatClampNeg ((g32 o 14 0) - (1 : Int32))) (by omega)
      have hq : 4 ≤ (g32 o 13 (Int32.toNatClampNeg ((g32 o 14 0) - (1 : Int32)))).toInt ∧ ((g32 o 13 (Int32.toNatClampNeg ((g32 o 14 0) - (1 : Int32)))).toInt ≤ 8 ∨ (g32 o 13 (Int32.toNatClampNeg ((g32 o 14 0) - (1 : Int32)))).toInt = 11) := hq
      have n11 : ¬ (g32 o 13 (Int32.toNatClampNeg ((g32 o 14 0) - (1 : Int32)))).toInt = 11 := fun z => cnt_zero _ hc _ (by omega : Int32.toNatClampNeg ((g32 o 14 0) - (1 : Int32)) < Int32.toNatClampNeg (g32 o 14 0)) (Int32.toInt_inj.mp z)
      rw [m_pop o l1 (by omega) c (by omega), bind1_s]
      obtain ⟨n0, q1, q2, q3⟩ := ih _ (Or.inl (h.pop hbd hL c n11)) (by show ((g32 o 14 0) - (1 : Int32)).toInt < (n : Int); omega)
      exact ⟨n0, q1, XE.tr (XE.pop l1 (by omega) (by omega)) q2, q3⟩
    · by_cases c : (g32 o 14 0) ≤ 0
      · rw [if_pos c]; exact ⟨o, rfl, XE.refl, Or.inr h⟩
      · rw [if_neg c, if_pos (Int32.le_iff_toInt_le.mpr (by rw [z0]; exact h.2))]
        exact ⟨o, rfl, XE.refl, Or.inr h⟩
