/-! THE REFERENCE: write -/
theorem bg_mono {o : Ob} (h : PG o) : ∀ (t s : Nat), s ≤ t → (t : Int) ≤ (o.1 8 0).toInt → (o.1 9 s).toInt ≤ (o.1 9 t).toInt
  | 0, s, hs, _ => by
    have : s = 0 := by omega
    rw [this]; exact Int.le_refl _
  | t + 1, s, hs, ht => by
    by_cases c : s = t + 1
    · rw [c]; exact Int.le_refl _
    · have ih := bg_mono h t s (by omega) (by omega)
      have q := h.2.1 t (by omega)
      have := q.2.1
      omega
theorem wsm_cap {o : Ob} (h : PG o) {s k : Nat} (hs : (s : Int) < (o.1 8 0).toInt) (hk : (k : Int) ≤ (o.1 9 (s + 1)).toInt) : wsm (o.1 5) (o.1 6) 0 k + 4 * ((s : Int) + 1) ≤ 896 := by
  obtain ⟨⟨a1, a2⟩, b, c, d, e, f⟩ := h
  have cst := clampI a1
  have m := bg_mono (o := o) ⟨⟨a1, a2⟩, b, c, d, e, f⟩ (Int32.toNatClampNeg (o.1 8 0)) (s + 1) (by omega) (by omega)
  have q := b s hs
  have cb := clampI (x := o.1 9 (Int32.toNatClampNeg (o.1 8 0))) (by omega)
  have w := wsm_le (sg := o.1 5) (ag := o.1 6) (b := 0) k (Int32.toNatClampNeg (o.1 9 (Int32.toNatClampNeg (o.1 8 0)))) (by omega)
  omega
theorem PG.p35 {o n : Ob} (h : PG o) (f : FR [32, 33, 34, 35] [] o n) : PG n := h.fr f (by decide) (by decide) (by decide) (by decide) (by decide) (by decide) (by decide)
/-- the loop's state: signs from b to e, at k -/
def PL (o : Ob) (b e k : Nat) (row : Int32) (C : Int) : Prop := (row.toInt = dep (o.1 5) b (k - b) ∧ (g32 o 33 0).toInt + 2 * wk (o.1 35) (Int32.toNatClampNeg row) ≤ C + wsm (o.1 5) (o.1 6) 0 k) ∨ (k = e ∧ (g32 o 33 0).toInt ≤ C + wsm (o.1 5) (o.1 6) 0 k)
theorem m_pst_43 (x1 : Int32) (h1 : 0 ≤ x1.toInt) : ∀ (n : Nat) (x2 x3 : Int32) (o : Ob), PG o → S34 o → x1.toInt < (g32 o 8 0).toInt → 0 ≤ (g32 o 33 0).toInt → (o.1 9 (Int32.toNatClampNeg x1)).toInt ≤ x3.toInt → x3.toInt ≤ (o.1 9 (Int32.toNatClampNeg x1 + 1)).toInt → PL o (Int32.toNatClampNeg (o.1 9 (Int32.toNatClampNeg x1))) (Int32.toNatClampNeg (o.1 9 (Int32.toNatClampNeg x1 + 1))) (Int32.toNatClampNeg x3) x2 (4 * (x1.toInt + 1)) → (o.1 9 (Int32.toNatClampNeg x1 + 1)).toInt - x3.toInt < (n : Int) → ∃ n0, F_Mod_printStatement_43 n x1 x2 x3 o = some n0 ∧ FR [32, 33, 34, 35] [] o n0 ∧ S34 n0 ∧ 0 ≤ (g32 n0 33 0).toInt ∧ (g32 n0 33 0).toInt ≤ 4 * (x1.toInt + 1) + wsm (o.1 5) (o.1 6) 0 (Int32.toNatClampNeg (o.1 9 (Int32.toNatClampNeg x1 + 1))) := by
  intro n
  induction n with
  | zero => intro x2 x3 o _ _ _ _ _ _ _ _; exfalso; omega
  | succ n ih =>
    intro x2 x3 o hP hs hst h0 h3 h3b hL hn
    have q0 : (g32 o 8 0).toInt ≤ 24 := hP.1.2
    have c1 := clampI h1
    have cs1 := clampS (x := x1) h1 (by omega)
    have e1 := add1 (x := x1) (by omega)
    have hlt : ((Int32.toNatClampNeg x1 : Nat) : Int) < (o.1 8 0).toInt := by
      have : (g32 o 8 0).toInt = (o.1 8 0).toInt := rfl
      omega
    obtain ⟨b0, b1, b2, ⟨⟨s1, s2, s3, s4⟩, hS, hd, hl⟩⟩ := hP.2.1 (Int32.toNatClampNeg x1) hlt
    have cb := clampI b0
    have ce := clampI (x := o.1 9 (Int32.toNatClampNeg x1 + 1)) (by omega)
    have cx := clampI (x := x3) (by omega)
    have g9 : g32 o 9 (Int32.toNatClampNeg (x1 + (1 : Int32))) = o.1 9 (Int32.toNatClampNeg x1 + 1) := by rw [cs1]; rfl
    have cap := wsm_cap hP hlt (k := Int32.toNatClampNeg x3) (by omega)
    rw [F_Mod_printStatement_43, show (inb (x1 + (1 : Int32)) 50) = true from inb_iff.mpr ⟨by omega, by omega⟩, chk_tr, g9]
    have w0 := wk_0le (o.1 35) (Int32.toNatClampNeg x2)
    by_cases c : (o.1 9 (Int32.toNatClampNeg x1 + 1)) ≤ x3
    · rw [if_pos c]
      have c := Int32.le_iff_toInt_le.mp c
      have ek : Int32.toNatClampNeg x3 = Int32.toNatClampNeg (o.1 9 (Int32.toNatClampNeg x1 + 1)) := by omega
      refine ⟨o, rfl, FR.refl, hs, h0, ?_⟩
      rw [← ek]
      rcases hL with ⟨_, h⟩ | ⟨_, h⟩ <;> omega
    rw [if_neg c]
    have c : ¬ (o.1 9 (Int32.toNatClampNeg x1 + 1)).toInt ≤ x3.toInt := fun z => c (Int32.le_iff_toInt_le.mpr z)
    obtain ⟨hr, hp⟩ : x2.toInt = dep (o.1 5) (Int32.toNatClampNeg (o.1 9 (Int32.toNatClampNeg x1))) (Int32.toNatClampNeg x3 - Int32.toNatClampNeg (o.1 9 (Int32.toNatClampNeg x1))) ∧ (g32 o 33 0).toInt + 2 * wk (o.1 35) (Int32.toNatClampNeg x2) ≤ 4 * (x1.toInt + 1) + wsm (o.1 5) (o.1 6) 0 (Int32.toNatClampNeg x3) := by
      rcases hL with h | ⟨h, _⟩
      · exact h
      · omega
    have e3 := add1 (x := x3) (by omega)
    have cs3 := clampS (x := x3) (by omega) (by omega)
    have i1000 : (inb x3 1000) = true := inb_iff.mpr ⟨by omega, by omega⟩
    have cap2 := wsm_cap hP hlt (k := Int32.toNatClampNeg x3 + 1) (by omega)
    have ews : wsm (o.1 5) (o.1 6) 0 (Int32.toNatClampNeg x3 + 1) = wsm (o.1 5) (o.1 6) 0 (Int32.toNatClampNeg x3) + wt (o.1 5 (Int32.toNatClampNeg x3)) (o.1 6 (Int32.toNatClampNeg x3)) := by
      show wsm (o.1 5) (o.1 6) 0 (Int32.toNatClampNeg x3) + wt (o.1 5 (0 + Int32.toNatClampNeg x3)) (o.1 6 (0 + Int32.toNatClampNeg x3)) = _
      rw [Nat.zero_add]
    have hbk : Int32.toNatClampNeg (o.1 9 (Int32.toNatClampNeg x1)) + (Int32.toNatClampNeg x3 - Int32.toNatClampNeg (o.1 9 (Int32.toNatClampNeg x1))) = Int32.toNatClampNeg x3 := by omega
    have hok := hS (Int32.toNatClampNeg x3 - Int32.toNatClampNeg (o.1 9 (Int32.toNatClampNeg x1))) (by omega)
    rw [hbk, ← hr] at hok
    have hdr := dep_rg hS (Int32.toNatClampNeg x3 - Int32.toNatClampNeg (o.1 9 (Int32.toNatClampNeg x1))) (by omega)
    have hdn : dep (o.1 5) (Int32.toNatClampNeg (o.1 9 (Int32.toNatClampNeg x1))) (Int32.toNatClampNeg x3 + 1 - Int32.toNatClampNeg (o.1 9 (Int32.toNatClampNeg x1))) = nxt (o.1 5 (Int32.toNatClampNeg x3)) x2.toInt := by
      rw [show Int32.toNatClampNeg x3 + 1 - Int32.toNatClampNeg (o.1 9 (Int32.toNatClampNeg x1)) = (Int32.toNatClampNeg x3 - Int32.toNatClampNeg (o.1 9 (Int32.toNatClampNeg x1))) + 1 by omega]
      show nxt (o.1 5 (Int32.toNatClampNeg (o.1 9 (Int32.toNatClampNeg x1)) + (Int32.toNatClampNeg x3 - Int32.toNatClampNeg (o.1 9 (Int32.toNatClampNeg x1))))) _ = _
      rw [hbk, ← hr]
    have g5 : g32 o 5 (Int32.toNatClampNeg x3) = o.1 5 (Int32.toNatClampNeg x3) := rfl
    have go : ∀ (y : Int32) (m : Ob), FR [32, 33, 34, 35] [] o m → S34 m → 0 ≤ (g32 m 33 0).toInt → ((y.toInt = nxt (o.1 5 (Int32.toNatClampNeg x3)) x2.toInt ∧ (g32 m 33 0).toInt + 2 * wk (m.1 35) (Int32.toNatClampNeg y) ≤ 4 * (x1.toInt + 1) + wsm (o.1 5) (o.1 6) 0 (Int32.toNatClampNeg x3 + 1)) ∨ (Int32.toNatClampNeg x3 + 1 = Int32.toNatClampNeg (o.1 9 (Int32.toNatClampNeg x1 + 1)) ∧ (g32 m 33 0).toInt ≤ 4 * (x1.toInt + 1) + wsm (o.1 5) (o.1 6) 0 (Int32.toNatClampNeg x3 + 1))) → ∃ n0, F_Mod_printStatement_43 n x1 y (x3 + (1 : Int32)) m = some n0 ∧ FR [32, 33, 34, 35] [] o n0 ∧ S34 n0 ∧ 0 ≤ (g32 n0 33 0).toInt ∧ (g32 n0 33 0).toInt ≤ 4 * (x1.toInt + 1) + wsm (o.1 5) (o.1 6) 0 (Int32.toNatClampNeg (o.1 9 (Int32.toNatClampNeg x1 + 1))) := by
      intro y m hf hsm hm0 hh
      have m9 := hf.1 9 (by decide)
      have m5 := hf.1 5 (by decide)
      have m6 := hf.1 6 (by decide)
      have m8 : g32 m 8 0 = g32 o 8 0 := hf.g (by decide) 0
      obtain ⟨n0, q1, q2, q3, q4, q5⟩ := ih y (x3 + (1 : Int32)) m (hP.p35 hf) hsm (by rw [m8]; exact hst) hm0 (by rw [m9]; omega) (by rw [m9]; omega) (by
        unfold PL
        rw [m9, m5, m6, cs3, hdn]
        exact hh) (by rw [m9]; omega)
      rw [m9, m5, m6] at q5
      exact ⟨n0, q1, FR.tr hf q2, q3, q4, q5⟩
    rw [i1000, chk_tr]
    by_cases c10 : (g32 o 5 (Int32.toNatClampNeg x3)) = (10 : Int32)
    · rw [if_pos c10]
      have s10 : (o.1 5 (Int32.toNatClampNeg x3)).toInt = 10 := by rw [← g5, c10]; rfl
      have ew := wt_10 (y := o.1 6 (Int32.toNatClampNeg x3)) s10
      obtain ⟨m, q1, q2⟩ := m_add 58 o h0 (by omega)
      have q3 := q2.2
      rw [q1, bind1_s, F_Mod_printStatement_95, i1000, chk_tr]
      have m5 : g32 m 5 (Int32.toNatClampNeg x3) = (10 : Int32) := by rw [q2.1.g (by decide)]; exact c10
      rw [if_neg (by rw [m5]; decide)]
      refine go 0 m (q2.1.mono (by decide) (by decide)) (hs.fr q2.1) (by omega) (Or.inl ⟨?_, ?_⟩)
      · rw [nxt_9 (by omega)]; rfl
      · have z : wk (m.1 35) (Int32.toNatClampNeg (0 : Int32)) = 0 := rfl
        omega
    rw [if_neg c10]
    have n10 : ¬ (o.1 5 (Int32.toNatClampNeg x3)).toInt = 10 := fun z => c10 (Int32.toInt_inj.mp z)
    obtain ⟨v19, m, q1, q2, q3, q4, q5, q6⟩ := m_printSign (o.1 5 (Int32.toNatClampNeg x3)) (o.1 6 (Int32.toNatClampNeg x3)) x2 o (4 * (x1.toInt + 1) + wsm (o.1 5) (o.1 6) 0 (Int32.toNatClampNeg x3)) hok n10 (by omega) (by omega) hs h0 (by omega) hp
    have q1 : F_Mod_printSign (g32 o 5 (Int32.toNatClampNeg x3)) (g32 o 6 (Int32.toNatClampNeg x3)) x2 o = some (v19, m) := q1
    rw [q1, bind2_s, F_Mod_printStatement_95, i1000, chk_tr]
    have m5 : g32 m 5 (Int32.toNatClampNeg x3) = g32 o 5 (Int32.toNatClampNeg x3) := q2.g (by decide) _
    have m10 : g32 m 10 (Int32.toNatClampNeg x1) = g32 o 10 (Int32.toNatClampNeg x1) := q2.g (by decide) _
    rw [m5]
    by_cases c9 : (g32 o 5 (Int32.toNatClampNeg x3)) = (9 : Int32)
    · rw [if_pos c9, show (inb x1 50) = true from inb_iff.mpr ⟨h1, by omega⟩, chk_tr, m10]
      have s9 : (o.1 5 (Int32.toNatClampNeg x3)).toInt = 9 := by rw [← g5, c9]; rfl
      have ew := wt_9 (y := o.1 6 (Int32.toNatClampNeg x3)) s9
      have p1 := q6 s9
      have z0 : (0 : Int32).toInt = 0 := rfl
      by_cases d : (g32 o 10 (Int32.toNatClampNeg x1)) < 0
      · rw [if_pos d]
        have d : (o.1 10 (Int32.toNatClampNeg x1)).toInt < 0 := Int32.lt_iff_toInt_lt.mp d
        have hl2 := (hl d (Int32.toNatClampNeg x3) (by omega) (by omega)).2 s9
        exact go v19 m q2 q3 q4 (Or.inr ⟨hl2, by omega⟩)
      · rw [if_neg d]
        obtain ⟨t, t1, t2⟩ := m_add 63 m q4 (by omega)
        have t3 := t2.2
        rw [t1, bind1_s]
        refine go 0 t (FR.tr q2 (t2.1.mono (by decide) (by decide))) (q3.fr t2.1) (by omega) (Or.inl ⟨?_, ?_⟩)
        · rw [nxt_9 (by omega)]; rfl
        · have z : wk (t.1 35) (Int32.toNatClampNeg (0 : Int32)) = 0 := rfl
          omega
    · rw [if_neg c9]
      have n9 : ¬ (o.1 5 (Int32.toNatClampNeg x3)).toInt = 9 := fun z => c9 (Int32.toInt_inj.mp z)
      have p1 := q5 (by have := hok.1.2; omega)
      exact go v19 m q2 q3 q4 (Or.inl ⟨p1.1, by omega⟩)
theorem m_printStatement (x1 : Int32) (o : Ob) (hP : PG o) (hs : S34 o) (h1 : 0 ≤ x1.toInt) (h1b : x1.toInt < (g32 o 8 0).toInt) (h0 : 0 ≤ (g32 o 33 0).toInt) (hp : (g32 o 33 0).toInt ≤ 4 * x1.toInt + 1 + wsm (o.1 5) (o.1 6) 0 (Int32.toNatClampNeg (o.1 9 (Int32.toNatClampNeg x1)))) : ∃ n0, F_Mod_printStatement x1 o = some n0 ∧ FR [32, 33, 34, 35] [] o n0 ∧ S34 n0 ∧ 0 ≤ (g32 n0 33 0).toInt ∧ (g32 n0 33 0).toInt ≤ 4 * (x1.toInt + 1) + wsm (o.1 5) (o.1 6) 0 (Int32.toNatClampNeg (o.1 9 (Int32.toNatClampNeg x1 + 1))) := by
  have q0 : (g32 o 8 0).toInt ≤ 24 := hP.1.2
  have z0 : (0 : Int32).toInt = 0 := rfl
  have c1 := clampI h1
  have hlt : ((Int32.toNatClampNeg x1 : Nat) : Int) < (o.1 8 0).toInt := by
    have : (g32 o 8 0).toInt = (o.1 8 0).toInt := rfl
    omega
  obtain ⟨b0, b1, b2, _⟩ := hP.2.1 (Int32.toNatClampNeg x1) hlt
  have cb := clampI b0
  have cap := wsm_cap hP hlt (k := Int32.toNatClampNeg (o.1 9 (Int32.toNatClampNeg x1))) (by omega)
  rw [F_Mod_printStatement, show (inb x1 50) = true from inb_iff.mpr ⟨h1, by omega⟩, chk_tr]
  have go : ∀ (m : Ob) (k : Int), PA o m k → 0 ≤ k → k ≤ 3 → ∃ n0, F_Mod_printStatement_43 fuel x1 (0 : Int32) (g32 m 9 (Int32.toNatClampNeg x1)) m = some n0 ∧ FR [32, 33, 34, 35] [] o n0 ∧ S34 n0 ∧ 0 ≤ (g32 n0 33 0).toInt ∧ (g32 n0 33 0).toInt ≤ 4 * (x1.toInt + 1) + wsm (o.1 5) (o.1 6) 0 (Int32.toNatClampNeg (o.1 9 (Int32.toNatClampNeg x1 + 1))) := by
    intro m k hm k0 k1
    have hm2 := hm.2
    have f4 : FR [32, 33, 34, 35] [] o m := hm.1.mono (by decide) (by decide)
    have m9 := f4.1 9 (by decide)
    have m5 := f4.1 5 (by decide)
    have m6 := f4.1 6 (by decide)
    have m8 : g32 m 8 0 = g32 o 8 0 := f4.g (by decide) 0
    have g9 : g32 m 9 (Int32.toNatClampNeg x1) = o.1 9 (Int32.toNatClampNeg x1) := congrFun m9 _
    rw [g9]
    obtain ⟨n0, q1, q2, q3, q4, q5⟩ := m_pst_43 x1 h1 fuel 0 (o.1 9 (Int32.toNatClampNeg x1)) m (hP.p35 f4) (hs.fr hm.1) (by rw [m8]; exact h1b) (by omega) (by rw [m9]; exact Int.le_refl _) (by rw [m9]; exact b1) (by
      unfold PL
      rw [m9, m5, m6, Nat.sub_self]
      refine Or.inl ⟨rfl, ?_⟩
      have z : wk (m.1 35) (Int32.toNatClampNeg (0 : Int32)) = 0 := rfl
      omega) (by rw [m9, fuel_eq]; omega)
    rw [m9, m5, m6] at q5
    exact ⟨n0, q1, FR.tr f4 q2, q3, q4, q5⟩
  by_cases c : 0 ≤ (g32 o 10 (Int32.toNatClampNeg x1))
  · rw [if_pos c]
    obtain ⟨m, q1, q2⟩ := m_addCell (g32 o 10 (Int32.toNatClampNeg x1)) o h0 (by omega)
    have q3 := q2.2
    rw [q1, bind1_s]
    obtain ⟨t, t1, t2⟩ := m_add 61 m (by omega) (by omega)
    rw [t1, bind1_s]
    exact go t 3 (PA.tr q2 t2 rfl) (by omega) (by omega)
  · rw [if_neg c]
    obtain ⟨m, q1, q2⟩ := m_add 33 o h0 (by omega)
    rw [q1, bind1_s]
    exact go m 1 q2 (by omega) (by omega)
theorem m_write_40 (x1 : Int32) (h1 : 0 ≤ x1.toInt) : ∀ (n : Nat) (x2 : Int32) (o : Ob), PG o → S34 o → 0 ≤ x2.toInt → x2.toInt ≤ (g32 o 8 0).toInt → 0 ≤ (g32 o 33 0).toInt → (g32 o 33 0).toInt ≤ 4 * x2.toInt + wsm (o.1 5) (o.1 6) 0 (Int32.toNatClampNeg (o.1 9 (Int32.toNatClampNeg x2))) → 25 - x2.toInt < (n : Int) → ∃ (r : Int32) (n0 : Ob), F_Mod_write_40 n x1 x2 o = some (r, n0) ∧ FR [32, 33, 34, 35] [] o n0 ∧ S34 n0 := by
  intro n
  induction n with
  | zero => intro x2 o hP _ _ _ _ _ _; exfalso; have : (g32 o 8 0).toInt ≤ 24 := hP.1.2; omega
  | succ n ih =>
    intro x2 o hP hs h2 h2b h0 hp hn
    have q0 : (g32 o 8 0).toInt ≤ 24 := hP.1.2
    have c2 := clampI h2
    have cs := clampS (x := x2) h2 (by omega)
    have e2 := add1 (x := x2) (by omega)
    rw [F_Mod_write_40, show (inb (0 : Int32) 2) = true from by decide, chk_tr]
    by_cases c : (g32 o 8 (Int32.toNatClampNeg (0 : Int32))) ≤ x2
    · rw [if_pos c]
      have c : (g32 o 8 0).toInt ≤ x2.toInt := Int32.le_iff_toInt_le.mp c
      by_cases d : (g32 o 33 0) ≤ x1
      · rw [if_pos d]; exact ⟨_, _, rfl, FR.refl, hs⟩
      · rw [if_neg d]
        have d : ¬ (g32 o 33 0).toInt ≤ x1.toInt := fun z => d (Int32.le_iff_toInt_le.mpr z)
        obtain ⟨⟨a1, a2⟩, b, _, _, e, f⟩ := hP
        have cst := clampI a1
        have g8 : (g32 o 8 0).toInt = (o.1 8 0).toInt := rfl
        have ei : Int32.toNatClampNeg x2 = Int32.toNatClampNeg (o.1 8 0) := by omega
        rw [ei] at hp
        rw [show (inb x1 900) = true from inb_iff.mpr ⟨h1, by omega⟩, chk_tr]
        exact ⟨_, _, rfl, FR.refl, hs⟩
    rw [if_neg c]
    have c : ¬ (g32 o 8 0).toInt ≤ x2.toInt := fun z => c (Int32.le_iff_toInt_le.mpr z)
    have hlt : ((Int32.toNatClampNeg x2 : Nat) : Int) < (o.1 8 0).toInt := by
      have : (g32 o 8 0).toInt = (o.1 8 0).toInt := rfl
      omega
    obtain ⟨b0, b1, b2, _⟩ := hP.2.1 (Int32.toNatClampNeg x2) hlt
    have cb := clampI b0
    have cap := wsm_cap hP hlt (k := Int32.toNatClampNeg (o.1 9 (Int32.toNatClampNeg x2))) (by omega)
    have go : ∀ (m : Ob) (k : Int), PA o m k → 0 ≤ k → k ≤ 1 → ∃ (r : Int32) (n0 : Ob), bind1 (F_Mod_printStatement x2 m) (fun o_12 => F_Mod_write_40 n x1 (x2 + (1 : Int32)) o_12) = some (r, n0) ∧ FR [32, 33, 34, 35] [] o n0 ∧ S34 n0 := by
      intro m k hm k0 k1
      have hm2 := hm.2
      have f4 : FR [32, 33, 34, 35] [] o m := hm.1.mono (by decide) (by decide)
      have m9 := f4.1 9 (by decide)
      have m5 := f4.1 5 (by decide)
      have m6 := f4.1 6 (by decide)
      have m8 : g32 m 8 0 = g32 o 8 0 := f4.g (by decide) 0
      obtain ⟨t, q1, q2, q3, q4, q5⟩ := m_printStatement x2 m (hP.p35 f4) (hs.fr hm.1) h2 (by rw [m8]; omega) (by omega) (by rw [m9, m5, m6]; omega)
      rw [q1, bind1_s]
      have ft := FR.tr f4 q2
      have t9 := ft.1 9 (by decide)
      have t5 := ft.1 5 (by decide)
      have t6 := ft.1 6 (by decide)
      have t8 : g32 t 8 0 = g32 o 8 0 := ft.g (by decide) 0
      rw [m9, m5, m6] at q5
      obtain ⟨r, n0, p1, p2, p3⟩ := ih (x2 + (1 : Int32)) t (hP.p35 ft) q3 (by omega) (by rw [t8]; omega) q4 (by rw [t9, t5, t6, cs]; omega) (by omega)
      exact ⟨r, n0, p1, FR.tr ft p2, p3⟩
    by_cases d : x2 ≤ 0
    · rw [if_pos d]; exact go o 0 ⟨FR.refl, by omega⟩ (by omega) (by omega)
    · rw [if_neg d]
      obtain ⟨m, q1, q2⟩ := m_add 59 o h0 (by omega)
      rw [q1, bind1_s]
      exact go m 1 q2 (by omega) (by omega)
