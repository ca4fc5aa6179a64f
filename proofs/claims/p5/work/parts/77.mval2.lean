/-! reckoning from a sign on -/
theorem m_reckon_12 (sg ag : Nat → Int32) (b e : Nat) (hS : SEG sg ag b (e - b)) (hbe : b ≤ e) (he : e ≤ 419) : ∀ (n : Nat) (x2 x3 : Int32) (o0 : Ob), o0.1 5 = sg → o0.1 6 = ag → OV o0 → CV o0 → x2.toInt = (e : Int) → (b : Int) ≤ x3.toInt → x3.toInt ≤ (e : Int) → RG o0 (dep sg b (Int32.toNatClampNeg x3 - b)) → (e : Int) - x3.toInt < (n : Int) → ∃ (r : Int32) (n0 : Ob), F_Mod_reckon_12 n x2 x3 o0 = some (r, n0) ∧ MK o0 n0 ∧ x3.toInt ≤ r.toInt ∧ r.toInt ≤ (e : Int) ∧ RG n0 (dep sg b (Int32.toNatClampNeg r - b)) ∧ ((g32 n0 31 0).toInt = 0 → r.toInt = (e : Int) ∨ (sg (Int32.toNatClampNeg r)).toInt = 9 ∨ (sg (Int32.toNatClampNeg r)).toInt = 10) := by
  intro n
  induction n with
  | zero => intro x2 x3 o0 _ _ _ _ _ _ _ _ _; exfalso; omega
  | succ n ih =>
    intro x2 x3 o0 e5 e6 hO hC h2 h3 h3b hR hn
    rw [F_Mod_reckon_12]
    have s5 : ∀ i, g32 o0 5 i = sg i := fun i => congrFun e5 i
    have s6 : ∀ i, g32 o0 6 i = ag i := fun i => congrFun e6 i
    by_cases c : x2 ≤ x3
    · rw [if_pos c]
      have c := Int32.le_iff_toInt_le.mp c
      exact ⟨x3, o0, rfl, MK.refl, Int.le_refl _, by omega, hR, fun _ => Or.inl (by omega)⟩
    rw [if_neg c]
    have c : ¬ x2.toInt ≤ x3.toInt := fun z => c (Int32.le_iff_toInt_le.mpr z)
    have cl := clampI (x := x3) (by omega)
    have ad := add1 (x := x3) (by omega)
    have cs := clampS (x := x3) (by omega) (by omega)
    have hk : Int32.toNatClampNeg x3 - b < e - b := by omega
    have hbk : b + (Int32.toNatClampNeg x3 - b) = Int32.toNatClampNeg x3 := by omega
    have hst := hS _ hk
    rw [hbk] at hst
    have hdp := dep_rg hS (Int32.toNatClampNeg x3 - b) (by omega)
    have hdn : dep sg b (Int32.toNatClampNeg (x3 + 1) - b) = nxt (sg (Int32.toNatClampNeg x3)) (dep sg b (Int32.toNatClampNeg x3 - b)) := by
      rw [cs, show Int32.toNatClampNeg x3 + 1 - b = (Int32.toNatClampNeg x3 - b) + 1 by omega]
      show nxt (sg (b + (Int32.toNatClampNeg x3 - b))) (dep sg b (Int32.toNatClampNeg x3 - b)) = _
      rw [hbk]
    rw [show (inb x3 1000) = true from inb_iff.mpr ⟨by omega, by omega⟩, chk_tr, s5]
    generalize hd : dep sg b (Int32.toNatClampNeg x3 - b) = d at hst hdp hdn hR
    generalize hs : sg (Int32.toNatClampNeg x3) = s at hst hdn ⊢
    obtain ⟨⟨t1, t2⟩, k1, k2, k3, k4, k5, k9, k10⟩ := hst
    by_cases c9 : s = (9 : Int32)
    · rw [if_pos c9]
      exact ⟨x3, o0, rfl, MK.refl, Int.le_refl _, h3b, by rw [hd]; exact hR, fun _ => Or.inr (Or.inl (by rw [hs, c9]; rfl))⟩
    rw [if_neg c9]
    by_cases c10 : s = (10 : Int32)
    · rw [if_pos c10]
      exact ⟨x3, o0, rfl, MK.refl, Int.le_refl _, h3b, by rw [hd]; exact hR, fun _ => Or.inr (Or.inr (by rw [hs, c10]; rfl))⟩
    rw [if_neg c10]
    have n9 : ¬ s.toInt = 9 := fun z => c9 (Int32.toInt_inj.mp z)
    have n10 : ¬ s.toInt = 10 := fun z => c10 (Int32.toInt_inj.mp z)
    by_cases cr : (g32 o0 31 0) = 0
    · rw [if_pos cr]
      have cr : (g32 o0 31 0).toInt = 0 := by rw [cr]; rfl
      obtain ⟨ht, hv⟩ := hR.2 cr
      have step : ∀ (m : Ob), MK o0 m → RG m (nxt s d) → ∃ (r : Int32) (n0 : Ob), F_Mod_reckon_12 n x2 (x3 + (1 : Int32)) m = some (r, n0) ∧ MK o0 n0 ∧ x3.toInt ≤ r.toInt ∧ r.toInt ≤ (e : Int) ∧ RG n0 (dep sg b (Int32.toNatClampNeg r - b)) ∧ ((g32 n0 31 0).toInt = 0 → r.toInt = (e : Int) ∨ (sg (Int32.toNatClampNeg r)).toInt = 9 ∨ (sg (Int32.toNatClampNeg r)).toInt = 10) := by
        intro m hm hg
        obtain ⟨r, n0, q1, q2, q3, q4, q5, q6⟩ := ih x2 (x3 + (1 : Int32)) m ((hm.1 5 (by decide) (by decide)).trans e5) ((hm.1 6 (by decide) (by decide)).trans e6) (hO.mk hm) (hC.mk hm) h2 (by omega) (by omega) (by rw [hdn]; exact hg) (by omega)
        exact ⟨r, n0, q1, MK.tr hm q2, by omega, q4, q5, q6⟩
      by_cases c1 : s = (1 : Int32)
      · rw [if_pos c1, s6]
        have s1 : s.toInt = 1 := by rw [c1]; rfl
        have hn1 : nxt s d = d + 1 := by unfold nxt; rw [if_pos (by omega)]
        have ka := k1 s1
        have ea : (Int32.toInt64 (ag (Int32.toNatClampNeg x3))).toInt = (ag (Int32.toNatClampNeg x3)).toInt := Int32.toInt_toInt64 _
        have z3 : (1000 : Int64).toInt = 1000 := by decide
        obtain ⟨y, p, q, ep, hy⟩ := m_put (Int32.toInt64 (ag (Int32.toNatClampNeg x3))) 1000 o0 (by omega) (by omega) (by omega) (by omega) (by omega) (by omega) (by omega)
        rw [ep, bind1_s]
        exact step _ tp_MK (RG_tp (by omega) (by omega) cr (by rw [ht]; exact hv) (by omega) hy)
      rw [if_neg c1]
      have n1 : ¬ s.toInt = 1 := fun z => c1 (Int32.toInt_inj.mp z)
      by_cases c2 : s = (2 : Int32)
      · rw [if_pos c2, s6]
        have s2 : s.toInt = 2 := by rw [c2]; rfl
        have hn1 : nxt s d = d + 1 := by unfold nxt; rw [if_pos (by omega)]
        have ka := k2 s2
        rw [show (inb (ag (Int32.toNatClampNeg x3)) 8) = true from inb_iff.mpr ⟨by omega, by omega⟩, chk_tr, show (inb (g32 o0 30 0) 420) = true from inb_iff.mpr ⟨by omega, by omega⟩, chk_tr]
        have hg := hO (Int32.toNatClampNeg (ag (Int32.toNatClampNeg x3))) (by have := clampI (x := ag (Int32.toNatClampNeg x3)) (by omega); omega)
        refine step _ (MK.s30 (MK.s29 (MK.s28 MK.refl))) ⟨by show 0 ≤ (g32 o0 31 0).toInt ∧ (g32 o0 31 0).toInt ≤ 5 ∧ ¬ (g32 o0 31 0).toInt = 1; omega, fun _ => ⟨?_, ?_⟩⟩
        · show ((g32 o0 30 0) + (1 : Int32)).toInt = _
          rw [add1 (by omega)]; omega
        · rw [hn1]
          exact rv_put (i := Int32.toNatClampNeg (g32 o0 30 0)) hv (by rw [clampI (by omega)]; exact ht) hg
      rw [if_neg c2]
      have n2 : ¬ s.toInt = 2 := fun z => c2 (Int32.toInt_inj.mp z)
      by_cases c3 : s = (3 : Int32)
      · rw [if_pos c3, s6]
        have s3 : s.toInt = 3 := by rw [c3]; rfl
        have hn1 : nxt s d = d + 1 := by unfold nxt; rw [if_pos (by omega)]
        have ka := k3 s3
        obtain ⟨m, em, hm, hg⟩ := m_pushCell (ag (Int32.toNatClampNeg x3)) o0 (by omega) (by omega) hC (by omega) (by omega) cr (by rw [ht]; exact hv)
        rw [em, bind1_s]
        exact step _ hm (by rw [hn1, ← ht]; exact hg)
      rw [if_neg c3]
      have n3 : ¬ s.toInt = 3 := fun z => c3 (Int32.toInt_inj.mp z)
      by_cases c4 : s = (4 : Int32)
      · rw [if_pos c4]
        have s4 : s.toInt = 4 := by rw [c4]; rfl
        have hn1 : nxt s d = d := by unfold nxt; rw [if_neg (by omega), if_pos s4]
        have ka := k4 s4
        have e1 := sub1 (x := g32 o0 30 0) (by omega)
        rw [show (inb ((g32 o0 30 0) - (1 : Int32)) 420) = true from inb_iff.mpr ⟨by omega, by omega⟩, chk_tr]
        refine step _ (MK.s28 MK.refl) ⟨by show 0 ≤ (g32 o0 31 0).toInt ∧ (g32 o0 31 0).toInt ≤ 5 ∧ ¬ (g32 o0 31 0).toInt = 1; omega, fun _ => ⟨?_, ?_⟩⟩
        · show (g32 o0 30 0).toInt = _
          omega
        · rw [hn1]
          intro j hj
          have e28 : g64 (s64 o0 28 (Int32.toNatClampNeg ((g32 o0 30 0) - (1 : Int32))) (-(g64 o0 28 (Int32.toNatClampNeg ((g32 o0 30 0) - (1 : Int32)))))) 28 j = if j = Int32.toNatClampNeg ((g32 o0 30 0) - (1 : Int32)) then -(g64 o0 28 (Int32.toNatClampNeg ((g32 o0 30 0) - (1 : Int32)))) else g64 o0 28 j := g64_same ..
          have e29 : g64 (s64 o0 28 (Int32.toNatClampNeg ((g32 o0 30 0) - (1 : Int32))) (-(g64 o0 28 (Int32.toNatClampNeg ((g32 o0 30 0) - (1 : Int32)))))) 29 j = g64 o0 29 j := g64_other _ (by decide)
          obtain ⟨u1, u2, u3, u4⟩ := hv j hj
          rw [e28, e29]
          by_cases cj : j = Int32.toNatClampNeg ((g32 o0 30 0) - (1 : Int32))
          · rw [if_pos cj, ← cj]
            have en := i64_neg (a := g64 o0 28 j) (by omega)
            exact ⟨by omega, by omega, u3, u4⟩
          · rw [if_neg cj]; exact ⟨u1, u2, u3, u4⟩
      rw [if_neg c4]
      have n4 : ¬ s.toInt = 4 := fun z => c4 (Int32.toInt_inj.mp z)
      have ka := k5 (by omega) (by omega)
      have hn1 : nxt s d = d - 1 := by unfold nxt; rw [if_neg (by omega), if_neg (by omega), if_pos (by omega)]
      obtain ⟨m, em, hm, hg⟩ := m_between s o0 (by omega) (by omega) cr (by rw [ht]; exact hv)
      rw [em, bind1_s]
      exact step _ hm (by rw [hn1, ← ht]; exact hg)
    · rw [if_neg cr]
      exact ⟨x3, o0, rfl, MK.refl, Int.le_refl _, h3b, by rw [hd]; exact hR, fun z => absurd (Int32.toInt_inj.mp z) cr⟩
/-- reckon from a place where nothing stands in the rows -/
theorem m_reckon (sg ag : Nat → Int32) (b e : Nat) (hS : SEG sg ag b (e - b)) (hbe : b ≤ e) (he : e ≤ 419) (x1 x2 : Int32) (o0 : Ob) (e5 : o0.1 5 = sg) (e6 : o0.1 6 = ag) (hO : OV o0) (hC : CV o0) (h2 : x2.toInt = (e : Int)) (h1 : (b : Int) ≤ x1.toInt) (h1b : x1.toInt ≤ (e : Int)) (hz : dep sg b (Int32.toNatClampNeg x1 - b) = 0) : ∃ (r : Int32) (n0 : Ob), F_Mod_reckon x1 x2 o0 = some (r, n0) ∧ MK o0 n0 ∧ x1.toInt ≤ r.toInt ∧ r.toInt ≤ (e : Int) ∧ RG n0 (dep sg b (Int32.toNatClampNeg r - b)) ∧ ((g32 n0 31 0).toInt = 0 → r.toInt = (e : Int) ∨ (sg (Int32.toNatClampNeg r)).toInt = 9 ∨ (sg (Int32.toNatClampNeg r)).toInt = 10) := by
  rw [F_Mod_reckon]
  have mk : MK o0 (s32 (s32 o0 30 0 (0 : Int32)) 31 0 (0 : Int32)) := MK.s31 (MK.s30 MK.refl)
  obtain ⟨r, n0, q1, q2, q3⟩ := m_reckon_12 sg ag b e hS hbe he fuel x2 x1 (s32 (s32 o0 30 0 (0 : Int32)) 31 0 (0 : Int32)) e5 e6 hO hC h2 h1 h1b ⟨by show 0 ≤ (0 : Int32).toInt ∧ (0 : Int32).toInt ≤ 5 ∧ ¬ (0 : Int32).toInt = 1; decide, fun _ => ⟨by rw [hz]; rfl, by rw [hz]; intro j hj; omega⟩⟩ (by rw [fuel_eq]; omega)
  exact ⟨r, n0, q1, MK.tr mk q2, q3⟩
theorem m_compares (x1 : Int32) (o0 : Ob) : ∃ r, F_Mod_compares x1 o0 = some r := by
  rw [F_Mod_compares, show (inb (0 : Int32) 420) = true from by decide, chk_tr, show (inb (1 : Int32) 420) = true from by decide, chk_tr]
  split
  · split <;> exact ⟨_, rfl⟩
  · split
    · split <;> exact ⟨_, rfl⟩
    · split <;> exact ⟨_, rfl⟩
