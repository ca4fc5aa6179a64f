/-! THE REFERENCE: read -/
theorem wsm_sh {f g p q : Nat → Int32} {n : Nat} (h : ∀ k, k < n → f k = g (500 + k)) (h2 : ∀ k, k < n → p k = q (500 + k)) : wsm f p 0 n = wsm g q 500 n := wsm_ext n (fun k hk => by rw [Nat.zero_add]; exact h k hk) (fun k hk => by rw [Nat.zero_add]; exact h2 k hk)
theorem m_acc_49 (a : Ob) (hT : CS a) (hst : 1 ≤ (g32 a 8 1).toInt ∧ (g32 a 8 1).toInt ≤ 24) (hsz : 0 ≤ (g32 a 7 1).toInt ∧ (g32 a 7 1).toInt ≤ 400) (hw : wsm (a.1 5) (a.1 6) 500 (Int32.toNatClampNeg (g32 a 7 1)) ≤ 800) : ∀ (n : Nat) (x1 : Int32) (o : Ob), N01 o → 0 ≤ x1.toInt → x1.toInt ≤ 25 → o.1 7 = a.1 7 → o.1 8 = a.1 8 → (∀ k : Nat, k < 500 → o.1 5 k = a.1 5 (500 + k) ∧ o.1 6 k = a.1 6 (500 + k)) → (∀ k : Nat, (k : Int) < x1.toInt → o.1 9 k = a.1 9 (25 + k) ∧ o.1 10 k = a.1 10 (25 + k)) → (∀ k : Nat, 25 ≤ k → o.1 9 k = a.1 9 k ∧ o.1 10 k = a.1 10 k) → 25 - x1.toInt < (n : Int) → ∃ n0, F_Mod_accept_49 n x1 o = some n0 ∧ FR [7, 8, 9, 10, 11, 12, 17, 18] [] o n0 ∧ PG n0 ∧ N01 n0 := by
  intro n
  induction n with
  | zero => intro x1 o _ _ _ _ _ _ _ _ _; exfalso; omega
  | succ n ih =>
    intro x1 o hN h1 h1b h7 h8 h5 h9 h9b hn
    have z25 : (25 : Int32).toInt = 25 := rfl
    have z0 : (0 : Int32).toInt = 0 := rfl
    rw [F_Mod_accept_49]
    by_cases c : (25 : Int32) ≤ x1
    · rw [if_pos c, show (inb (1 : Int32) 2) = true from by decide, chk_tr, show (inb (0 : Int32) 2) = true from by decide, chk_tr]
      have c := Int32.le_iff_toInt_le.mp c
      have e8 : g32 o 8 1 = g32 a 8 1 := congrFun h8 1
      have cst := clampI (x := g32 a 8 1) (by omega)
      obtain ⟨c1, c2, c3⟩ := hT
      obtain ⟨c2a, c2b⟩ := c2 (by omega)
      have hf : FR [7, 8, 9, 10, 11, 12, 17, 18] [] o (s32 (s32 (s32 (s32 o 7 (Int32.toNatClampNeg (0 : Int32)) (g32 o 7 (Int32.toNatClampNeg (1 : Int32)))) 8 (Int32.toNatClampNeg (0 : Int32)) (g32 o 8 (Int32.toNatClampNeg (1 : Int32)))) 11 0 (1 : Int32)) 12 0 (0 : Int32)) := FR.s (FR.s (FR.s (FR.s FR.refl (by decide)) (by decide)) (by decide)) (by decide)
      have s8 : (s32 (s32 (s32 (s32 o 7 (Int32.toNatClampNeg (0 : Int32)) (g32 o 7 (Int32.toNatClampNeg (1 : Int32)))) 8 (Int32.toNatClampNeg (0 : Int32)) (g32 o 8 (Int32.toNatClampNeg (1 : Int32)))) 11 0 (1 : Int32)) 12 0 (0 : Int32)).1 8 0 = g32 a 8 1 := by
        show g32 o 8 1 = _
        exact e8
      have hq : QG (s32 (s32 (s32 (s32 o 7 (Int32.toNatClampNeg (0 : Int32)) (g32 o 7 (Int32.toNatClampNeg (1 : Int32)))) 8 (Int32.toNatClampNeg (0 : Int32)) (g32 o 8 (Int32.toNatClampNeg (1 : Int32)))) 11 0 (1 : Int32)) 12 0 (0 : Int32)) := by
        refine ⟨by show 0 ≤ (g32 o 8 1).toInt ∧ (g32 o 8 1).toInt ≤ 24; rw [e8]; omega, fun s hs => ?_⟩
        have hs : (s : Int) < (g32 o 8 1).toInt := hs
        rw [e8] at hs
        obtain ⟨p1, p2, p3, p4⟩ := c1 s hs
        show 0 ≤ (o.1 9 s).toInt ∧ (o.1 9 s).toInt ≤ (o.1 9 (s + 1)).toInt ∧ (o.1 9 (s + 1)).toInt ≤ 410 ∧ STM (o.1 5) (o.1 6) (Int32.toNatClampNeg (o.1 9 s)) (Int32.toNatClampNeg (o.1 9 (s + 1))) (o.1 10 s).toInt
        rw [(h9 s (by omega)).1, (h9 (s + 1) (by omega)).1, (h9 s (by omega)).2, show 25 + (s + 1) = 26 + s by omega]
        refine ⟨p1, p2, by omega, STM_ext (fun k hk => ?_) (fun k hk => ?_) p4⟩
        · have cl := clampI (x := a.1 9 (26 + s)) (by omega)
          exact (h5 k (by omega)).1
        · have cl := clampI (x := a.1 9 (26 + s)) (by omega)
          exact (h5 k (by omega)).2
      have hg : WG (s32 (s32 (s32 (s32 o 7 (Int32.toNatClampNeg (0 : Int32)) (g32 o 7 (Int32.toNatClampNeg (1 : Int32)))) 8 (Int32.toNatClampNeg (0 : Int32)) (g32 o 8 (Int32.toNatClampNeg (1 : Int32)))) 11 0 (1 : Int32)) 12 0 (0 : Int32)) := by
        refine ⟨?_, ?_⟩
        · show (o.1 9 0).toInt = 0
          rw [(h9 0 (by omega)).1]; exact c2a
        · rw [s8]
          show wsm (o.1 5) (o.1 6) 0 (Int32.toNatClampNeg (o.1 9 (Int32.toNatClampNeg (g32 a 8 1)))) + 4 * (g32 a 8 1).toInt ≤ 896
          rw [(h9 (Int32.toNatClampNeg (g32 a 8 1)) (by omega)).1, Int32.toInt_inj.mp c2b]
          have cz := clampI hsz.1
          rw [wsm_sh (g := a.1 5) (q := a.1 6) (fun k hk => (h5 k (by omega)).1) (fun k hk => (h5 k (by omega)).2)]
          omega
      obtain ⟨n0, q1, q2, q3⟩ := m_acc_127 fuel 0 _ hq hN hg (by omega) (by omega) (fun c hc => by omega) (by rw [fuel_eq]; omega)
      exact ⟨n0, q1, FR.tr hf (q2.mono (by decide) (by decide)), q3⟩
    rw [if_neg c]
    have c : ¬ 25 ≤ x1.toInt := fun z => c (Int32.le_iff_toInt_le.mpr (by omega))
    have e1 := add1 (x := x1) (by omega)
    have c1 := clampI h1
    have e25 : ((25 : Int32) + x1).toInt = 25 + x1.toInt := by rw [tadd (by omega) (by omega), z25]
    have ix : Int32.toNatClampNeg ((25 : Int32) + x1) = 25 + Int32.toNatClampNeg x1 := by
      have := clampI (x := (25 : Int32) + x1) (by omega)
      omega
    rw [show (inb ((25 : Int32) + x1) 50) = true from inb_iff.mpr ⟨by omega, by omega⟩, chk_tr, show (inb x1 50) = true from inb_iff.mpr ⟨by omega, by omega⟩, chk_tr, ix]
    have hf : FR [7, 8, 9, 10, 11, 12, 17, 18] [] o (s32 (s32 o 9 (Int32.toNatClampNeg x1) (g32 o 9 (25 + Int32.toNatClampNeg x1))) 10 (Int32.toNatClampNeg x1) (g32 o 10 (25 + Int32.toNatClampNeg x1))) := FR.s (FR.s FR.refl (by decide)) (by decide)
    obtain ⟨n0, q1, q2, q3⟩ := ih (x1 + (1 : Int32)) (s32 (s32 o 9 (Int32.toNatClampNeg x1) (g32 o 9 (25 + Int32.toNatClampNeg x1))) 10 (Int32.toNatClampNeg x1) (g32 o 10 (25 + Int32.toNatClampNeg x1))) hN (by omega) (by omega) h7 h8 h5 (fun k hk => by
      by_cases w : k = Int32.toNatClampNeg x1
      · have q := h9b (25 + Int32.toNatClampNeg x1) (by omega)
        rw [w]
        exact ⟨(show upd (o.1 9) (Int32.toNatClampNeg x1) (g32 o 9 (25 + Int32.toNatClampNeg x1)) (Int32.toNatClampNeg x1) = g32 o 9 (25 + Int32.toNatClampNeg x1) from if_pos rfl).trans q.1, (show upd (o.1 10) (Int32.toNatClampNeg x1) (g32 o 10 (25 + Int32.toNatClampNeg x1)) (Int32.toNatClampNeg x1) = g32 o 10 (25 + Int32.toNatClampNeg x1) from if_pos rfl).trans q.2⟩
      · have q := h9 k (by omega)
        exact ⟨(show upd (o.1 9) (Int32.toNatClampNeg x1) (g32 o 9 (25 + Int32.toNatClampNeg x1)) k = o.1 9 k from if_neg w).trans q.1, (show upd (o.1 10) (Int32.toNatClampNeg x1) (g32 o 10 (25 + Int32.toNatClampNeg x1)) k = o.1 10 k from if_neg w).trans q.2⟩) (fun k hk => by
      have w : ¬ k = Int32.toNatClampNeg x1 := by omega
      have q := h9b k hk
      exact ⟨(show upd (o.1 9) (Int32.toNatClampNeg x1) (g32 o 9 (25 + Int32.toNatClampNeg x1)) k = o.1 9 k from if_neg w).trans q.1, (show upd (o.1 10) (Int32.toNatClampNeg x1) (g32 o 10 (25 + Int32.toNatClampNeg x1)) k = o.1 10 k from if_neg w).trans q.2⟩) (by omega)
    exact ⟨n0, q1, FR.tr hf q2, q3⟩
theorem m_acc_2 (a : Ob) (hT : CS a) (hst : 1 ≤ (g32 a 8 1).toInt ∧ (g32 a 8 1).toInt ≤ 24) (hsz : 0 ≤ (g32 a 7 1).toInt ∧ (g32 a 7 1).toInt ≤ 400) (hw : wsm (a.1 5) (a.1 6) 500 (Int32.toNatClampNeg (g32 a 7 1)) ≤ 800) : ∀ (n : Nat) (x1 : Int32) (o : Ob), N01 o → 0 ≤ x1.toInt → x1.toInt ≤ 500 → FR [5, 6] [] a o → (∀ k : Nat, (k : Int) < x1.toInt → o.1 5 k = a.1 5 (500 + k) ∧ o.1 6 k = a.1 6 (500 + k)) → (∀ k : Nat, 500 ≤ k → o.1 5 k = a.1 5 k ∧ o.1 6 k = a.1 6 k) → 500 - x1.toInt < (n : Int) → ∃ n0, F_Mod_accept_2 n x1 o = some n0 ∧ FR [5, 6, 7, 8, 9, 10, 11, 12, 17, 18] [] o n0 ∧ PG n0 ∧ N01 n0 := by
  intro n
  induction n with
  | zero => intro x1 o _ _ _ _ _ _ _; exfalso; omega
  | succ n ih =>
    intro x1 o hN h1 h1b hF h5 h5b hn
    have z5 : (500 : Int32).toInt = 500 := rfl
    have z0 : (0 : Int32).toInt = 0 := rfl
    rw [F_Mod_accept_2]
    by_cases c : (500 : Int32) ≤ x1
    · rw [if_pos c]
      have c := Int32.le_iff_toInt_le.mp c
      obtain ⟨n0, q1, q2, q3⟩ := m_acc_49 a hT hst hsz hw fuel 0 o hN (by omega) (by omega) (hF.1 7 (by decide)) (hF.1 8 (by decide)) (fun k hk => h5 k (by omega)) (fun k hk => by omega) (fun k _ => ⟨congrFun (hF.1 9 (by decide)) k, congrFun (hF.1 10 (by decide)) k⟩) (by rw [fuel_eq]; omega)
      exact ⟨n0, q1, q2.mono (by decide) (by decide), q3⟩
    rw [if_neg c]
    have c : ¬ 500 ≤ x1.toInt := fun z => c (Int32.le_iff_toInt_le.mpr (by omega))
    have e1 := add1 (x := x1) (by omega)
    have c1 := clampI h1
    have e5 : ((500 : Int32) + x1).toInt = 500 + x1.toInt := by rw [tadd (by omega) (by omega), z5]
    have ix : Int32.toNatClampNeg ((500 : Int32) + x1) = 500 + Int32.toNatClampNeg x1 := by
      have := clampI (x := (500 : Int32) + x1) (by omega)
      omega
    rw [show (inb ((500 : Int32) + x1) 1000) = true from inb_iff.mpr ⟨by omega, by omega⟩, chk_tr, show (inb x1 1000) = true from inb_iff.mpr ⟨by omega, by omega⟩, chk_tr, ix]
    have hf : FR [5, 6, 7, 8, 9, 10, 11, 12, 17, 18] [] o (s32 (s32 o 5 (Int32.toNatClampNeg x1) (g32 o 5 (500 + Int32.toNatClampNeg x1))) 6 (Int32.toNatClampNeg x1) (g32 o 6 (500 + Int32.toNatClampNeg x1))) := FR.s (FR.s FR.refl (by decide)) (by decide)
    obtain ⟨n0, q1, q2, q3⟩ := ih (x1 + (1 : Int32)) (s32 (s32 o 5 (Int32.toNatClampNeg x1) (g32 o 5 (500 + Int32.toNatClampNeg x1))) 6 (Int32.toNatClampNeg x1) (g32 o 6 (500 + Int32.toNatClampNeg x1))) hN (by omega) (by omega) (FR.s (FR.s hF (by decide)) (by decide)) (fun k hk => by
      by_cases w : k = Int32.toNatClampNeg x1
      · have q := h5b (500 + Int32.toNatClampNeg x1) (by omega)
        rw [w]
        exact ⟨(show upd (o.1 5) (Int32.toNatClampNeg x1) (g32 o 5 (500 + Int32.toNatClampNeg x1)) (Int32.toNatClampNeg x1) = g32 o 5 (500 + Int32.toNatClampNeg x1) from if_pos rfl).trans q.1, (show upd (o.1 6) (Int32.toNatClampNeg x1) (g32 o 6 (500 + Int32.toNatClampNeg x1)) (Int32.toNatClampNeg x1) = g32 o 6 (500 + Int32.toNatClampNeg x1) from if_pos rfl).trans q.2⟩
      · have q := h5 k (by omega)
        exact ⟨(show upd (o.1 5) (Int32.toNatClampNeg x1) (g32 o 5 (500 + Int32.toNatClampNeg x1)) k = o.1 5 k from if_neg w).trans q.1, (show upd (o.1 6) (Int32.toNatClampNeg x1) (g32 o 6 (500 + Int32.toNatClampNeg x1)) k = o.1 6 k from if_neg w).trans q.2⟩) (fun k hk => by
      have w : ¬ k = Int32.toNatClampNeg x1 := by omega
      have q := h5b k hk
      exact ⟨(show upd (o.1 5) (Int32.toNatClampNeg x1) (g32 o 5 (500 + Int32.toNatClampNeg x1)) k = o.1 5 k from if_neg w).trans q.1, (show upd (o.1 6) (Int32.toNatClampNeg x1) (g32 o 6 (500 + Int32.toNatClampNeg x1)) k = o.1 6 k from if_neg w).trans q.2⟩) (by omega)
    exact ⟨n0, q1, FR.tr hf q2, q3⟩
theorem m_accept (o : Ob) (hT : CS o) (hst : 1 ≤ (g32 o 8 1).toInt ∧ (g32 o 8 1).toInt ≤ 24) (hsz : 0 ≤ (g32 o 7 1).toInt ∧ (g32 o 7 1).toInt ≤ 400) (hw : wsm (o.1 5) (o.1 6) 500 (Int32.toNatClampNeg (g32 o 7 1)) ≤ 800) (hN : N01 o) : ∃ n0, F_Mod_accept o = some n0 ∧ FR [5, 6, 7, 8, 9, 10, 11, 12, 17, 18] [] o n0 ∧ PG n0 ∧ N01 n0 := by
  have z0 : (0 : Int32).toInt = 0 := rfl
  exact m_acc_2 o hT hst hsz hw fuel 0 o hN (by omega) (by omega) FR.refl (fun k hk => by omega) (fun k _ => ⟨rfl, rfl⟩) (by rw [fuel_eq]; omega)
theorem PG.low {o n : Ob} (h : PG o) (l : LOW o n) : PG n := by
  obtain ⟨l1, l2, l3, l4⟩ := l
  obtain ⟨⟨a1, a2⟩, b, c, d, e, f⟩ := h
  have e17 := l1.1 17 (by decide)
  have e18 := l1.1 18 (by decide)
  have cst := clampI a1
  have st : ∀ s : Nat, (s : Int) < (o.1 8 0).toInt → n.1 9 s = o.1 9 s ∧ n.1 9 (s + 1) = o.1 9 (s + 1) ∧ n.1 10 s = o.1 10 s := fun s hs => ⟨(l3 s (by omega)).1, by
    by_cases w : s + 1 < 25
    · exact (l3 (s + 1) w).1
    · omega, (l3 s (by omega)).2⟩
  unfold PG
  rw [e17, e18]
  refine ⟨by rw [l4]; exact ⟨a1, a2⟩, fun s hs => ?_, fun x hx => ?_, d, by rw [(l3 0 (by omega)).1]; exact e, ?_⟩
  · rw [l4] at hs
    obtain ⟨q1, q2, q3⟩ := st s hs
    obtain ⟨p1, p2, p3, p4⟩ := b s hs
    rw [q1, q2, q3]
    have ce := clampI (x := o.1 9 (s + 1)) (by omega)
    exact ⟨p1, p2, p3, STM_ext (fun k hk => (l2 k (by omega)).1) (fun k hk => (l2 k (by omega)).2) p4⟩
  · obtain ⟨p1, p2, p3⟩ := c x hx
    refine ⟨p1, by rw [l4]; exact p2, fun z => ?_⟩
    have cx := clampI z
    rw [(l3 _ (by omega)).2]; exact p3 z
  · rw [l4, (l3 _ (by omega)).1]
    have hb : (o.1 9 (Int32.toNatClampNeg (o.1 8 0))).toInt ≤ 410 ∧ 0 ≤ (o.1 9 (Int32.toNatClampNeg (o.1 8 0))).toInt := by
      by_cases w : (o.1 8 0).toInt = 0
      · have z : Int32.toNatClampNeg (o.1 8 0) = 0 := by omega
        rw [z]; omega
      · obtain ⟨p1, p2, p3, _⟩ := b (Int32.toNatClampNeg (o.1 8 0) - 1) (by omega)
        rw [show Int32.toNatClampNeg (o.1 8 0) - 1 + 1 = Int32.toNatClampNeg (o.1 8 0) by omega] at p2 p3
        omega
    have cb := clampI hb.2
    rw [wsm_ext (g := o.1 5) (q := o.1 6) (c := 0) _ (fun k hk => (l2 _ (by omega)).1) (fun k hk => (l2 _ (by omega)).2)]
    exact f
/-- what reading leaves -/
def RO (o n : Ob) : Prop := (g32 n 2 0).toInt = 0 ∧ FR [0, 2, 3, 4, 5, 6, 7, 8, 9, 10, 11, 12, 13, 14, 17, 18] [] o n ∧ N01 n ∧ ((g32 n 11 0 = g32 o 11 0 ∧ g32 n 12 0 = g32 o 12 0 ∧ (PG o → PG n)) ∨ PG n)
theorem m_read_103 (o a : Ob) (hl : LOW o a) (hN : N01 o) (h : (TS a ∧ 1 ≤ (g32 a 8 1).toInt) ∨ 0 ≤ (g32 a 4 0).toInt) : ∃ (r : Int32) (n0 : Ob), F_Mod_read_103 a = some (r, n0) ∧ RO o n0 := by
  have z0 : (0 : Int32).toInt = 0 := rfl
  have hNa : N01 a := fun j => by rw [hl.1.g (by decide)]; exact hN j
  rw [F_Mod_read_103]
  by_cases c : (g32 a 4 0) < 0
  · rw [if_pos c]
    have c := Int32.lt_iff_toInt_lt.mp c
    obtain ⟨⟨⟨⟨a1, a2, a3, a4, a5⟩, a6, a7, a8, a9⟩, hCS⟩, h1⟩ : TS a ∧ 1 ≤ (g32 a 8 1).toInt := by
      rcases h with h | h
      · exact h
      · omega
    obtain ⟨n0, q1, q2, q3, q4⟩ := m_accept (s32 a 2 0 (0 : Int32)) hCS ⟨h1, a9⟩ ⟨a1, show (g32 a 7 1).toInt ≤ 400 by omega⟩ (show wsm (a.1 5) (a.1 6) 500 (Int32.toNatClampNeg (g32 a 7 1)) ≤ 800 by omega) hNa
    rw [q1, bind1_s, show (inb (0 : Int32) 2) = true from by decide, chk_tr]
    refine ⟨_, n0, rfl, ?_, ?_, q4, Or.inr q3⟩
    · rw [q2.g (by decide)]; rfl
    · exact FR.tr (hl.1.mono (by decide) (by decide)) (FR.tr (FR.s FR.refl (by decide)) (q2.mono (by decide) (by decide)))
  · rw [if_neg c]
    refine ⟨_, _, rfl, rfl, FR.s (hl.1.mono (by decide) (by decide)) (by decide), hNa, Or.inl ⟨?_, ?_, fun p => ?_⟩⟩
    · exact hl.1.g (by decide) 0
    · exact hl.1.g (by decide) 0
    · have q := p.low hl
      exact q
theorem m_read_33 (o : Ob) (hN : N01 o) : ∀ (n : Nat) (a : Ob), LOW o a → (((TS a ∧ 1 ≤ (g32 a 8 1).toInt) ∧ 25 - (g32 a 8 1).toInt < (n : Int)) ∨ (SF a 5 0 ∧ 1 ≤ (n : Int))) → ∃ (r : Int32) (n0 : Ob), F_Mod_read_33 n a = some (r, n0) ∧ RO o n0 := by
  intro n
  induction n with
  | zero =>
    intro a _ h
    exfalso
    rcases h with ⟨⟨h, _⟩, hn⟩ | ⟨_, h⟩
    · have := h.1.2.2.2.2; omega
    · omega
  | succ n ih =>
    intro a hl h
    have z0 : (0 : Int32).toInt = 0 := rfl
    have z24 : (24 : Int32).toInt = 24 := rfl
    rw [F_Mod_read_33]
    by_cases c : 0 ≤ (g32 a 4 0)
    · rw [if_pos c]
      have c := Int32.le_iff_toInt_le.mp c
      exact m_read_103 o a hl hN (Or.inr (by omega))
    rw [if_neg c]
    have c' : ¬ 0 ≤ (g32 a 4 0).toInt := fun z => c (Int32.le_iff_toInt_le.mpr (by rw [z0]; exact z))
    obtain ⟨⟨hT, h1⟩, hn⟩ : (TS a ∧ 1 ≤ (g32 a 8 1).toInt) ∧ 25 - (g32 a 8 1).toInt < ((n + 1 : Nat) : Int) := by
      rcases h with h | h
      · exact h
      · exact absurd h.1.2 c'
    obtain ⟨⟨⟨a1, a2, a3, a4, a5⟩, a6, a7, a8, a9⟩, hCS⟩ := id hT
    by_cases d : (g32 a 2 0) ≤ (g32 a 3 0)
    · rw [if_pos d]; exact m_read_103 o a hl hN (Or.inl ⟨hT, h1⟩)
    rw [if_neg d]
    have d : ¬ (g32 a 2 0).toInt ≤ (g32 a 3 0).toInt := fun z => d (Int32.le_iff_toInt_le.mpr z)
    obtain ⟨v8, e8, h8⟩ := m_here a (by omega) a5
    rw [e8, bind1_s]
    have e3 := add1 (x := g32 a 3 0) (by omega)
    have bad : ∃ (r : Int32) (n0 : Ob), F_Mod_read_71 (F_Mod_read_33 n) a = some (r, n0) ∧ RO o n0 := by
      obtain ⟨v, ev, hv⟩ := m_failAt (g32 a 3 0) a (by omega)
      rw [F_Mod_read_71, ev, bind1_s, if_pos (Int32.le_iff_toInt_le.mpr (by rw [z0]; exact hv))]
      exact ih _ (LOW.tr hl (LOW.tr (LOW.s34 (by decide)) (LOW.s34 (by decide)))) (Or.inr ⟨⟨⟨a1, show (g32 a 7 1).toInt + 0 ≤ ((g32 a 3 0) + (1 : Int32)).toInt by omega, show ((g32 a 3 0) + (1 : Int32)).toInt ≤ (g32 a 2 0).toInt + 5 by omega, a4, a5⟩, hv⟩, by omega⟩)
    by_cases f : v8 = (59 : Int32)
    · rw [if_pos f, show (inb (1 : Int32) 2) = true from by decide, chk_tr]
      by_cases g : (g32 a 8 (Int32.toNatClampNeg (1 : Int32))) = (24 : Int32)
      · rw [if_pos g]; exact bad
      rw [if_neg g, if_neg c]
      have g : ¬ (g32 a 8 1).toInt = 24 := fun z => g (Int32.toInt_inj.mp z)
      have hT2 : TS (s32 a 3 0 ((g32 a 3 0) + (1 : Int32))) := by
        refine ⟨⟨⟨a1, show (g32 a 7 1).toInt ≤ ((g32 a 3 0) + (1 : Int32)).toInt by omega, show ((g32 a 3 0) + (1 : Int32)).toInt ≤ (g32 a 2 0).toInt by omega, a4, a5⟩, a6, show wsm (a.1 5) (a.1 6) 500 (Int32.toNatClampNeg (g32 a 7 1)) ≤ 2 * ((g32 a 3 0) + (1 : Int32)).toInt by omega, a8, a9⟩, hCS⟩
      obtain ⟨m, q1, q2, q3, q4⟩ := m_readStatement (s32 a 3 0 ((g32 a 3 0) + (1 : Int32))) hT2 (show (g32 a 8 1).toInt < 24 by omega)
      have q4 : (g32 m 8 1).toInt = (g32 a 8 1).toInt + 1 := q4
      rw [q1, bind1_s]
      refine ih m (LOW.tr hl (LOW.tr (LOW.s34 (by decide)) q2)) ?_
      rcases q3 with q | q
      · exact Or.inl ⟨⟨q, by omega⟩, by omega⟩
      · exact Or.inr ⟨q.lo (by omega) (by omega), by omega⟩
    · rw [if_neg f]; exact bad
theorem m_read (o : Ob) (h2 : 0 ≤ (g32 o 2 0).toInt ∧ (g32 o 2 0).toInt ≤ 400) (hN : N01 o) : ∃ (r : Int32) (n0 : Ob), F_Mod_read o = some (r, n0) ∧ RO o n0 := by
  have z0 : (0 : Int32).toInt = 0 := rfl
  rw [F_Mod_read, show (inb (1 : Int32) 2) = true from by decide, chk_tr]
  have hT : TS (s32 (s32 (s32 (s32 (s32 o 0 0 (0 : Int32)) 3 0 (0 : Int32)) 4 0 (-1 : Int32)) 7 (Int32.toNatClampNeg (1 : Int32)) (0 : Int32)) 8 (Int32.toNatClampNeg (1 : Int32)) (0 : Int32)) := by
    refine ⟨⟨⟨show 0 ≤ (0 : Int32).toInt by omega, show (0 : Int32).toInt ≤ (0 : Int32).toInt by omega, show (0 : Int32).toInt ≤ (g32 o 2 0).toInt by omega, h2.1, h2.2⟩, show (-1 : Int32).toInt < 0 by decide, ?_, show 0 ≤ (0 : Int32).toInt by omega, show (0 : Int32).toInt ≤ 24 by omega⟩, fun s hs => ?_, fun z => ?_, fun _ => z0⟩
    · show wsm (o.1 5) (o.1 6) 500 0 ≤ 2 * (0 : Int32).toInt
      have : wsm (o.1 5) (o.1 6) 500 0 = 0 := rfl
      omega
    · have hs : (s : Int) < (0 : Int32).toInt := hs
      omega
    · have z : 0 < (0 : Int32).toInt := z
      omega
  obtain ⟨m, q1, q2, q3, q4⟩ := m_readStatement _ hT (show (0 : Int32).toInt < 24 by omega)
  have q4 : (g32 m 8 1).toInt = (0 : Int32).toInt + 1 := q4
  rw [q1, bind1_s]
  have hf0 : FR [0, 2, 3, 4, 5, 6, 7, 8, 9, 10, 11, 12, 13, 14, 17, 18] [] o (s32 o 0 0 (0 : Int32)) := FR.s FR.refl (by decide)
  have hl : LOW (s32 o 0 0 (0 : Int32)) m := by
    refine LOW.tr (LOW.tr (LOW.tr (LOW.tr (LOW.s34 (k := 3) (i := 0) (v := 0) (by decide)) (LOW.s34 (k := 4) (i := 0) (v := -1) (by decide))) ?_) (LOW.s8 (v := 0))) q2
    exact ⟨FR.s FR.refl (by decide), fun k _ => ⟨rfl, rfl⟩, fun k _ => ⟨rfl, rfl⟩, rfl⟩
  obtain ⟨r, n0, p1, p2, p3, p4, p5⟩ := m_read_33 (s32 o 0 0 (0 : Int32)) hN fuel m hl (by
    rcases q3 with q | q
    · exact Or.inl ⟨⟨q, by omega⟩, by rw [fuel_eq]; omega⟩
    · exact Or.inr ⟨q.lo (by omega) (by omega), by rw [fuel_eq]; omega⟩)
  exact ⟨r, n0, p1, p2, FR.tr hf0 p3, p4, p5⟩
