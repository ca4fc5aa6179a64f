/-! THE REFERENCE: taking over what was read -/
def N01 (o : Ob) : Prop := ∀ j : Nat, 0 ≤ (g32 o 18 j).toInt ∧ (g32 o 18 j).toInt ≤ 1
theorem N01.s {o : Ob} {i : Nat} {v : Int32} (h : N01 o) (h0 : 0 ≤ v.toInt) (h1 : v.toInt ≤ 1) : N01 (s32 o 18 i v) := fun j => by
  rw [g32_same]
  split
  · exact ⟨h0, h1⟩
  · exact h j
def QG (o : Ob) : Prop := (0 ≤ (g32 o 8 0).toInt ∧ (g32 o 8 0).toInt ≤ 24) ∧ (∀ s : Nat, (s : Int) < (g32 o 8 0).toInt → 0 ≤ (o.1 9 s).toInt ∧ (o.1 9 s).toInt ≤ (o.1 9 (s + 1)).toInt ∧ (o.1 9 (s + 1)).toInt ≤ 410 ∧ STM (o.1 5) (o.1 6) (Int32.toNatClampNeg (o.1 9 s)) (Int32.toNatClampNeg (o.1 9 (s + 1))) (o.1 10 s).toInt)
theorem QG.fr {o n : Ob} (h : QG o) (f : FR [18] [] o n) : QG n := by
  unfold QG
  rw [f.g (by decide), f.1 5 (by decide), f.1 6 (by decide), f.1 9 (by decide), f.1 10 (by decide)]
  exact h
def CL (o n : Ob) : Prop := FR [18] [] o n ∧ N01 n
theorem m_cn_124 (M1 M2 : Int) (k108 : Int32 → Ob → Option Ob) (k116 : Int32 → Int32 → Ob → Option Ob) (h116 : ∀ (x1 x2 : Int32) (o : Ob), N01 o → 0 ≤ x1.toInt → x1.toInt < 60 → 0 ≤ x2.toInt → x2.toInt ≤ 60 → 60 - x1.toInt - 1 < M1 → 60 - x2.toInt < M2 → ∃ n0, k116 x1 x2 o = some n0 ∧ CL o n0) : ∀ (n : Nat) (x1 x2 x3 : Int32) (o : Ob), N01 o → 0 ≤ x1.toInt → x1.toInt < 60 → 0 ≤ x2.toInt → x2.toInt < 60 → 0 ≤ x3.toInt → x3.toInt ≤ 60 → 60 - x1.toInt - 1 < M1 → 60 - x2.toInt - 1 < M2 → 60 - x3.toInt < (n : Int) → ∃ n0, F_Mod_closeNeeds_124 k108 k116 n x1 x2 x3 o = some n0 ∧ CL o n0 := by
  intro n
  induction n with
  | zero => intro x1 x2 x3 o _ _ _ _ _ _ _ _ _ _; exfalso; omega
  | succ n ih =>
    intro x1 x2 x3 o hN h1 h1b h2 h2b h3 h3b hM1 hM2 hn
    have z60 : (60 : Int32).toInt = 60 := rfl
    have e2 := add1 (x := x2) (by omega)
    have e3 := add1 (x := x3) (by omega)
    rw [F_Mod_closeNeeds_124]
    by_cases c : (60 : Int32) ≤ x3
    · rw [if_pos c]
      exact h116 x1 _ o hN h1 h1b (by omega) (by omega) hM1 (by omega)
    rw [if_neg c]
    have c : ¬ 60 ≤ x3.toInt := fun z => c (Int32.le_iff_toInt_le.mpr (by omega))
    have a23 := ix60 (p := x2) (q := x3) h2 h2b h3 (by omega)
    have a21 := ix60 (p := x2) (q := x1) h2 h2b h1 h1b
    have a13 := ix60 (p := x1) (q := x3) h1 h1b h3 (by omega)
    have go : ∀ (i : Nat) (v : Int32), 0 ≤ v.toInt → v.toInt ≤ 1 → ∃ n0, F_Mod_closeNeeds_124 k108 k116 n x1 x2 (x3 + (1 : Int32)) (s32 o 18 i v) = some n0 ∧ CL o n0 := by
      intro i v v0 v1
      obtain ⟨n0, q1, q2, q3⟩ := ih x1 x2 (x3 + (1 : Int32)) (s32 o 18 i v) (hN.s v0 v1) h1 h1b h2 h2b (by omega) (by omega) hM1 hM2 (by omega)
      exact ⟨n0, q1, FR.tr (FR.s FR.refl (by decide)) q2, q3⟩
    rw [show (inb (((60 : Int32) * x2) + x3) 3600) = true from inb_iff.mpr ⟨by omega, by omega⟩, chk_tr]
    split
    · rw [show (inb (((60 : Int32) * x2) + x1) 3600) = true from inb_iff.mpr ⟨by omega, by omega⟩, chk_tr]
      split
      · rw [nar_b0]; exact go _ 0 (by decide) (by decide)
      · rw [show (inb (((60 : Int32) * x1) + x3) 3600) = true from inb_iff.mpr ⟨by omega, by omega⟩, chk_tr]
        split
        · rw [nar_b0]; exact go _ 0 (by decide) (by decide)
        · rw [nar_b1]; exact go _ 1 (by decide) (by decide)
    · rw [nar_b1]; exact go _ 1 (by decide) (by decide)
theorem m_cn_116 (M1 : Int) (k108 : Int32 → Ob → Option Ob) (h108 : ∀ (x1 : Int32) (o : Ob), N01 o → 0 ≤ x1.toInt → x1.toInt ≤ 60 → 60 - x1.toInt < M1 → ∃ n0, k108 x1 o = some n0 ∧ CL o n0) : ∀ (n : Nat) (x1 x2 : Int32) (o : Ob), N01 o → 0 ≤ x1.toInt → x1.toInt < 60 → 0 ≤ x2.toInt → x2.toInt ≤ 60 → 60 - x1.toInt - 1 < M1 → 60 - x2.toInt < (n : Int) → ∃ n0, F_Mod_closeNeeds_116 k108 n x1 x2 o = some n0 ∧ CL o n0 := by
  intro n
  induction n with
  | zero => intro x1 x2 o _ _ _ _ _ _ _; exfalso; omega
  | succ n ih =>
    intro x1 x2 o hN h1 h1b h2 h2b hM hn
    have z60 : (60 : Int32).toInt = 60 := rfl
    have z0 : (0 : Int32).toInt = 0 := rfl
    have e1 := add1 (x := x1) (by omega)
    rw [F_Mod_closeNeeds_116]
    by_cases c : (60 : Int32) ≤ x2
    · rw [if_pos c]; exact h108 _ o hN (by omega) (by omega) (by omega)
    rw [if_neg c]
    have c : ¬ 60 ≤ x2.toInt := fun z => c (Int32.le_iff_toInt_le.mpr (by omega))
    exact m_cn_124 M1 (n : Int) k108 (F_Mod_closeNeeds_116 k108 n) (fun y1 y2 o' a b c d e f g => ih y1 y2 o' a b c d e f g) fuel x1 x2 0 o hN h1 h1b h2 (by omega) (by omega) (by omega) hM (by omega) (by rw [fuel_eq]; omega)
theorem m_cn_108 : ∀ (n : Nat) (x1 : Int32) (o : Ob), N01 o → 0 ≤ x1.toInt → x1.toInt ≤ 60 → 60 - x1.toInt < (n : Int) → ∃ n0, F_Mod_closeNeeds_108 n x1 o = some n0 ∧ CL o n0 := by
  intro n
  induction n with
  | zero => intro x1 o _ _ _ _; exfalso; omega
  | succ n ih =>
    intro x1 o hN h1 h1b hn
    have z60 : (60 : Int32).toInt = 60 := rfl
    have z0 : (0 : Int32).toInt = 0 := rfl
    rw [F_Mod_closeNeeds_108]
    by_cases c : (60 : Int32) ≤ x1
    · rw [if_pos c]; exact ⟨o, rfl, FR.refl, hN⟩
    rw [if_neg c]
    have c : ¬ 60 ≤ x1.toInt := fun z => c (Int32.le_iff_toInt_le.mpr (by omega))
    exact m_cn_116 (n : Int) (F_Mod_closeNeeds_108 n) ih fuel x1 0 o hN h1 (by omega) (by omega) (by omega) (by omega) (by rw [fuel_eq]; omega)
theorem m_cn_41 (M : Int) (x1 : Int32) (k24 : Int32 → Ob → Option Ob) (hk : ∀ (x : Int32) (o : Ob), QG o → N01 o → 0 ≤ x.toInt → x.toInt ≤ 24 → 24 - x.toInt < M → ∃ n0, k24 x o = some n0 ∧ CL o n0) (h1 : 0 ≤ x1.toInt) (h1b : x1.toInt < 24) (hM : 24 - x1.toInt - 1 < M) : ∀ (n : Nat) (x2 : Int32) (o : Ob), QG o → N01 o → x1.toInt < (g32 o 8 0).toInt → (o.1 9 (Int32.toNatClampNeg x1)).toInt ≤ x2.toInt → x2.toInt ≤ 410 → 410 - x2.toInt < (n : Int) → ∃ n0, F_Mod_closeNeeds_41 k24 n x1 x2 o = some n0 ∧ CL o n0 := by
  intro n
  induction n with
  | zero => intro x2 o _ _ _ _ _ _; exfalso; omega
  | succ n ih =>
    intro x2 o hQ hN hst h2 h2b hn
    have z0 : (0 : Int32).toInt = 0 := rfl
    have e1 := add1 (x := x1) (by omega)
    have c1 := clampI h1
    have cs := clampS (x := x1) h1 (by omega)
    obtain ⟨b0, b1, b2, ⟨⟨s1, s2, s3, s4⟩, hS, _⟩⟩ := hQ.2 (Int32.toNatClampNeg x1) (by omega)
    have g9 : (g32 o 9 (Int32.toNatClampNeg (x1 + (1 : Int32)))) = o.1 9 (Int32.toNatClampNeg x1 + 1) := by rw [cs]; rfl
    have g10 : (g32 o 10 (Int32.toNatClampNeg x1)) = o.1 10 (Int32.toNatClampNeg x1) := rfl
    rw [F_Mod_closeNeeds_41, show (inb (x1 + (1 : Int32)) 50) = true from inb_iff.mpr ⟨by omega, by omega⟩, chk_tr]
    by_cases c : (g32 o 9 (Int32.toNatClampNeg (x1 + (1 : Int32)))) ≤ x2
    · rw [if_pos c]; exact hk _ o hQ hN (by omega) (by omega) (by omega)
    rw [if_neg c]
    have c : ¬ (o.1 9 (Int32.toNatClampNeg x1 + 1)).toInt ≤ x2.toInt := fun z => c (Int32.le_iff_toInt_le.mpr (by rw [g9]; exact z))
    rw [show (inb x1 50) = true from inb_iff.mpr ⟨by omega, by omega⟩, chk_tr]
    by_cases d : (g32 o 10 (Int32.toNatClampNeg x1)) < 0
    · rw [if_pos d]; exact hk _ o hQ hN (by omega) (by omega) (by omega)
    rw [if_neg d]
    have d : ¬ (g32 o 10 (Int32.toNatClampNeg x1)).toInt < 0 := fun z => d (Int32.lt_iff_toInt_lt.mpr (by omega))
    rw [show (inb x2 1000) = true from inb_iff.mpr ⟨by omega, by omega⟩, chk_tr]
    have e2 := add1 (x := x2) (by omega)
    by_cases f : (g32 o 5 (Int32.toNatClampNeg x2)) = (3 : Int32)
    · rw [if_pos f]
      have cx := clampI (x := x2) (by omega)
      have cb := clampI b0
      have ce := clampI (x := o.1 9 (Int32.toNatClampNeg x1 + 1)) (by omega)
      have hk2 := hS (Int32.toNatClampNeg x2 - Int32.toNatClampNeg (o.1 9 (Int32.toNatClampNeg x1))) (by omega)
      rw [show Int32.toNatClampNeg (o.1 9 (Int32.toNatClampNeg x1)) + (Int32.toNatClampNeg x2 - Int32.toNatClampNeg (o.1 9 (Int32.toNatClampNeg x1))) = Int32.toNatClampNeg x2 by omega] at hk2
      have f3 : (o.1 5 (Int32.toNatClampNeg x2)).toInt = 3 := by
        have : g32 o 5 (Int32.toNatClampNeg x2) = o.1 5 (Int32.toNatClampNeg x2) := rfl
        rw [← this, f]; rfl
      obtain ⟨_, _, _, k3, _⟩ := hk2
      have k3 : 0 ≤ (g32 o 6 (Int32.toNatClampNeg x2)).toInt ∧ (g32 o 6 (Int32.toNatClampNeg x2)).toInt < 60 := k3 f3
      have ix := ix60 (p := g32 o 10 (Int32.toNatClampNeg x1)) (q := g32 o 6 (Int32.toNatClampNeg x2)) (by omega) (by rw [g10]; exact s4) k3.1 k3.2
      have s4' : (g32 o 10 (Int32.toNatClampNeg x1)).toInt < 60 := s4
      rw [show (inb (((60 : Int32) * (g32 o 10 (Int32.toNatClampNeg x1))) + (g32 o 6 (Int32.toNatClampNeg x2))) 3600) = true from inb_iff.mpr ⟨by omega, by omega⟩, chk_tr, nar_b1]
      have hf : FR [18] [] o (s32 o 18 (Int32.toNatClampNeg (((60 : Int32) * (g32 o 10 (Int32.toNatClampNeg x1))) + (g32 o 6 (Int32.toNatClampNeg x2)))) 1) := FR.s FR.refl (by decide)
      obtain ⟨n0, q1, q2, q3⟩ := ih (x2 + (1 : Int32)) _ (hQ.fr hf) (hN.s (by decide) (by decide)) hst (show (o.1 9 (Int32.toNatClampNeg x1)).toInt ≤ _ by omega) (by omega) (by omega)
      exact ⟨n0, q1, FR.tr hf q2, q3⟩
    · rw [if_neg f]; exact ih _ o hQ hN hst (by omega) (by omega) (by omega)
theorem m_cn_24 : ∀ (n : Nat) (x1 : Int32) (o : Ob), QG o → N01 o → 0 ≤ x1.toInt → x1.toInt ≤ 24 → 24 - x1.toInt < (n : Int) → ∃ n0, F_Mod_closeNeeds_24 n x1 o = some n0 ∧ CL o n0 := by
  intro n
  induction n with
  | zero => intro x1 o _ _ _ _ _; exfalso; omega
  | succ n ih =>
    intro x1 o hQ hN h1 h1b hn
    have z0 : (0 : Int32).toInt = 0 := rfl
    have q0 := hQ.1
    rw [F_Mod_closeNeeds_24, show (inb (0 : Int32) 2) = true from by decide, chk_tr]
    by_cases c : (g32 o 8 (Int32.toNatClampNeg (0 : Int32))) ≤ x1
    · rw [if_pos c]; exact m_cn_108 fuel 0 o hN (by omega) (by omega) (by rw [fuel_eq]; omega)
    rw [if_neg c]
    have c : ¬ (g32 o 8 0).toInt ≤ x1.toInt := fun z => c (Int32.le_iff_toInt_le.mpr z)
    rw [show (inb x1 50) = true from inb_iff.mpr ⟨by omega, by omega⟩, chk_tr]
    have c1 := clampI h1
    obtain ⟨b0, b1, b2, _⟩ := hQ.2 (Int32.toNatClampNeg x1) (by omega)
    exact m_cn_41 (n : Int) x1 (F_Mod_closeNeeds_24 n) ih h1 (by omega) (by omega) fuel (g32 o 9 (Int32.toNatClampNeg x1)) o hQ hN (by omega) (Int.le_refl _) (show (o.1 9 (Int32.toNatClampNeg x1)).toInt ≤ 410 by omega) (by rw [fuel_eq]; show 410 - (o.1 9 (Int32.toNatClampNeg x1)).toInt < _; omega)
theorem m_cn_2 : ∀ (n : Nat) (x1 : Int32) (o : Ob), QG o → N01 o → 0 ≤ x1.toInt → x1.toInt ≤ 3600 → 3600 - x1.toInt < (n : Int) → ∃ n0, F_Mod_closeNeeds_2 n x1 o = some n0 ∧ CL o n0 := by
  intro n
  induction n with
  | zero => intro x1 o _ _ _ _ _; exfalso; omega
  | succ n ih =>
    intro x1 o hQ hN h1 h1b hn
    have z0 : (0 : Int32).toInt = 0 := rfl
    have z36 : (3600 : Int32).toInt = 3600 := rfl
    rw [F_Mod_closeNeeds_2]
    by_cases c : (3600 : Int32) ≤ x1
    · rw [if_pos c]; exact m_cn_24 fuel 0 o hQ hN (by omega) (by omega) (by rw [fuel_eq]; omega)
    rw [if_neg c]
    have c : ¬ 3600 ≤ x1.toInt := fun z => c (Int32.le_iff_toInt_le.mpr (by omega))
    have e1 := add1 (x := x1) (by omega)
    rw [show (inb x1 3600) = true from inb_iff.mpr ⟨by omega, by omega⟩, chk_tr, nar_b0]
    have hf : FR [18] [] o (s32 o 18 (Int32.toNatClampNeg x1) 0) := FR.s FR.refl (by decide)
    obtain ⟨n0, q1, q2, q3⟩ := ih (x1 + (1 : Int32)) _ (hQ.fr hf) (hN.s (by decide) (by decide)) (by omega) (by omega) (by omega)
    exact ⟨n0, q1, FR.tr hf q2, q3⟩
theorem m_closeNeeds (o : Ob) (hQ : QG o) (hN : N01 o) : ∃ n0, F_Mod_closeNeeds o = some n0 ∧ CL o n0 := by
  have z0 : (0 : Int32).toInt = 0 := rfl
  exact m_cn_2 fuel 0 o hQ hN (by omega) (by omega) (by rw [fuel_eq]; omega)
/-- which statement defines a cell -/
def LN (o : Ob) (m : Int) : Prop := ∀ c : Nat, c < 60 → -1 ≤ (o.1 17 c).toInt ∧ (o.1 17 c).toInt < m ∧ (0 ≤ (o.1 17 c).toInt → 0 ≤ (o.1 10 (Int32.toNatClampNeg (o.1 17 c))).toInt)
def WG (o : Ob) : Prop := (o.1 9 0).toInt = 0 ∧ wsm (o.1 5) (o.1 6) 0 (Int32.toNatClampNeg (o.1 9 (Int32.toNatClampNeg (o.1 8 0)))) + 4 * (o.1 8 0).toInt ≤ 896
theorem m_acc_148 : ∀ (n : Nat) (x1 : Int32) (o : Ob), QG o → N01 o → WG o → 0 ≤ x1.toInt → x1.toInt ≤ (g32 o 8 0).toInt → LN o x1.toInt → 24 - x1.toInt < (n : Int) → ∃ n0, F_Mod_accept_148 n x1 o = some n0 ∧ FR [17, 18] [] o n0 ∧ PG n0 ∧ N01 n0 := by
  intro n
  induction n with
  | zero => intro x1 o hQ _ _ _ _ _ _; exfalso; have := hQ.1; omega
  | succ n ih =>
    intro x1 o hQ hN hW h1 h1b hL hn
    have q0 := hQ.1
    have z0 : (0 : Int32).toInt = 0 := rfl
    rw [F_Mod_accept_148, show (inb (0 : Int32) 2) = true from by decide, chk_tr]
    by_cases c : (g32 o 8 (Int32.toNatClampNeg (0 : Int32))) ≤ x1
    · rw [if_pos c]
      have c : (g32 o 8 0).toInt ≤ x1.toInt := Int32.le_iff_toInt_le.mp c
      obtain ⟨n0, q1, q2, q3⟩ := m_closeNeeds o hQ hN
      rw [q1, bind1_s]
      refine ⟨n0, rfl, q2.mono (by decide) (by decide), ?_, q3⟩
      unfold PG
      rw [q2.1 5 (by decide), q2.1 6 (by decide), q2.1 8 (by decide), q2.1 9 (by decide), q2.1 10 (by decide), q2.1 17 (by decide)]
      exact ⟨hQ.1, hQ.2, fun c hc => by obtain ⟨a1, a2, a3⟩ := hL c hc; exact ⟨a1, show (o.1 17 c).toInt < (g32 o 8 0).toInt by omega, a3⟩, q3, hW.1, hW.2⟩
    rw [if_neg c]
    have c : ¬ (g32 o 8 0).toInt ≤ x1.toInt := fun z => c (Int32.le_iff_toInt_le.mpr z)
    have e1 := add1 (x := x1) (by omega)
    have c1 := clampI h1
    obtain ⟨b0, b1, b2, ⟨⟨s1, s2, s3, s4⟩, _⟩⟩ := hQ.2 (Int32.toNatClampNeg x1) (by omega)
    rw [show (inb x1 50) = true from inb_iff.mpr ⟨by omega, by omega⟩, chk_tr]
    by_cases d : (g32 o 10 (Int32.toNatClampNeg x1)) < 0
    · rw [if_pos d]
      exact ih (x1 + (1 : Int32)) o hQ hN hW (by omega) (by omega) (fun c hc => by obtain ⟨a1, a2, a3⟩ := hL c hc; exact ⟨a1, by omega, a3⟩) (by omega)
    rw [if_neg d]
    have d : ¬ (g32 o 10 (Int32.toNatClampNeg x1)).toInt < 0 := fun z => d (Int32.lt_iff_toInt_lt.mpr (by omega))
    have s4' : (g32 o 10 (Int32.toNatClampNeg x1)).toInt < 60 := s4
    rw [show (inb (g32 o 10 (Int32.toNatClampNeg x1)) 60) = true from inb_iff.mpr ⟨by omega, by omega⟩, chk_tr]
    have hf : FR [17, 18] [] o (s32 o 17 (Int32.toNatClampNeg (g32 o 10 (Int32.toNatClampNeg x1))) x1) := FR.s FR.refl (by decide)
    obtain ⟨n0, q1, q2, q3⟩ := ih (x1 + (1 : Int32)) (s32 o 17 (Int32.toNatClampNeg (g32 o 10 (Int32.toNatClampNeg x1))) x1) hQ hN hW (by omega) (by show (x1 + (1 : Int32)).toInt ≤ (g32 o 8 0).toInt; omega) (fun c hc => by
      by_cases w : c = Int32.toNatClampNeg (g32 o 10 (Int32.toNatClampNeg x1))
      · have e : (s32 o 17 (Int32.toNatClampNeg (g32 o 10 (Int32.toNatClampNeg x1))) x1).1 17 c = x1 := if_pos w
        rw [e]
        exact ⟨by omega, by omega, fun _ => show 0 ≤ (g32 o 10 (Int32.toNatClampNeg x1)).toInt by omega⟩
      · have e : (s32 o 17 (Int32.toNatClampNeg (g32 o 10 (Int32.toNatClampNeg x1))) x1).1 17 c = o.1 17 c := if_neg w
        obtain ⟨a1, a2, a3⟩ := hL c hc
        rw [e]
        exact ⟨a1, by omega, a3⟩) (by omega)
    exact ⟨n0, q1, FR.tr hf q2, q3⟩
theorem m_acc_127 : ∀ (n : Nat) (x1 : Int32) (o : Ob), QG o → N01 o → WG o → 0 ≤ x1.toInt → x1.toInt ≤ 60 → (∀ c : Nat, (c : Int) < x1.toInt → o.1 17 c = -1) → 60 - x1.toInt < (n : Int) → ∃ n0, F_Mod_accept_127 n x1 o = some n0 ∧ FR [17, 18] [] o n0 ∧ PG n0 ∧ N01 n0 := by
  intro n
  induction n with
  | zero => intro x1 o _ _ _ _ _ _ _; exfalso; omega
  | succ n ih =>
    intro x1 o hQ hN hW h1 h1b hL hn
    have z60 : (60 : Int32).toInt = 60 := rfl
    have z0 : (0 : Int32).toInt = 0 := rfl
    have q0 := hQ.1
    rw [F_Mod_accept_127]
    by_cases c : (60 : Int32) ≤ x1
    · rw [if_pos c]
      have c := Int32.le_iff_toInt_le.mp c
      exact m_acc_148 fuel 0 o hQ hN hW (by omega) (by omega) (fun c hc => by rw [hL c (by omega), neg1]; exact ⟨by omega, by omega, fun z => by omega⟩) (by rw [fuel_eq]; omega)
    rw [if_neg c]
    have c : ¬ 60 ≤ x1.toInt := fun z => c (Int32.le_iff_toInt_le.mpr (by omega))
    have e1 := add1 (x := x1) (by omega)
    have c1 := clampI h1
    rw [show (inb x1 60) = true from inb_iff.mpr ⟨by omega, by omega⟩, chk_tr]
    have hf : FR [17, 18] [] o (s32 o 17 (Int32.toNatClampNeg x1) (-1 : Int32)) := FR.s FR.refl (by decide)
    obtain ⟨n0, q1, q2, q3⟩ := ih (x1 + (1 : Int32)) (s32 o 17 (Int32.toNatClampNeg x1) (-1 : Int32)) hQ hN hW (by omega) (by omega) (fun c hc => by
      by_cases w : c = Int32.toNatClampNeg x1
      · exact if_pos w
      · have e : (s32 o 17 (Int32.toNatClampNeg x1) (-1 : Int32)).1 17 c = o.1 17 c := if_neg w
        rw [e]; exact hL c (by omega)) (by omega)
    exact ⟨n0, q1, FR.tr hf q2, q3⟩
