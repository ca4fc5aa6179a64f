/-! THE REFERENCE: printing -/
theorem i32_div {a b : Int32} (h0 : 0 ≤ a.toInt) (h1 : 0 < b.toInt) : (a / b).toInt = a.toInt / b.toInt := by
  have h2 := a.toInt_lt
  rw [Int32.toInt_div, Int.tdiv_eq_ediv_of_nonneg h0]
  have q1 : 0 ≤ a.toInt / b.toInt := Int.ediv_nonneg h0 (by omega)
  have q2 : a.toInt / b.toInt ≤ a.toInt := Int.ediv_le_self _ h0
  rw [Int.bmod_eq_of_le] <;> omega
theorem i32_rem {a b : Int32} (h0 : 0 ≤ a.toInt) (h1 : 0 < b.toInt) : (a - a / b * b).toInt = a.toInt % b.toInt := by
  have h2 := a.toInt_lt
  have hd := i32_div h0 h1
  have hmul : a.toInt / b.toInt * b.toInt ≤ a.toInt := Int.ediv_mul_le _ (by omega)
  have hm0 : 0 ≤ a.toInt / b.toInt * b.toInt := Int.mul_nonneg (Int.ediv_nonneg h0 (by omega)) (by omega)
  have hm : (a / b * b).toInt = a.toInt / b.toInt * b.toInt := by
    have q := tmul (a := a / b) (b := b) (by rw [hd]; omega) (by rw [hd]; omega)
    rw [q, hd]
  have he := Int.emod_def a.toInt b.toInt
  have he2 : b.toInt * (a.toInt / b.toInt) = a.toInt / b.toInt * b.toInt := Int.mul_comm _ _
  rw [tsub (by omega) (by omega), hm]
  omega
/-- a print that adds c characters -/
def PA (o n : Ob) (c : Int) : Prop := FR [32, 33] [] o n ∧ (g32 n 33 0).toInt = (g32 o 33 0).toInt + c
theorem PA.tr {o m n : Ob} {c d e : Int} (h : PA o m c) (g : PA m n d) (he : e = c + d) : PA o n e := ⟨FR.tr h.1 g.1, by rw [g.2, h.2, he]; omega⟩
theorem m_add (x : Int32) (o : Ob) (h0 : 0 ≤ (g32 o 33 0).toInt) (h1 : (g32 o 33 0).toInt < 900) : ∃ n0, F_Mod_add x o = some n0 ∧ PA o n0 1 := by
  rw [F_Mod_add, show (inb (g32 o 33 0) 900) = true from inb_iff.mpr ⟨h0, by omega⟩, chk_tr]
  exact ⟨_, rfl, FR.s (FR.s FR.refl (by decide)) (by decide), add1 (by omega)⟩
theorem m_insert_5 (x1 x2 : Int32) (h1 : 0 ≤ x1.toInt) (h1b : x1.toInt < 900) : ∀ (n : Nat) (x3 : Int32) (o : Ob), x3.toInt < 900 → 0 ≤ x3.toInt → (g32 o 33 0).toInt < 900 → x3.toInt < (n : Int) → ∃ n0, F_Mod_insert_5 n x1 x2 x3 o = some n0 ∧ PA o n0 1 := by
  intro n
  induction n with
  | zero => intro x3 o _ _ _ _; exfalso; omega
  | succ n ih =>
    intro x3 o h3 h3b hp hn
    rw [F_Mod_insert_5]
    by_cases c : x3 ≤ x1
    · rw [if_pos c, show (inb x1 900) = true from inb_iff.mpr ⟨h1, by omega⟩, chk_tr]
      exact ⟨_, rfl, FR.s (FR.s FR.refl (by decide)) (by decide), add1 (by omega)⟩
    rw [if_neg c]
    have c : ¬ x3.toInt ≤ x1.toInt := fun z => c (Int32.le_iff_toInt_le.mpr z)
    have e := sub1 (x := x3) (by omega)
    have e2 : (x3 + (-1 : Int32)).toInt = x3.toInt - 1 := by rw [tadd (by rw [neg1]; omega) (by rw [neg1]; omega), neg1]; omega
    rw [show (inb (x3 - (1 : Int32)) 900) = true from inb_iff.mpr ⟨by omega, by omega⟩, chk_tr, show (inb x3 900) = true from inb_iff.mpr ⟨by omega, by omega⟩, chk_tr]
    obtain ⟨n0, q1, q2, q3⟩ := ih (x3 + (-1 : Int32)) (s32 o 32 (Int32.toNatClampNeg x3) (g32 o 32 (Int32.toNatClampNeg (x3 - (1 : Int32))))) (by omega) (by omega) hp (by omega)
    exact ⟨n0, q1, FR.tr (FR.s FR.refl (by decide)) q2, q3⟩
theorem m_insert (x1 x2 : Int32) (o : Ob) (h1 : 0 ≤ x1.toInt) (h1b : x1.toInt < 900) (h0 : 0 ≤ (g32 o 33 0).toInt) (hp : (g32 o 33 0).toInt < 900) : ∃ n0, F_Mod_insert x1 x2 o = some n0 ∧ PA o n0 1 :=
  m_insert_5 x1 x2 h1 h1b fuel (g32 o 33 0) o hp h0 hp (by rw [fuel_eq]; omega)
theorem m_enclose (x1 : Int32) (o : Ob) (h1 : 0 ≤ x1.toInt) (h1b : x1.toInt < 900) (h0 : 0 ≤ (g32 o 33 0).toInt) (hp : (g32 o 33 0).toInt < 899) : ∃ n0, F_Mod_enclose x1 o = some n0 ∧ PA o n0 2 := by
  rw [F_Mod_enclose]
  obtain ⟨m, q1, q2⟩ := m_insert x1 40 o h1 h1b h0 (by omega)
  have q3 := q2.2
  rw [q1, bind1_s]
  obtain ⟨n0, p1, p2⟩ := m_add 41 m (by omega) (by omega)
  rw [p1, bind1_s]
  exact ⟨n0, rfl, PA.tr q2 p2 rfl⟩
def dg (x c : Int) : Prop := (x = 0 ∧ c = 0) ∨ (x = 1 ∧ c = 1) ∨ (x = 10 ∧ c = 2) ∨ (x = 100 ∧ c = 3) ∨ (x = 1000 ∧ c = 4) ∨ (x = 10000 ∧ c = 5)
theorem dg_rg {x c : Int} (h : dg x c) : 0 ≤ x ∧ x ≤ 10000 ∧ 0 ≤ c ∧ c ≤ 5 ∧ (0 < x → dg (x / 10) (c - 1)) ∧ (x ≤ 0 → c = 0) := by
  unfold dg at *
  omega
theorem m_aw_20 (x1 : Int32) : ∀ (n : Nat) (x3 : Int32) (o : Ob) (c : Int), dg x3.toInt c → 0 ≤ (g32 o 33 0).toInt → (g32 o 33 0).toInt + c ≤ 900 → c < (n : Int) → ∃ n0, F_Mod_addWhole_20 n x1 x3 o = some n0 ∧ PA o n0 c := by
  intro n
  induction n with
  | zero => intro x3 o c hd _ _ hn; exfalso; have := dg_rg hd; omega
  | succ n ih =>
    intro x3 o c hd h0 h1 hn
    obtain ⟨d1, d2, d3, d4, d5, d6⟩ := dg_rg hd
    rw [F_Mod_addWhole_20]
    by_cases w : x3 ≤ 0
    · rw [if_pos w]
      have w := le0 w
      rw [d6 w]
      exact ⟨o, rfl, FR.refl, by omega⟩
    rw [if_neg w]
    have w := nle0 w
    have n3 : ¬ x3 = 0 := fun z => by rw [z] at w; exact absurd w (by decide)
    have z10 : (10 : Int32).toInt = 10 := rfl
    have ed := i32_div (a := x3) (b := 10) (by omega) (by rw [z10]; omega)
    rw [z10] at ed
    have cp : 1 ≤ c := by unfold dg at hd; omega
    rw [show (decide (¬ x3 = 0)) = true from decide_eq_true n3, chk_tr, show (decide (¬ (10 : Int32) = 0)) = true from by decide, chk_tr]
    obtain ⟨m, q1, q2⟩ := m_add ((48 : Int32) + ((x1 / x3) - (x1 / x3) / (10 : Int32) * (10 : Int32))) o h0 (by omega)
    have q3 := q2.2
    rw [q1, bind1_s]
    obtain ⟨n0, p1, p2⟩ := ih (x3 / (10 : Int32)) m (c - 1) (by rw [ed]; exact d5 w) (by omega) (by omega) (by omega)
    exact ⟨n0, p1, PA.tr q2 p2 (by omega)⟩
theorem m_aw_2 (x1 : Int32) (h1 : 0 ≤ x1.toInt) (h1b : x1.toInt ≤ 99999) : ∀ (n : Nat) (x2 : Int32) (o : Ob) (c : Int), dg x2.toInt c → 1 ≤ c → (c = 1 ∨ x2.toInt ≤ x1.toInt) → 0 ≤ (g32 o 33 0).toInt → ((g32 o 33 0).toInt + 1 ≤ 900 ∧ (10 ≤ x1.toInt → (g32 o 33 0).toInt + 2 ≤ 900) ∧ (100 ≤ x1.toInt → (g32 o 33 0).toInt + 3 ≤ 900) ∧ (1000 ≤ x1.toInt → (g32 o 33 0).toInt + 4 ≤ 900) ∧ (10000 ≤ x1.toInt → (g32 o 33 0).toInt + 5 ≤ 900)) → 6 - c < (n : Int) → ∃ (n0 : Ob) (k : Int), F_Mod_addWhole_2 n x1 x2 o = some n0 ∧ PA o n0 k ∧ 1 ≤ k ∧ k ≤ 5 ∧ (k = 1 ∨ (k = 2 ∧ 10 ≤ x1.toInt) ∨ (k = 3 ∧ 100 ≤ x1.toInt) ∨ (k = 4 ∧ 1000 ≤ x1.toInt) ∨ (k = 5 ∧ 10000 ≤ x1.toInt)) := by
  intro n
  induction n with
  | zero => intro x2 o c hd _ _ _ _ hn; exfalso; have := dg_rg hd; omega
  | succ n ih =>
    intro x2 o c hd hc hx h0 hp hn
    obtain ⟨d1, d2, d3, d4, d5, d6⟩ := dg_rg hd
    have x2p : 0 < x2.toInt := by unfold dg at hd; omega
    have n2 : ¬ x2 = 0 := fun z => by rw [z] at x2p; exact absurd x2p (by decide)
    have z9 : (9 : Int32).toInt = 9 := rfl
    have z10 : (10 : Int32).toInt = 10 := rfl
    have ed := i32_div (a := x1) (b := x2) h1 x2p
    rw [F_Mod_addWhole_2, show (decide (¬ x2 = 0)) = true from decide_eq_true n2, chk_tr]
    by_cases w : (x1 / x2) ≤ (9 : Int32)
    · rw [if_pos w]
      obtain ⟨n0, q1, q2⟩ := m_aw_20 x1 fuel x2 o c hd h0 (by unfold dg at hd; omega) (by rw [fuel_eq]; omega)
      exact ⟨n0, c, q1, q2, hc, d4, by unfold dg at hd; omega⟩
    · rw [if_neg w]
      have w : ¬ x1.toInt / x2.toInt ≤ 9 := fun z => w (Int32.le_iff_toInt_le.mpr (by rw [ed]; omega))
      have em10 : ((10 : Int32) * x2).toInt = 10 * x2.toInt := by rw [tmul (by rw [z10]; omega) (by rw [z10]; omega), z10]
      have hl : 10 * x2.toInt ≤ x1.toInt := by
        have q : 10 ≤ x1.toInt / x2.toInt := by omega
        have := (Int.le_ediv_iff_mul_le x2p).mp q
        omega
      exact ih ((10 : Int32) * x2) o (c + 1) (by rw [em10]; unfold dg at *; omega) (by omega) (Or.inr (by omega)) h0 hp (by omega)
theorem m_addWhole (x1 : Int32) (h1 : 0 ≤ x1.toInt) (h1b : x1.toInt ≤ 99999) (o : Ob) (h0 : 0 ≤ (g32 o 33 0).toInt) (hp : ((g32 o 33 0).toInt + 1 ≤ 900 ∧ (10 ≤ x1.toInt → (g32 o 33 0).toInt + 2 ≤ 900) ∧ (100 ≤ x1.toInt → (g32 o 33 0).toInt + 3 ≤ 900) ∧ (1000 ≤ x1.toInt → (g32 o 33 0).toInt + 4 ≤ 900) ∧ (10000 ≤ x1.toInt → (g32 o 33 0).toInt + 5 ≤ 900))) : ∃ (n0 : Ob) (k : Int), F_Mod_addWhole x1 o = some n0 ∧ PA o n0 k ∧ 1 ≤ k ∧ k ≤ 5 ∧ (k = 1 ∨ (k = 2 ∧ 10 ≤ x1.toInt) ∨ (k = 3 ∧ 100 ≤ x1.toInt) ∨ (k = 4 ∧ 1000 ≤ x1.toInt) ∨ (k = 5 ∧ 10000 ≤ x1.toInt)) :=
  m_aw_2 x1 h1 h1b fuel 1 o 1 (Or.inr (Or.inl ⟨rfl, rfl⟩)) (by omega) (Or.inl rfl) h0 hp (by rw [fuel_eq]; omega)
def cf (d r : Int) : Int := if r ≤ 0 then 0 else if d = 100 then (if r % 100 = 0 then 1 else if r % 10 = 0 then 2 else 3) else if d = 10 then (if r % 10 = 0 then 1 else 2) else 1
theorem cf_rg (d r : Int) : 0 ≤ cf d r ∧ cf d r ≤ 3 := by
  unfold cf
  repeat' split
  all_goals omega
def dr (d r : Int) : Prop := 0 ≤ r ∧ ((d = 100 ∧ r < 1000) ∨ (d = 10 ∧ r < 100) ∨ (d = 1 ∧ r < 10) ∨ (d = 0 ∧ r = 0))
theorem cf_s {d r : Int} (h : dr d r) (hr : 0 < r) : 0 < d ∧ dr (d / 10) (r % d) ∧ cf d r = 1 + cf (d / 10) (r % d) := by
  unfold dr at h
  obtain ⟨h0, h⟩ := h
  rcases h with ⟨a, b⟩ | ⟨a, b⟩ | ⟨a, b⟩ | ⟨a, b⟩
  · rw [a]
    refine ⟨by omega, ⟨by omega, Or.inr (Or.inl ⟨by omega, by omega⟩)⟩, ?_⟩
    unfold cf
    repeat' split
    all_goals omega
  · rw [a]
    refine ⟨by omega, ⟨by omega, Or.inr (Or.inr (Or.inl ⟨by omega, by omega⟩))⟩, ?_⟩
    unfold cf
    repeat' split
    all_goals omega
  · rw [a]
    refine ⟨by omega, ⟨by omega, Or.inr (Or.inr (Or.inr ⟨by omega, by omega⟩))⟩, ?_⟩
    unfold cf
    repeat' split
    all_goals omega
  · omega
theorem m_an_28 : ∀ (n : Nat) (x2 x3 : Int32) (o : Ob), dr x3.toInt x2.toInt → 0 ≤ (g32 o 33 0).toInt → (g32 o 33 0).toInt + cf x3.toInt x2.toInt ≤ 900 → cf x3.toInt x2.toInt < (n : Int) → ∃ n0, F_Mod_addNumber_28 n x2 x3 o = some n0 ∧ PA o n0 (cf x3.toInt x2.toInt) := by
  intro n
  induction n with
  | zero => intro x2 x3 o _ _ _ hn; exfalso; have := cf_rg x3.toInt x2.toInt; omega
  | succ n ih =>
    intro x2 x3 o hd h0 h1 hn
    rw [F_Mod_addNumber_28]
    by_cases w : x2 ≤ 0
    · rw [if_pos w]
      have w := le0 w
      have e : cf x3.toInt x2.toInt = 0 := by unfold cf; rw [if_pos w]
      exact ⟨o, rfl, FR.refl, by omega⟩
    rw [if_neg w]
    have w := nle0 w
    obtain ⟨s1, s2, s3⟩ := cf_s hd w
    have q := cf_rg (x3.toInt / 10) (x2.toInt % x3.toInt)
    have n3 : ¬ x3 = 0 := fun z => by rw [z] at s1; exact absurd s1 (by decide)
    have z10 : (10 : Int32).toInt = 10 := rfl
    have ed := i32_div (a := x3) (b := 10) (by omega) (by rw [z10]; omega)
    rw [z10] at ed
    have er := i32_rem (a := x2) (b := x3) (by omega) s1
    rw [show (decide (¬ x3 = 0)) = true from decide_eq_true n3, chk_tr]
    obtain ⟨m, q1, q2⟩ := m_add ((48 : Int32) + (x2 / x3)) o h0 (by omega)
    have q3 := q2.2
    rw [q1, bind1_s, show (decide (¬ (10 : Int32) = 0)) = true from by decide, chk_tr]
    obtain ⟨n0, p1, p2⟩ := ih (x2 - x2 / x3 * x3) (x3 / (10 : Int32)) m (by rw [ed, er]; exact s2) (by omega) (by rw [ed, er]; omega) (by rw [ed, er]; omega)
    rw [ed, er] at p2
    exact ⟨n0, p1, PA.tr q2 p2 (by omega)⟩
theorem m_addNumber (x1 : Int32) (o : Ob) (h0 : 0 ≤ x1.toInt) (h1 : x1.toInt ≤ 99999999) (hp0 : 0 ≤ (g32 o 33 0).toInt) (hp : (g32 o 33 0).toInt + plen x1.toInt ≤ 900) : ∃ (n0 : Ob) (k : Int), F_Mod_addNumber x1 o = some n0 ∧ PA o n0 k ∧ 0 ≤ k ∧ k ≤ plen x1.toInt := by
  have zk : (1000 : Int32).toInt = 1000 := rfl
  have zh : (100 : Int32).toInt = 100 := rfl
  have z0 : (0 : Int32).toInt = 0 := rfl
  have ed := i32_div (a := x1) (b := 1000) h0 (by rw [zk]; omega)
  have er := i32_rem (a := x1) (b := 1000) h0 (by rw [zk]; omega)
  rw [zk] at ed er
  rw [F_Mod_addNumber, show (decide (¬ (1000 : Int32) = 0)) = true from by decide, chk_tr]
  rw [plen_eq] at hp
  have pf0 : 0 ≤ pf x1.toInt := by
    unfold pf
    repeat' split
    all_goals omega
  have pws : 1 ≤ pw x1.toInt ∧ (10 ≤ x1.toInt / 1000 → 2 ≤ pw x1.toInt) ∧ (100 ≤ x1.toInt / 1000 → 3 ≤ pw x1.toInt) ∧ (1000 ≤ x1.toInt / 1000 → 4 ≤ pw x1.toInt) ∧ (10000 ≤ x1.toInt / 1000 → 5 ≤ pw x1.toInt) := by
    unfold pw
    repeat' split
    all_goals omega
  obtain ⟨m, k, q1, q2, k1, k2, k3⟩ := m_addWhole (x1 / (1000 : Int32)) (by rw [ed]; omega) (by rw [ed]; omega) o hp0 (by rw [ed]; omega)
  have q3 := q2.2
  rw [q1, bind1_s]
  rw [ed] at k3
  have hw : k ≤ pw x1.toInt := by
    unfold pw
    repeat' split
    all_goals omega
  have hdr : dr (100 : Int32).toInt (x1 - x1 / (1000 : Int32) * (1000 : Int32)).toInt := by
    rw [er, zh]
    exact ⟨by omega, Or.inl ⟨rfl, by omega⟩⟩
  have cr := cf_rg (100 : Int32).toInt (x1 - x1 / (1000 : Int32) * (1000 : Int32)).toInt
  by_cases w : (x1 - x1 / (1000 : Int32) * (1000 : Int32)) ≤ 0
  · rw [if_pos w]
    have w := le0 w
    have e : cf (100 : Int32).toInt (x1 - x1 / (1000 : Int32) * (1000 : Int32)).toInt = 0 := by unfold cf; rw [if_pos w]
    obtain ⟨n0, p1, p2⟩ := m_an_28 fuel (x1 - x1 / (1000 : Int32) * (1000 : Int32)) 100 m hdr (by omega) (by omega) (by rw [fuel_eq]; omega)
    rw [e] at p2
    refine ⟨n0, k, p1, PA.tr q2 p2 (by omega), by omega, ?_⟩
    rw [plen_eq]
    omega
  · rw [if_neg w]
    have w := nle0 w
    have e : 1 + cf (100 : Int32).toInt (x1 - x1 / (1000 : Int32) * (1000 : Int32)).toInt ≤ pf x1.toInt := by
      rw [er] at w ⊢
      rw [zh]
      unfold cf pf
      repeat' split
      all_goals omega
    obtain ⟨t, t1, t2⟩ := m_add 46 m (by omega) (by omega)
    have t3 := t2.2
    rw [t1, bind1_s]
    obtain ⟨n0, p1, p2⟩ := m_an_28 fuel (x1 - x1 / (1000 : Int32) * (1000 : Int32)) 100 t hdr (by omega) (by omega) (by rw [fuel_eq]; omega)
    refine ⟨n0, _, p1, PA.tr (PA.tr q2 t2 rfl) p2 rfl, by omega, ?_⟩
    rw [plen_eq]
    omega
theorem m_letterOf (x : Int32) : ∃ r, F_Mod_letterOf x = some r := by
  rw [F_Mod_letterOf]
  split
  · exact ⟨_, rfl⟩
  split
  · exact ⟨_, rfl⟩
  split
  · exact ⟨_, rfl⟩
  exact ⟨_, rfl⟩
theorem m_addCell (x1 : Int32) (o : Ob) (hp0 : 0 ≤ (g32 o 33 0).toInt) (hp : (g32 o 33 0).toInt + 2 ≤ 900) : ∃ n0, F_Mod_addCell x1 o = some n0 ∧ PA o n0 2 := by
  rw [F_Mod_addCell, show (decide (¬ (6 : Int32) = 0)) = true from by decide, chk_tr]
  obtain ⟨m, q1, q2⟩ := m_add ((65 : Int32) + (x1 / (6 : Int32))) o hp0 (by omega)
  have q3 := q2.2
  obtain ⟨v, ev⟩ := m_letterOf (x1 - x1 / (6 : Int32) * (6 : Int32))
  rw [q1, bind1_s, ev, bind1_s]
  obtain ⟨n0, p1, p2⟩ := m_add v m (by omega) (by omega)
  rw [p1, bind1_s]
  exact ⟨n0, rfl, PA.tr q2 p2 rfl⟩
