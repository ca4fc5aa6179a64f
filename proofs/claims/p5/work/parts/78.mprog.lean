/-! THE REFERENCE: what was read, and frames -/
def FR (S T : List Nat) (o n : Ob) : Prop := (∀ k, k ∉ S → n.1 k = o.1 k) ∧ (∀ k, k ∉ T → n.2 k = o.2 k)
theorem FR.refl {S T : List Nat} {o : Ob} : FR S T o o := ⟨fun _ _ => rfl, fun _ _ => rfl⟩
theorem FR.tr {S T : List Nat} {o n m : Ob} (h : FR S T o n) (g : FR S T n m) : FR S T o m := ⟨fun k a => (g.1 k a).trans (h.1 k a), fun k a => (g.2 k a).trans (h.2 k a)⟩
theorem FR.s {S T : List Nat} {o n : Ob} {k i : Nat} {v : Int32} (h : FR S T o n) (hk : k ∈ S) : FR S T o (s32 n k i v) := ⟨fun q a => by rw [← h.1 q a]; exact if_neg (fun z => a (by rw [z]; exact hk)), h.2⟩
theorem FR.l {S T : List Nat} {o n : Ob} {k i : Nat} {v : Int64} (h : FR S T o n) (hk : k ∈ T) : FR S T o (s64 n k i v) := ⟨h.1, fun q a => by rw [← h.2 q a]; exact if_neg (fun z => a (by rw [z]; exact hk))⟩
theorem FR.g {S T : List Nat} {o n : Ob} (h : FR S T o n) {k : Nat} (hk : k ∉ S) (j : Nat) : g32 n k j = g32 o k j := congrFun (h.1 k hk) j
theorem FR.w {S T : List Nat} {o n : Ob} (h : FR S T o n) {k : Nat} (hk : k ∉ T) (j : Nat) : g64 n k j = g64 o k j := congrFun (h.2 k hk) j
theorem FR.mono {S T S2 T2 : List Nat} {o n : Ob} (h : FR S T o n) (hS : ∀ k, k ∈ S → k ∈ S2) (hT : ∀ k, k ∈ T → k ∈ T2) : FR S2 T2 o n := ⟨fun k a => h.1 k (fun z => a (hS k z)), fun k a => h.2 k (fun z => a (hT k z))⟩
theorem MK.fr {o n : Ob} (h : MK o n) : FR [30, 31] [28, 29] o n := ⟨fun k a => h.1 k (fun z => a (by rw [z]; decide)) (fun z => a (by rw [z]; decide)), fun k a => h.2 k (fun z => a (by rw [z]; decide)) (fun z => a (by rw [z]; decide))⟩
theorem MK.fw {o n : Ob} (h : MK o n) : FR [19, 22, 30, 31] [20, 21, 28, 29] o n := h.fr.mono (by decide) (by decide)
/-- how long a sign is when it is printed, at most -/
def plen (v : Int) : Int := (if v < 10000 then 1 else if v < 100000 then 2 else if v < 1000000 then 3 else if v < 10000000 then 4 else 5) + (if v % 1000 = 0 then 0 else if v % 100 = 0 then 2 else if v % 10 = 0 then 3 else 4)
def wt (s a : Int32) : Int := if s.toInt = 1 then plen a.toInt else if s.toInt = 2 then 1 else if s.toInt = 3 then 2 else if s.toInt = 4 then 1 else if s.toInt ≤ 8 then 3 else if s.toInt = 9 then 2 else 1
def wsm (sg ag : Nat → Int32) (b : Nat) : Nat → Int
  | 0 => 0
  | k + 1 => wsm sg ag b k + wt (sg (b + k)) (ag (b + k))
theorem plen_pos (v : Int) : 1 ≤ plen v := by
  unfold plen
  have h1 : (1 : Int) ≤ (if v < 10000 then 1 else if v < 100000 then 2 else if v < 1000000 then 3 else if v < 10000000 then 4 else 5) := by
    repeat' split
    all_goals omega
  have h2 : (0 : Int) ≤ (if v % 1000 = 0 then 0 else if v % 100 = 0 then 2 else if v % 10 = 0 then 3 else 4) := by
    repeat' split
    all_goals omega
  omega
theorem wt_0le (s a : Int32) : 0 ≤ wt s a := by
  unfold wt
  have := plen_pos a.toInt
  repeat' split
  all_goals omega
theorem wsm_le {sg ag : Nat → Int32} {b : Nat} : ∀ (k m : Nat), k ≤ m → wsm sg ag b k ≤ wsm sg ag b m
  | k, 0, h => by
    have : k = 0 := by omega
    rw [this]; exact Int.le_refl _
  | k, m + 1, h => by
    by_cases c : k = m + 1
    · rw [c]; exact Int.le_refl _
    · have ih := wsm_le (sg := sg) (ag := ag) (b := b) k m (by omega)
      have w := wt_0le (sg (b + m)) (ag (b + m))
      show wsm sg ag b k ≤ wsm sg ag b m + wt (sg (b + m)) (ag (b + m))
      omega
theorem dep_ext {f g : Nat → Int32} {b c : Nat} : ∀ n, (∀ k, k < n → f (b + k) = g (c + k)) → dep f b n = dep g c n
  | 0, _ => rfl
  | n + 1, h => by
    show nxt (f (b + n)) (dep f b n) = nxt (g (c + n)) (dep g c n)
    rw [dep_ext n (fun k hk => h k (by omega)), h n (by omega)]
theorem wsm_ext {f g p q : Nat → Int32} {b c : Nat} : ∀ n, (∀ k, k < n → f (b + k) = g (c + k)) → (∀ k, k < n → p (b + k) = q (c + k)) → wsm f p b n = wsm g q c n
  | 0, _, _ => rfl
  | n + 1, h, h2 => by
    show wsm f p b n + wt (f (b + n)) (p (b + n)) = wsm g q c n + wt (g (c + n)) (q (c + n))
    rw [wsm_ext n (fun k hk => h k (by omega)) (fun k hk => h2 k (by omega)), h n (by omega), h2 n (by omega)]
theorem SEG_ext {f g p q : Nat → Int32} {b c n : Nat} (h : ∀ k, k < n → f (b + k) = g (c + k)) (h2 : ∀ k, k < n → p (b + k) = q (c + k)) (hs : SEG g q c n) : SEG f p b n := fun k hk => by
  rw [h k hk, h2 k hk, dep_ext k (fun j hj => h j (by omega))]
  exact hs k hk
/-- one statement: from where to where, and what defines -/
def STM (sg ag : Nat → Int32) (b e : Nat) (df : Int) : Prop :=
  (b ≤ e ∧ e ≤ 410 ∧ -1 ≤ df ∧ df < 60) ∧ SEG sg ag b (e - b) ∧
  (0 ≤ df → dep sg b (e - b) = 1 ∧ ∀ k, b ≤ k → k < e → (sg k).toInt = 9 → ∃ j, k < j ∧ j < e ∧ (sg j).toInt = 10) ∧
  (df < 0 → ∀ k, b ≤ k → k < e → ¬ (sg k).toInt = 10 ∧ ((sg k).toInt = 9 → k + 1 = e))
def PGR (sg ag st bg df ln nd : Nat → Int32) : Prop :=
  (0 ≤ (st 0).toInt ∧ (st 0).toInt ≤ 24) ∧
  (∀ s : Nat, (s : Int) < (st 0).toInt → 0 ≤ (bg s).toInt ∧ (bg s).toInt ≤ (bg (s + 1)).toInt ∧ (bg (s + 1)).toInt ≤ 410 ∧ STM sg ag (Int32.toNatClampNeg (bg s)) (Int32.toNatClampNeg (bg (s + 1))) (df s).toInt) ∧
  (∀ c : Nat, c < 60 → -1 ≤ (ln c).toInt ∧ (ln c).toInt < (st 0).toInt ∧ (0 ≤ (ln c).toInt → 0 ≤ (df (Int32.toNatClampNeg (ln c))).toInt)) ∧
  (∀ j : Nat, 0 ≤ (nd j).toInt ∧ (nd j).toInt ≤ 1) ∧
  (bg 0).toInt = 0 ∧ wsm sg ag 0 (Int32.toNatClampNeg (bg (Int32.toNatClampNeg (st 0)))) + 4 * (st 0).toInt ≤ 896
def PG (o : Ob) : Prop := PGR (o.1 5) (o.1 6) (o.1 8) (o.1 9) (o.1 10) (o.1 17) (o.1 18)
theorem PG.fr {S T : List Nat} {o n : Ob} (h : PG o) (f : FR S T o n) (h5 : 5 ∉ S) (h6 : 6 ∉ S) (h8 : 8 ∉ S) (h9 : 9 ∉ S) (h10 : 10 ∉ S) (h17 : 17 ∉ S) (h18 : 18 ∉ S) : PG n := by
  unfold PG
  rw [f.1 5 h5, f.1 6 h6, f.1 8 h8, f.1 9 h9, f.1 10 h10, f.1 17 h17, f.1 18 h18]
  exact h
theorem OV.fr {S T : List Nat} {o n : Ob} (h : OV o) (f : FR S T o n) (h15 : 15 ∉ T) (h16 : 16 ∉ T) : OV n := fun j hj => by
  rw [f.w h15, f.w h16]; exact h j hj
theorem CV.fr {S T : List Nat} {o n : Ob} (h : CV o) (f : FR S T o n) (h19 : 19 ∉ S) (h20 : 20 ∉ T) (h21 : 21 ∉ T) : CV n := fun j hj hs => by
  rw [f.g h19] at hs
  rw [f.w h20, f.w h21]; exact h j hj hs
def okMod (o : Ob) : Prop := ((0 ≤ (g32 o 2 0).toInt ∧ (g32 o 2 0).toInt ≤ 400) ∧ (0 ≤ (g32 o 24 0).toInt ∧ (g32 o 24 0).toInt ≤ 4) ∧ (∀ j : Nat, 0 ≤ (g32 o 18 j).toInt ∧ (g32 o 18 j).toInt ≤ 1)) ∧ OV o ∧ CV o ∧ (((g32 o 11 0).toInt = 0 ∧ (g32 o 12 0).toInt = 0) ∨ PG o)
/-- a call that leaves what was typed, what was read, the options and the versions' number -/
theorem okMod.fr {S T : List Nat} {o n : Ob} (h : okMod o) (f : FR S T o n) (hc : CV n) (h2 : 2 ∉ S) (h24 : 24 ∉ S) (h11 : 11 ∉ S) (h12 : 12 ∉ S) (h5 : 5 ∉ S) (h6 : 6 ∉ S) (h8 : 8 ∉ S) (h9 : 9 ∉ S) (h10 : 10 ∉ S) (h17 : 17 ∉ S) (h18 : 18 ∉ S) (h15 : 15 ∉ T) (h16 : 16 ∉ T) : okMod n := by
  obtain ⟨⟨a, b, w⟩, c, d, e⟩ := h
  refine ⟨⟨?_, ?_, fun j => ?_⟩, c.fr f h15 h16, hc, ?_⟩
  · rw [f.g h2]; exact a
  · rw [f.g h24]; exact b
  · rw [f.g h18]; exact w j
  · rcases e with e | e
    · exact Or.inl (by rw [f.g h11, f.g h12]; exact e)
    · exact Or.inr (e.fr f h5 h6 h8 h9 h10 h17 h18)
/-- what a defined cell's line gives -/
theorem PG.line {o : Ob} (h : PG o) {x : Int32} (h0 : 0 ≤ x.toInt) (h1 : x.toInt < 60) : -1 ≤ (g32 o 17 (Int32.toNatClampNeg x)).toInt ∧ (g32 o 17 (Int32.toNatClampNeg x)).toInt < 24 ∧ (g32 o 17 (Int32.toNatClampNeg x)).toInt < (g32 o 8 0).toInt ∧ (0 ≤ (g32 o 17 (Int32.toNatClampNeg x)).toInt → 0 ≤ (g32 o 10 (Int32.toNatClampNeg (g32 o 17 (Int32.toNatClampNeg x)))).toInt) := by
  have q := h.2.2.1 (Int32.toNatClampNeg x) (by have := clampI h0; omega)
  have q0 := h.1
  have a : (g32 o 17 (Int32.toNatClampNeg x)).toInt < (g32 o 8 0).toInt := q.2.1
  have b : (g32 o 8 0).toInt ≤ 24 := q0.2
  exact ⟨q.1, by omega, a, q.2.2⟩
theorem PG.stm {o : Ob} (h : PG o) {s : Int32} (h0 : 0 ≤ s.toInt) (h1 : s.toInt < (g32 o 8 0).toInt) : (0 ≤ (g32 o 9 (Int32.toNatClampNeg s)).toInt ∧ (g32 o 9 (Int32.toNatClampNeg s)).toInt ≤ (g32 o 9 (Int32.toNatClampNeg (s + 1))).toInt ∧ (g32 o 9 (Int32.toNatClampNeg (s + 1))).toInt ≤ 410) ∧ STM (o.1 5) (o.1 6) (Int32.toNatClampNeg (g32 o 9 (Int32.toNatClampNeg s))) (Int32.toNatClampNeg (g32 o 9 (Int32.toNatClampNeg (s + 1)))) (g32 o 10 (Int32.toNatClampNeg s)).toInt := by
  have q0 : (g32 o 8 0).toInt ≤ 24 := h.1.2
  have q := h.2.1 (Int32.toNatClampNeg s) (by have := clampI h0; have : ((Int32.toNatClampNeg s : Nat) : Int) < (g32 o 8 0).toInt := by omega
                                              exact this)
  rw [clampS h0 (by omega)]
  exact ⟨⟨q.1, q.2.1, q.2.2.1⟩, q.2.2.2⟩
theorem mul60 {p : Int32} (h0 : 0 ≤ p.toInt) (h1 : p.toInt ≤ 1000) : ((60 : Int32) * p).toInt = 60 * p.toInt := by
  have e6 : (60 : Int32).toInt = 60 := rfl
  rw [tmul (by rw [e6]; omega) (by rw [e6]; omega), e6]
theorem ix60 {p q : Int32} (h0 : 0 ≤ p.toInt) (h1 : p.toInt < 60) (h2 : 0 ≤ q.toInt) (h3 : q.toInt < 60) : (((60 : Int32) * p) + q).toInt = 60 * p.toInt + q.toInt := by
  have e := mul60 (p := p) h0 (by omega)
  rw [tadd (by omega) (by omega), e]
theorem m_isRing (x1 : Int32) (o0 : Ob) (hN : ∀ j, 0 ≤ (g32 o0 18 j).toInt ∧ (g32 o0 18 j).toInt ≤ 1) (h0 : 0 ≤ x1.toInt) (h1 : x1.toInt < 60) : ∃ r, F_Mod_isRing x1 o0 = some r := by
  have e := ix60 h0 h1 h0 h1
  have n := hN (Int32.toNatClampNeg (((60 : Int32) * x1) + x1))
  rw [F_Mod_isRing, show (inb (((60 : Int32) * x1) + x1) 3600) = true from inb_iff.mpr ⟨by omega, by omega⟩, chk_tr, show (isB (g32 o0 18 (Int32.toNatClampNeg (((60 : Int32) * x1) + x1)))) = true from isB_of2 n.1 n.2, chk_tr]
  exact ⟨_, rfl⟩
theorem PG.nd {o : Ob} (h : PG o) : ∀ j, 0 ≤ (g32 o 18 j).toInt ∧ (g32 o 18 j).toInt ≤ 1 := h.2.2.2.1
