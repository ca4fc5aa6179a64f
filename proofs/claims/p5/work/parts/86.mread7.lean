/-! THE REFERENCE: statements -/
def LOW (o n : Ob) : Prop := FR [3, 4, 5, 6, 7, 8, 9, 10, 13, 14] [] o n ∧ (∀ k : Nat, k < 500 → n.1 5 k = o.1 5 k ∧ n.1 6 k = o.1 6 k) ∧ (∀ k : Nat, k < 25 → n.1 9 k = o.1 9 k ∧ n.1 10 k = o.1 10 k) ∧ n.1 8 0 = o.1 8 0
theorem LOW.refl {o : Ob} : LOW o o := ⟨FR.refl, fun _ _ => ⟨rfl, rfl⟩, fun _ _ => ⟨rfl, rfl⟩, rfl⟩
theorem LOW.tr {o n m : Ob} (h : LOW o n) (g : LOW n m) : LOW o m := ⟨FR.tr h.1 g.1, fun k hk => ⟨(g.2.1 k hk).1.trans (h.2.1 k hk).1, (g.2.1 k hk).2.trans (h.2.1 k hk).2⟩, fun k hk => ⟨(g.2.2.1 k hk).1.trans (h.2.2.1 k hk).1, (g.2.2.1 k hk).2.trans (h.2.2.1 k hk).2⟩, g.2.2.2.trans h.2.2.2⟩
theorem LOW.ye {o n : Ob} (h : YE o n) (h0 : 0 ≤ (g32 o 7 1).toInt) : LOW o n := ⟨h.1.mono (by decide) (by decide), fun k hk => h.2.1 k (by omega), fun k _ => ⟨congrFun (h.1.1 9 (by decide)) k, congrFun (h.1.1 10 (by decide)) k⟩, congrFun (h.1.1 8 (by decide)) 0⟩
theorem LOW.s34 {o : Ob} {k i : Nat} {v : Int32} (hk : k ∈ [3, 4]) : LOW o (s32 o k i v) := by
  have hk2 : ∀ k, k ∈ [3, 4] → k ∈ [3, 4, 5, 6, 7, 8, 9, 10, 13, 14] ∧ ¬ 5 = k ∧ ¬ 6 = k ∧ ¬ 8 = k ∧ ¬ 9 = k ∧ ¬ 10 = k := by decide
  obtain ⟨k1, k5, k6, k8, k9, k10⟩ := hk2 k hk
  have e5 : (s32 o k i v).1 5 = o.1 5 := if_neg k5
  have e6 : (s32 o k i v).1 6 = o.1 6 := if_neg k6
  have e8 : (s32 o k i v).1 8 = o.1 8 := if_neg k8
  have e9 : (s32 o k i v).1 9 = o.1 9 := if_neg k9
  have e10 : (s32 o k i v).1 10 = o.1 10 := if_neg k10
  exact ⟨FR.s FR.refl k1, fun k _ => ⟨congrFun e5 k, congrFun e6 k⟩, fun k _ => ⟨congrFun e9 k, congrFun e10 k⟩, congrFun e8 0⟩
theorem LOW.s9 {o : Ob} {i : Nat} {v : Int32} (hi : 25 ≤ i) : LOW o (s32 o 9 i v) := ⟨FR.s FR.refl (by decide), fun k _ => ⟨rfl, rfl⟩, fun k hk => ⟨show upd (o.1 9) i v k = o.1 9 k from if_neg (by omega), rfl⟩, rfl⟩
theorem LOW.s10 {o : Ob} {i : Nat} {v : Int32} (hi : 25 ≤ i) : LOW o (s32 o 10 i v) := ⟨FR.s FR.refl (by decide), fun k _ => ⟨rfl, rfl⟩, fun k hk => ⟨rfl, show upd (o.1 10) i v k = o.1 10 k from if_neg (by omega)⟩, rfl⟩
theorem LOW.s8 {o : Ob} {v : Int32} : LOW o (s32 o 8 1 v) := ⟨FR.s FR.refl (by decide), fun k _ => ⟨rfl, rfl⟩, fun k hk => ⟨rfl, rfl⟩, rfl⟩
def sh (f : Nat → Int32) : Nat → Int32 := fun k => f (500 + k)
theorem STM_ext {f g p q : Nat → Int32} {b e : Nat} {d : Int} (h1 : ∀ k, k < e → f k = g k) (h2 : ∀ k, k < e → p k = q k) (h : STM g q b e d) : STM f p b e d := by
  obtain ⟨⟨a1, a2, a3, a4⟩, hS, hd, hl⟩ := h
  refine ⟨⟨a1, a2, a3, a4⟩, SEG_ext (fun k hk => h1 _ (by omega)) (fun k hk => h2 _ (by omega)) hS, fun z => ?_, fun z k k1 k2 => ?_⟩
  · obtain ⟨q1, q2⟩ := hd z
    refine ⟨?_, fun k k1 k2 h9 => ?_⟩
    · rw [dep_ext (g := g) (c := b) (e - b) (fun k hk => h1 _ (by omega))]; exact q1
    · rw [h1 k k2] at h9
      obtain ⟨j, j1, j2, j3⟩ := q2 k k1 k2 h9
      exact ⟨j, j1, j2, by rw [h1 j j2]; exact j3⟩
  · rw [h1 k k2]; exact hl z k k1 k2
def CS (o : Ob) : Prop := (∀ s : Nat, (s : Int) < (g32 o 8 1).toInt → 0 ≤ (o.1 9 (25 + s)).toInt ∧ (o.1 9 (25 + s)).toInt ≤ (o.1 9 (26 + s)).toInt ∧ (o.1 9 (26 + s)).toInt ≤ (g32 o 7 1).toInt ∧ STM (sh (o.1 5)) (sh (o.1 6)) (Int32.toNatClampNeg (o.1 9 (25 + s))) (Int32.toNatClampNeg (o.1 9 (26 + s))) (o.1 10 (25 + s)).toInt) ∧ (0 < (g32 o 8 1).toInt → (o.1 9 25).toInt = 0 ∧ (o.1 9 (25 + Int32.toNatClampNeg (g32 o 8 1))).toInt = (g32 o 7 1).toInt) ∧ ((g32 o 8 1).toInt = 0 → (g32 o 7 1).toInt = 0)
def NB (o : Ob) : Prop := (0 ≤ (g32 o 7 1).toInt ∧ (g32 o 7 1).toInt ≤ (g32 o 3 0).toInt ∧ (g32 o 3 0).toInt ≤ (g32 o 2 0).toInt ∧ 0 ≤ (g32 o 2 0).toInt ∧ (g32 o 2 0).toInt ≤ 400) ∧ (g32 o 4 0).toInt < 0 ∧ wsm (o.1 5) (o.1 6) 500 (Int32.toNatClampNeg (g32 o 7 1)) ≤ 2 * (g32 o 3 0).toInt ∧ 0 ≤ (g32 o 8 1).toInt ∧ (g32 o 8 1).toInt ≤ 24
def TS (o : Ob) : Prop := NB o ∧ CS o
/-- a statement ends: the next one's begin is told -/
def fin (n : Ob) (S : Int32) : Ob := s32 (s32 n 8 1 ((g32 n 8 1) + (1 : Int32))) 9 (Int32.toNatClampNeg (S + 1)) (g32 n 7 1)
theorem m_rs189 (S : Int32) (o : Ob) (h0 : 25 ≤ S.toInt) (h1 : S.toInt ≤ 48) : F_Mod_readStatement_189 S o = some (fin o S) := by
  have z50 : (50 : Int32).toInt = 50 := rfl
  have e := add1 (x := S) (by omega)
  rw [F_Mod_readStatement_189, show (inb (1 : Int32) 2) = true from by decide, chk_tr, if_neg (fun z => by have := Int32.le_iff_toInt_le.mp z; omega), show (inb (S + (1 : Int32)) 50) = true from inb_iff.mpr ⟨by omega, by omega⟩, chk_tr]
  rfl
theorem fin_low {o n : Ob} {S : Int32} (h0 : 25 ≤ S.toInt) (h1 : S.toInt ≤ 48) (h : LOW o n) : LOW o (fin n S) := by
  have e := add1 (x := S) (by omega)
  have c := clampI (x := S + 1) (by omega)
  exact LOW.tr h (LOW.tr LOW.s8 (LOW.s9 (by omega)))
theorem fin_good {o n : Ob} {S : Int32} (hT : TS o) (hst : (g32 o 8 1).toInt < 24) (hSe : S.toInt = 25 + (g32 o 8 1).toInt) (h9 : n.1 9 = upd (o.1 9) (25 + Int32.toNatClampNeg (g32 o 8 1)) (g32 o 7 1)) (h10 : ∀ k, k < 25 + Int32.toNatClampNeg (g32 o 8 1) → n.1 10 k = o.1 10 k) (h8 : n.1 8 = o.1 8) (hp : ∀ k : Nat, (k : Int) < 500 + (g32 o 7 1).toInt → n.1 5 k = o.1 5 k ∧ n.1 6 k = o.1 6 k) (hsz : (g32 o 7 1).toInt ≤ (g32 n 7 1).toInt) (hn : ((g32 n 7 1).toInt ≤ (g32 n 3 0).toInt ∧ (g32 n 3 0).toInt ≤ (g32 n 2 0).toInt ∧ 0 ≤ (g32 n 2 0).toInt ∧ (g32 n 2 0).toInt ≤ 400) ∧ (g32 n 4 0).toInt < 0) (hw : wsm (n.1 5) (n.1 6) 500 (Int32.toNatClampNeg (g32 n 7 1)) ≤ 2 * (g32 n 3 0).toInt) (hS : STM (sh (n.1 5)) (sh (n.1 6)) (Int32.toNatClampNeg (g32 o 7 1)) (Int32.toNatClampNeg (g32 n 7 1)) (n.1 10 (25 + Int32.toNatClampNeg (g32 o 8 1))).toInt) : TS (fin n S) ∧ (g32 (fin n S) 8 1).toInt = (g32 o 8 1).toInt + 1 := by
  obtain ⟨⟨⟨a1, a2, a3, a4, a5⟩, a6, a7, a8, a9⟩, c1, c2, c3⟩ := hT
  have n8 : g32 n 8 1 = g32 o 8 1 := congrFun h8 1
  have e8 := add1 (x := g32 o 8 1) (by omega)
  have eS := add1 (x := S) (by omega)
  have cst := clampI (x := g32 o 8 1) a8
  have cS := clampI (x := S + 1) (by omega)
  have csz := clampI a1
  have cnz := clampI (x := g32 n 7 1) (by omega)
  have f8 : (g32 (fin n S) 8 1).toInt = (g32 o 8 1).toInt + 1 := by
    show ((g32 n 8 1) + (1 : Int32)).toInt = _
    rw [n8]; exact e8
  have iS : Int32.toNatClampNeg (S + 1) = 26 + Int32.toNatClampNeg (g32 o 8 1) := by omega
  have f9 : (fin n S).1 9 = upd (n.1 9) (26 + Int32.toNatClampNeg (g32 o 8 1)) (g32 n 7 1) := by
    show upd (n.1 9) (Int32.toNatClampNeg (S + 1)) (g32 n 7 1) = _
    rw [iS]
  have f7 : g32 (fin n S) 7 1 = g32 n 7 1 := rfl
  have f5 : (fin n S).1 5 = n.1 5 := rfl
  have f6 : (fin n S).1 6 = n.1 6 := rfl
  have f10 : (fin n S).1 10 = n.1 10 := rfl
  have b1 : (fin n S).1 9 (26 + Int32.toNatClampNeg (g32 o 8 1)) = g32 n 7 1 := by rw [f9]; exact if_pos rfl
  have b0 : (fin n S).1 9 (25 + Int32.toNatClampNeg (g32 o 8 1)) = g32 o 7 1 := by
    rw [f9, h9]
    show (if 25 + Int32.toNatClampNeg (g32 o 8 1) = 26 + Int32.toNatClampNeg (g32 o 8 1) then _ else upd (o.1 9) _ _ _) = _
    rw [if_neg (by omega)]
    exact if_pos rfl
  have bk : ∀ k, k < 25 + Int32.toNatClampNeg (g32 o 8 1) → (fin n S).1 9 k = o.1 9 k := by
    intro k hk
    rw [f9, h9]
    show (if k = 26 + Int32.toNatClampNeg (g32 o 8 1) then _ else upd (o.1 9) _ _ _) = _
    rw [if_neg (by omega)]
    exact if_neg (by omega)
  refine ⟨⟨⟨⟨by rw [f7]; omega, hn.1.1, hn.1.2.1, hn.1.2.2.1, hn.1.2.2.2⟩, hn.2, hw, by omega, by omega⟩, ?_, ?_, ?_⟩, f8⟩
  · intro s hs
    rw [f8] at hs
    rw [f5, f6, f7, f10]
    by_cases cs : s = Int32.toNatClampNeg (g32 o 8 1)
    · rw [cs, b0, b1]
      exact ⟨a1, hsz, Int.le_refl _, hS⟩
    · have hlt : (s : Int) < (g32 o 8 1).toInt := by omega
      obtain ⟨p1, p2, p3, p4⟩ := c1 s hlt
      rw [bk (25 + s) (by omega), h10 (25 + s) (by omega)]
      have q26 : (fin n S).1 9 (26 + s) = o.1 9 (26 + s) ∨ ((fin n S).1 9 (26 + s) = g32 o 7 1 ∧ (o.1 9 (26 + s)).toInt = (g32 o 7 1).toInt) := by
        by_cases cq : 26 + s = 25 + Int32.toNatClampNeg (g32 o 8 1)
        · right
          rw [cq]
          exact ⟨b0, (c2 (by omega)).2⟩
        · exact Or.inl (bk _ (by omega))
      have e26 : (fin n S).1 9 (26 + s) = o.1 9 (26 + s) := by
        rcases q26 with h | ⟨h, h2⟩
        · exact h
        · rw [h]; exact (Int32.toInt_inj.mp h2).symm
      rw [e26]
      refine ⟨p1, p2, by omega, STM_ext (fun k hk => ?_) (fun k hk => ?_) p4⟩
      · have cl := clampI (x := o.1 9 (26 + s)) (by omega)
        exact (hp (500 + k) (by omega)).1
      · have cl := clampI (x := o.1 9 (26 + s)) (by omega)
        exact (hp (500 + k) (by omega)).2
  · intro _
    refine ⟨?_, ?_⟩
    · by_cases cz : (g32 o 8 1).toInt = 0
      · have z : Int32.toNatClampNeg (g32 o 8 1) = 0 := by omega
        have q := b0
        rw [z] at q
        have q : (fin n S).1 9 25 = g32 o 7 1 := q
        rw [q]; exact c3 cz
      · rw [bk 25 (by omega)]; exact (c2 (by omega)).1
    · have e : 25 + Int32.toNatClampNeg (g32 (fin n S) 8 1) = 26 + Int32.toNatClampNeg (g32 o 8 1) := by
        have := clampI (x := g32 (fin n S) 8 1) (by omega)
        omega
      rw [e, b1, f7]
  · intro z; omega
theorem m_isDefined_4 (o : Ob) (h0 : (g32 o 8 1).toInt ≤ 24) : ∀ (n : Nat) (x1 x2 x3 : Int32), (0 ≤ x2.toInt ∧ x2.toInt ≤ 1) → 0 ≤ x3.toInt → x3.toInt ≤ 24 → 24 - x3.toInt < (n : Int) → ∃ r, F_Mod_isDefined_4 o n x1 x2 x3 = some r := by
  intro n
  induction n with
  | zero => intro x1 x2 x3 _ _ _ _; exfalso; omega
  | succ n ih =>
    intro x1 x2 x3 h2 h3 h3b hn
    have z0 : (0 : Int32).toInt = 0 := rfl
    have z1 : (1 : Int32).toInt = 1 := rfl
    have z25 : (25 : Int32).toInt = 25 := rfl
    rw [F_Mod_isDefined_4, show (inb (1 : Int32) 2) = true from by decide, chk_tr]
    by_cases c : (g32 o 8 (Int32.toNatClampNeg (1 : Int32))) ≤ x3
    · rw [if_pos c, show isB x2 = true from isB_of2 h2.1 h2.2, chk_tr]; exact ⟨_, rfl⟩
    rw [if_neg c]
    have c : ¬ (g32 o 8 1).toInt ≤ x3.toInt := fun z => c (Int32.le_iff_toInt_le.mpr z)
    have e3 := add1 (x := x3) (by omega)
    have go : ∀ y : Int32, (0 ≤ y.toInt ∧ y.toInt ≤ 1) → ∃ r, F_Mod_isDefined_4 o n x1 y (x3 + (1 : Int32)) = some r := fun y hy => ih x1 y _ hy (by omega) (by omega) (by omega)
    by_cases d : x2 = 0
    · have e25 : ((25 : Int32) + x3).toInt = 25 + x3.toInt := by rw [tadd (by omega) (by omega), z25]
      rw [if_pos d, show (inb ((25 : Int32) + x3) 50) = true from inb_iff.mpr ⟨by omega, by omega⟩, chk_tr]
      split
      · exact go 1 (by omega)
      · exact go 0 (by omega)
    · rw [if_neg d]; exact go 1 (by omega)
theorem seg_sh {sg ag : Nat → Int32} {b n : Nat} (h : SEG sg ag (500 + b) n) : SEG (sh sg) (sh ag) b n := SEG_ext (fun k _ => congrArg sg (by omega)) (fun k _ => congrArg ag (by omega)) h
theorem dep_sh {sg : Nat → Int32} {b n : Nat} : dep (sh sg) b n = dep sg (500 + b) n := dep_ext n (fun k _ => congrArg sg (by omega))
/-- a defined cell's statement -/
theorem stm_def {n : Ob} {b : Nat} {d : Int} (h : SX n 0 b 1) (hc : CLO n b) (h0 : 0 ≤ d) (h1 : d < 60) : STM (sh (n.1 5)) (sh (n.1 6)) b (Int32.toNatClampNeg (g32 n 7 1)) d := by
  obtain ⟨⟨⟨l1, l3, l4, l5, l6⟩, lf⟩, s1, s2, s3, s4⟩ := h
  have c := clampI l1
  refine ⟨⟨s1, by omega, by omega, h1⟩, seg_sh s2, fun _ => ⟨by rw [dep_sh]; exact s3, fun k k1 k2 h9 => ?_⟩, fun z => by omega⟩
  obtain ⟨j, j1, j2, j3⟩ := hc (500 + k) (by omega) (by omega) h9
  refine ⟨j - 500, by omega, by omega, ?_⟩
  have e : 500 + (j - 500) = j := by omega
  show (n.1 5 (500 + (j - 500))).toInt = 10
  rw [e]; exact j3
/-- a limit's -/
theorem stm_lim {B m : Ob} {b : Nat} {v : Int32} (hx : XE B m) (hB : (g32 B 7 1).toInt = (b : Int)) (h : SX m 1 b 2) : STM (sh ((em m 9 v).1 5)) (sh ((em m 9 v).1 6)) b (Int32.toNatClampNeg (g32 (em m 9 v) 7 1)) (-1) := by
  have q := SX.c9 (L := 0) (a := v) h (by omega)
  obtain ⟨⟨⟨l1, l3, l4, l5, l6⟩, lf⟩, s1, s2, s3, s4⟩ := q
  obtain ⟨⟨⟨m1, m3, m4, m5, m6⟩, mf⟩, _⟩ := h
  have c := clampI l1
  have e := add1 (x := g32 m 7 1) (by omega)
  have cm := clampI m1
  rw [em_7] at l1 l3 s1 s2 s3 s4 c
  have z9 : (9 : Int32).toInt = 9 := rfl
  rw [em_7]
  refine ⟨⟨s1, by omega, by omega, by omega⟩, seg_sh s2, fun z => by omega, fun _ k k1 k2 => ?_⟩
  show ¬ ((em m 9 v).1 5 (500 + k)).toInt = 10 ∧ (((em m 9 v).1 5 (500 + k)).toInt = 9 → k + 1 = _)
  by_cases d : 500 + k = 500 + Int32.toNatClampNeg (g32 m 7 1)
  · have es : (em m 9 v).1 5 (500 + k) = 9 := if_pos d
    rw [es, z9]
    exact ⟨by omega, fun _ => by omega⟩
  · have es : (em m 9 v).1 5 (500 + k) = m.1 5 (500 + k) := if_neg d
    have q8 := hx.2.2.2 (500 + k) (by omega) (by omega)
    rw [es]
    exact ⟨by omega, fun z => by omega⟩
