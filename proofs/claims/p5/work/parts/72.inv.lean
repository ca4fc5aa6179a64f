/-! what holds of the class's objects between calls, and while a text is read -/
def KF (o : Ob) : Prop := ∀ j, (g32 o 0 j = 2 → 0 ≤ (g32 o 1 j).toInt ∧ (g32 o 1 j).toInt < 8) ∧ (g32 o 0 j = 3 → 0 ≤ (g32 o 1 j).toInt ∧ (g32 o 1 j).toInt < 60)
theorem KF.l {o : Ob} {k i : Nat} {v : Int64} (h : KF o) : KF (s64 o k i v) := h
theorem KF.ne {o : Ob} {k i : Nat} {v : Int32} (h0 : k ≠ 0) (h1 : k ≠ 1) (h : KF o) : KF (s32 o k i v) := fun j => by
  rw [g_s, if_neg (Ne.symm h0), g_s, if_neg (Ne.symm h1)]; exact h j
theorem KF.two {o : Ob} {i : Nat} {x y : Int32} (hx : x = 2 → 0 ≤ y.toInt ∧ y.toInt < 8) (hy : x = 3 → 0 ≤ y.toInt ∧ y.toInt < 60) (h : KF o) : KF (s32 (s32 o 0 i x) 1 i y) := fun j => by
  have e0 : g32 (s32 (s32 o 0 i x) 1 i y) 0 j = if j = i then x else g32 o 0 j := by rw [g_s, if_neg (by decide), g_s, if_pos rfl]
  have e1 : g32 (s32 (s32 o 0 i x) 1 i y) 1 j = if j = i then y else g32 o 1 j := by rw [g_s, if_pos rfl]; split; rfl; rw [g_s, if_neg (by decide)]
  rw [e0, e1]
  by_cases hj : j = i
  · rw [if_pos hj, if_pos hj]; exact ⟨hx, hy⟩
  · rw [if_neg hj, if_neg hj]; exact h j
theorem KF.opt {o : Ob} (h : KF o) {j : Nat} (hk : (g32 o 0 j).toInt = 2) : 0 ≤ (g32 o 1 j).toInt ∧ (g32 o 1 j).toInt < 8 := (h j).1 (Int32.toInt_inj.mp hk)
theorem KF.cel {o : Ob} (h : KF o) {j : Nat} (hk : (g32 o 0 j).toInt = 3) : 0 ≤ (g32 o 1 j).toInt ∧ (g32 o 1 j).toInt < 60 := (h j).2 (Int32.toInt_inj.mp hk)
theorem kfi_ {p : Prop} (h : p := by first | assumption | (intro z9; (try simp (disch := (first | omega | (simp only [Int32.reduceToInt]; omega) | (simp (disch := first | omega | (simp only [Int32.reduceToInt]; omega)) only [tadd, tsub, mul6, neg1, Int32.reduceToInt]; omega))) only [neg1, mul6, g_s, g_l, tadd, tsub, inb_iff, Int32.lt_iff_toInt_lt, Int32.le_iff_toInt_le, i32_eq, b2i_0, Int32.reduceToInt, reduceIte, Nat.reduceEqDiff] at z9); omega)) : p := h
theorem kf_ {p : Prop} (h : p := by ((try with_reducible assumption); (repeat (with_reducible first | assumption | refine KF.l ?_ | refine KF.two kfi_ kfi_ ?_ | refine KF.ne (by decide) (by decide) ?_)); all_goals fail)) : p := h
/-- what stands in the order defines a cell -/
def OC (o : Ob) : Prop := ∀ i : Nat, (i : Int) < (g32 o 11 0).toInt → 0 ≤ (g32 o 4 (Int32.toNatClampNeg (g32 o 10 i))).toInt
theorem OC.at {o : Ob} (h : OC o) {x : Int32} (h0 : 0 ≤ x.toInt) (h1 : x.toInt < (g32 o 11 0).toInt) : 0 ≤ (g32 o 4 (Int32.toNatClampNeg (g32 o 10 (Int32.toNatClampNeg x)))).toInt := h _ (by show ((x.toInt.toNat : Nat) : Int) < _; omega)
theorem OC.ne {o : Ob} {k i : Nat} {v : Int32} (h4 : 4 ≠ k) (h10 : 10 ≠ k) (h11 : 11 ≠ k) (h : OC o) : OC (s32 o k i v) := fun j => by
  rw [g_s, if_neg h11, g_s, if_neg h4, g_s, if_neg h10]; exact h j
theorem OC.none {o : Ob} (h : (g32 o 11 0).toInt ≤ 0) : OC o := fun i hi => by omega
theorem oc_ {p : Prop} (h : p := by ((try with_reducible assumption); (repeat (with_reducible first | assumption | refine OC.ne (by decide) (by decide) (by decide) ?_)); all_goals fail)) : p := h
/-- all but one row is as it was -/
def KE (c : Nat) (o n : Ob) : Prop := ∀ k j, k ≠ c → g32 n k j = g32 o k j
theorem KE.refl {c : Nat} {o : Ob} : KE c o o := fun _ _ _ => rfl
theorem KE.s {c i : Nat} {o n : Ob} {v : Int32} (h : KE c o n) : KE c o (s32 n c i v) := fun k j hk => by
  rw [g_s, if_neg hk]; exact h k j hk
theorem KE.tr {c : Nat} {o n m : Ob} (h : KE c o n) (h2 : KE c n m) : KE c o m := fun k j hk => (h2 k j hk).trans (h k j hk)
/-- the waiting operators -/
def cnt (f : Nat → Int32) (v : Int32) : Nat → Int
  | 0 => 0
  | n + 1 => cnt f v n + (if f n = v then 1 else 0)
theorem cnt_0le (f : Nat → Int32) (v : Int32) : ∀ n, 0 ≤ cnt f v n
  | 0 => Int.le_refl 0
  | n + 1 => by
    have h := cnt_0le f v n
    show 0 ≤ cnt f v n + (if f n = v then 1 else 0)
    split <;> omega
theorem cnt_upd (f : Nat → Int32) (v x : Int32) (i : Nat) : ∀ n, n ≤ i → cnt (upd f i x) v n = cnt f v n
  | 0, _ => rfl
  | n + 1, h => by
    show cnt (upd f i x) v n + (if upd f i x n = v then 1 else 0) = cnt f v n + (if f n = v then 1 else 0)
    rw [cnt_upd f v x i n (by omega)]
    have e : upd f i x n = f n := if_neg (by omega)
    rw [e]
theorem cnt_push (f : Nat → Int32) (v x : Int32) (n : Nat) : cnt (upd f n x) v (n + 1) = cnt f v n + (if x = v then 1 else 0) := by
  show cnt (upd f n x) v n + (if upd f n x n = v then 1 else 0) = _
  rw [cnt_upd f v x n n (Nat.le_refl n)]
  have e : upd f n x n = x := if_pos rfl
  rw [e]
theorem cnt_ext {f g : Nat → Int32} {v : Int32} : ∀ n, (∀ j, j < n → f j = g j) → cnt f v n = cnt g v n
  | 0, _ => rfl
  | n + 1, h => by
    show cnt f v n + (if f n = v then 1 else 0) = cnt g v n + (if g n = v then 1 else 0)
    rw [cnt_ext n (fun j hj => h j (by omega)), h n (by omega)]
def WJ (d : Int) (f : Nat → Int32) (wc a len gr ne : Int32) : Prop :=
  (0 ≤ wc.toInt ∧ wc.toInt ≤ a.toInt ∧ a.toInt ≤ len.toInt ∧ len.toInt ≤ 400) ∧ (0 ≤ d ∧ ne.toInt ≤ 8) ∧ cnt f 9 (Int32.toNatClampNeg wc) + d = gr.toInt ∧ gr.toInt + cnt f 4 (Int32.toNatClampNeg wc) ≤ ne.toInt
theorem i1 : (1 : Int32).toInt = 1 := rfl
theorem WJ.push {d : Int} {f : Nat → Int32} {wc a len gr ne x : Int32} (h : WJ d f wc a len gr ne) (ha : a.toInt < len.toInt) (h9 : ¬ x = 9) (h4 : ¬ x = 4) : WJ d (upd f (Int32.toNatClampNeg wc) x) (wc + 1) (a + 1) len gr ne := by
  obtain ⟨⟨h0, h1, h2, h3⟩, ⟨h5, h6⟩, h7, h8⟩ := h
  have ew : (wc + 1).toInt = wc.toInt + 1 := tadd (by rw [i1]; omega) (by rw [i1]; omega)
  have ea : (a + 1).toInt = a.toInt + 1 := tadd (by rw [i1]; omega) (by rw [i1]; omega)
  refine ⟨⟨by omega, by omega, by omega, h3⟩, ⟨h5, h6⟩, ?_, ?_⟩
  · rw [clampS h0 (by omega), cnt_push, if_neg h9]; omega
  · rw [clampS h0 (by omega), cnt_push, if_neg h4]; omega
theorem WJ.neg {d : Int} {f : Nat → Int32} {wc a len gr ne : Int32} (h : WJ d f wc a len gr ne) (ha : a.toInt < len.toInt) (hn : ne.toInt < 8) : WJ d (upd f (Int32.toNatClampNeg wc) 4) (wc + 1) (a + 1) len gr (ne + 1) := by
  obtain ⟨⟨h0, h1, h2, h3⟩, ⟨h5, h6⟩, h7, h8⟩ := h
  have c4 := cnt_0le f 4 (Int32.toNatClampNeg wc); have c9 := cnt_0le f 9 (Int32.toNatClampNeg wc)
  have ew : (wc + 1).toInt = wc.toInt + 1 := tadd (by rw [i1]; omega) (by rw [i1]; omega)
  have ea : (a + 1).toInt = a.toInt + 1 := tadd (by rw [i1]; omega) (by rw [i1]; omega)
  have en : (ne + 1).toInt = ne.toInt + 1 := tadd (by rw [i1]; omega) (by rw [i1]; omega)
  refine ⟨⟨by omega, by omega, by omega, h3⟩, ⟨h5, by omega⟩, ?_, ?_⟩
  · rw [clampS h0 (by omega), cnt_push, if_neg (by decide)]; omega
  · rw [clampS h0 (by omega), cnt_push, if_pos rfl]; omega
theorem WJ.grp {d : Int} {f : Nat → Int32} {wc a len gr ne : Int32} (h : WJ d f wc a len gr ne) (ha : a.toInt < len.toInt) (hn : ne.toInt < 8) : WJ d (upd f (Int32.toNatClampNeg wc) 9) (wc + 1) (a + 1) len (gr + 1) (ne + 1) := by
  obtain ⟨⟨h0, h1, h2, h3⟩, ⟨h5, h6⟩, h7, h8⟩ := h
  have c4 := cnt_0le f 4 (Int32.toNatClampNeg wc); have c9 := cnt_0le f 9 (Int32.toNatClampNeg wc)
  have ew : (wc + 1).toInt = wc.toInt + 1 := tadd (by rw [i1]; omega) (by rw [i1]; omega)
  have ea : (a + 1).toInt = a.toInt + 1 := tadd (by rw [i1]; omega) (by rw [i1]; omega)
  have eg : (gr + 1).toInt = gr.toInt + 1 := tadd (by rw [i1]; omega) (by rw [i1]; omega)
  have en : (ne + 1).toInt = ne.toInt + 1 := tadd (by rw [i1]; omega) (by rw [i1]; omega)
  refine ⟨⟨by omega, by omega, by omega, h3⟩, ⟨h5, by omega⟩, ?_, ?_⟩
  · rw [clampS h0 (by omega), cnt_push, if_pos rfl]; omega
  · rw [clampS h0 (by omega), cnt_push, if_neg (by decide)]; omega
theorem cnt_pop {f : Nat → Int32} {v wc : Int32} (h : 0 < wc.toInt) : cnt f v (Int32.toNatClampNeg wc) = cnt f v (Int32.toNatClampNeg (wc - 1)) + (if f (Int32.toNatClampNeg (wc - 1)) = v then 1 else 0) := by
  rw [clampP h]; rfl
theorem WJ.pop4 {d : Int} {f : Nat → Int32} {wc a len gr ne : Int32} (h : WJ d f wc a len gr ne) (hw : 0 < wc.toInt) (ht : f (Int32.toNatClampNeg (wc - 1)) = 4) : WJ d f (wc - 1) a len gr (ne - 1) := by
  obtain ⟨⟨h0, h1, h2, h3⟩, ⟨h5, h6⟩, h7, h8⟩ := h
  have c4 := cnt_0le f 4 (Int32.toNatClampNeg (wc - 1)); have c9 := cnt_0le f 9 (Int32.toNatClampNeg (wc - 1))
  rw [cnt_pop hw, ht] at h7 h8
  rw [if_neg (by decide)] at h7; rw [if_pos rfl] at h8
  have ew : (wc - 1).toInt = wc.toInt - 1 := tsub (by rw [i1]; omega) (by rw [i1]; omega)
  have en : (ne - 1).toInt = ne.toInt - 1 := tsub (by rw [i1]; omega) (by rw [i1]; omega)
  exact ⟨⟨by omega, by omega, by omega, h3⟩, ⟨h5, by omega⟩, by omega, by omega⟩
theorem WJ.popb {d : Int} {f : Nat → Int32} {wc a len gr ne : Int32} (h : WJ d f wc a len gr ne) (hw : 0 < wc.toInt) (ht : ¬ f (Int32.toNatClampNeg (wc - 1)) = 9) : WJ d f (wc - 1) a len gr ne := by
  obtain ⟨⟨h0, h1, h2, h3⟩, ⟨h5, h6⟩, h7, h8⟩ := h
  have c4 := cnt_0le f 4 (Int32.toNatClampNeg (wc - 1)); have c9 := cnt_0le f 9 (Int32.toNatClampNeg (wc - 1))
  rw [cnt_pop hw] at h7 h8
  rw [if_neg ht] at h7
  have ew : (wc - 1).toInt = wc.toInt - 1 := tsub (by rw [i1]; omega) (by rw [i1]; omega)
  refine ⟨⟨by omega, by omega, by omega, h3⟩, ⟨h5, by omega⟩, by omega, ?_⟩
  split at h8 <;> omega
theorem WJ.popg {f : Nat → Int32} {wc a len gr ne : Int32} (h : WJ 0 f wc a len gr ne) (hw : 0 < wc.toInt) (ht : f (Int32.toNatClampNeg (wc - 1)) = 9) : WJ 1 f (wc - 1) a len gr ne := by
  obtain ⟨⟨h0, h1, h2, h3⟩, ⟨h5, h6⟩, h7, h8⟩ := h
  have c4 := cnt_0le f 4 (Int32.toNatClampNeg (wc - 1)); have c9 := cnt_0le f 9 (Int32.toNatClampNeg (wc - 1))
  rw [cnt_pop hw, ht] at h7 h8
  rw [if_pos rfl] at h7; rw [if_neg (by decide)] at h8
  have ew : (wc - 1).toInt = wc.toInt - 1 := tsub (by rw [i1]; omega) (by rw [i1]; omega)
  exact ⟨⟨by omega, by omega, by omega, h3⟩, ⟨by decide, by omega⟩, by omega, by omega⟩
theorem WJ.cls {f : Nat → Int32} {wc a len gr ne : Int32} (h : WJ 1 f wc a len gr ne) : WJ 0 f wc a len (gr - 1) (ne - 1) := by
  obtain ⟨⟨h0, h1, h2, h3⟩, ⟨h5, h6⟩, h7, h8⟩ := h
  have c4 := cnt_0le f 4 (Int32.toNatClampNeg wc); have c9 := cnt_0le f 9 (Int32.toNatClampNeg wc)
  have eg : (gr - 1).toInt = gr.toInt - 1 := tsub (by rw [i1]; omega) (by rw [i1]; omega)
  have en : (ne - 1).toInt = ne.toInt - 1 := tsub (by rw [i1]; omega) (by rw [i1]; omega)
  exact ⟨⟨h0, h1, h2, h3⟩, ⟨by decide, by omega⟩, by omega, by omega⟩
theorem WJ.adv {d : Int} {f : Nat → Int32} {wc a b len gr ne : Int32} (h : WJ d f wc a len gr ne) (h1 : a.toInt ≤ b.toInt) (h2 : b.toInt ≤ len.toInt) : WJ d f wc b len gr ne := ⟨⟨h.1.1, by have := h.1.2.1; omega, h2, h.1.2.2.2⟩, h.2⟩
theorem WJ.some9 {f : Nat → Int32} {wc a len gr ne : Int32} (h : WJ 0 f wc a len gr ne) (hg : 0 < gr.toInt) : 0 < wc.toInt := by
  obtain ⟨⟨h0, h1, h2, h3⟩, ⟨h5, h6⟩, h7, h8⟩ := h
  by_cases hw : 0 < wc.toInt
  · exact hw
  · have e : Int32.toNatClampNeg wc = 0 := by
      show wc.toInt.toNat = 0
      omega
    rw [e] at h7
    have z : cnt f 9 0 = 0 := rfl
    omega
def WI (d : Int) (o : Ob) : Prop := WJ d (o.1 5) (g32 o 6 0) (g32 o 3 0) (g32 o 2 0) (g32 o 10 0) (g32 o 11 0)
theorem WI.ne {d : Int} {o : Ob} {k i : Nat} {v : Int32} (h : WI d o) (h2 : 2 ≠ k) (h3 : 3 ≠ k) (h5 : 5 ≠ k) (h6 : 6 ≠ k) (h10 : 10 ≠ k) (h11 : 11 ≠ k) : WI d (s32 o k i v) := by
  have e : (s32 o k i v).1 5 = o.1 5 := if_neg h5
  unfold WI
  rw [e, g_s, if_neg h6, g_s, if_neg h3, g_s, if_neg h2, g_s, if_neg h10, g_s, if_neg h11]
  exact h
theorem WI.ke {d : Int} {o n : Ob} (h : WI d o) (hk : KE 3 o n) (h1 : (g32 o 3 0).toInt ≤ (g32 n 3 0).toInt) (h2 : (g32 n 3 0).toInt ≤ (g32 n 2 0).toInt) : WI d n := by
  have e : n.1 5 = o.1 5 := funext fun j => hk 5 j (by decide)
  have e2 := hk 2 0 (by decide)
  unfold WI
  rw [e, hk 6 0 (by decide), e2, hk 10 0 (by decide), hk 11 0 (by decide)]
  rw [e2] at h2
  exact WJ.adv h h1 h2
theorem WI.rg {d : Int} {o : Ob} (h : WI d o) : 0 ≤ (g32 o 6 0).toInt ∧ (g32 o 6 0).toInt ≤ (g32 o 3 0).toInt ∧ (g32 o 3 0).toInt ≤ (g32 o 2 0).toInt ∧ (g32 o 2 0).toInt ≤ 400 ∧ 0 ≤ (g32 o 10 0).toInt ∧ (g32 o 10 0).toInt ≤ (g32 o 11 0).toInt ∧ (g32 o 11 0).toInt ≤ 8 ∧ d ≤ (g32 o 10 0).toInt := by
  obtain ⟨⟨h0, h1, h2, h3⟩, ⟨h5, h6⟩, h7, h8⟩ := h
  have c4 := cnt_0le (o.1 5) 4 (Int32.toNatClampNeg (g32 o 6 0)); have c9 := cnt_0le (o.1 5) 9 (Int32.toNatClampNeg (g32 o 6 0))
  exact ⟨h0, h1, h2, h3, by omega, by omega, by omega, by omega⟩
theorem WI.new {o : Ob} (h2 : 0 ≤ (g32 o 3 0).toInt) (h3 : (g32 o 3 0).toInt ≤ (g32 o 2 0).toInt) (h4 : (g32 o 2 0).toInt ≤ 400) : WI 0 (s32 (s32 (s32 (s32 o 6 0 (0 : Int32)) 10 0 (0 : Int32)) 11 0 (0 : Int32)) 8 (Int32.toNatClampNeg (0 : Int32)) (0 : Int32)) := by
  have h : WJ 0 (o.1 5) 0 (g32 o 3 0) (g32 o 2 0) 0 0 := ⟨⟨by decide, h2, h3, h4⟩, ⟨by decide, by decide⟩, rfl, by
    have e : cnt (o.1 5) 4 (Int32.toNatClampNeg 0) = 0 := rfl
    have z : (0 : Int32).toInt = 0 := rfl
    rw [e]; omega⟩
  exact h
theorem WI.ad {d : Int} {o : Ob} {v : Int32} (h : WI d o) (h1 : (g32 o 3 0).toInt ≤ v.toInt) (h2 : v.toInt ≤ (g32 o 2 0).toInt) : WI d (s32 o 3 0 v) := by
  have q : WJ d (o.1 5) (g32 o 6 0) v (g32 o 2 0) (g32 o 10 0) (g32 o 11 0) := WJ.adv h h1 h2
  exact q
theorem WI.kc {c : Nat} {d : Int} {o n : Ob} (h : WI d o) (hk : KE c o n) (h2 : 2 ≠ c) (h3 : 3 ≠ c) (h5 : 5 ≠ c) (h6 : 6 ≠ c) (h10 : 10 ≠ c) (h11 : 11 ≠ c) : WI d n := by
  have e : n.1 5 = o.1 5 := funext fun j => hk 5 j h5
  unfold WI
  rw [e, hk 6 0 h6, hk 3 0 h3, hk 2 0 h2, hk 10 0 h10, hk 11 0 h11]
  exact h
theorem WI.pop4 {d : Int} {o : Ob} (h : WI d o) (hw : 0 < (g32 o 6 0).toInt) (ht : (g32 o 5 (Int32.toNatClampNeg ((g32 o 6 0) - (1 : Int32)))).toInt = 4) : WI d (s32 (s32 o 6 0 ((g32 o 6 0) - (1 : Int32))) 11 0 ((g32 o 11 0) - (1 : Int32))) := by
  have q : WJ d (o.1 5) ((g32 o 6 0) - 1) (g32 o 3 0) (g32 o 2 0) (g32 o 10 0) ((g32 o 11 0) - 1) := WJ.pop4 h hw (Int32.toInt_inj.mp ht)
  exact q
theorem WI.popb {d : Int} {o : Ob} (h : WI d o) (hw : 0 < (g32 o 6 0).toInt) (ht : ¬ (g32 o 5 (Int32.toNatClampNeg ((g32 o 6 0) - (1 : Int32)))).toInt = 9) : WI d (s32 o 6 0 ((g32 o 6 0) - (1 : Int32))) := by
  have q : WJ d (o.1 5) ((g32 o 6 0) - 1) (g32 o 3 0) (g32 o 2 0) (g32 o 10 0) (g32 o 11 0) := WJ.popb h hw (fun z => ht (congrArg Int32.toInt z))
  exact q
theorem WI.popg {o : Ob} (h : WI 0 o) (hw : 0 < (g32 o 6 0).toInt) (ht : (g32 o 5 (Int32.toNatClampNeg ((g32 o 6 0) - (1 : Int32)))).toInt = 9) : WI 1 (s32 o 6 0 ((g32 o 6 0) - (1 : Int32))) := by
  have q : WJ 1 (o.1 5) ((g32 o 6 0) - 1) (g32 o 3 0) (g32 o 2 0) (g32 o 10 0) (g32 o 11 0) := WJ.popg h hw (Int32.toInt_inj.mp ht)
  exact q
theorem WI.cls {o : Ob} {i : Nat} {v : Int32} (h : WI 1 o) : WI 0 (s32 (s32 (s32 o 10 0 ((g32 o 10 0) - (1 : Int32))) 11 0 ((g32 o 11 0) - (1 : Int32))) 9 i v) := by
  have q : WJ 0 (o.1 5) (g32 o 6 0) (g32 o 3 0) (g32 o 2 0) ((g32 o 10 0) - 1) ((g32 o 11 0) - 1) := WJ.cls h
  exact q
theorem WI.some9 {o : Ob} (h : WI 0 o) (hg : 0 < (g32 o 10 0).toInt) : 0 < (g32 o 6 0).toInt := WJ.some9 h hg
theorem WI.push {d : Int} {o : Ob} {x v : Int32} {i : Nat} (h : WI d o) (ha : (g32 o 3 0).toInt < (g32 o 2 0).toInt) (h9 : ¬ x = 9) (h4 : ¬ x = 4) : WI d (s32 (s32 (s32 (s32 o 5 (Int32.toNatClampNeg (g32 o 6 0)) x) 6 0 ((g32 o 6 0) + (1 : Int32))) 8 i v) 3 0 ((g32 o 3 0) + (1 : Int32))) := by
  have q : WJ d (upd (o.1 5) (Int32.toNatClampNeg (g32 o 6 0)) x) ((g32 o 6 0) + 1) ((g32 o 3 0) + 1) (g32 o 2 0) (g32 o 10 0) (g32 o 11 0) := WJ.push h ha h9 h4
  exact q
theorem WI.neg {d : Int} {o : Ob} (h : WI d o) (ha : (g32 o 3 0).toInt < (g32 o 2 0).toInt) (hn : (g32 o 11 0).toInt < 8) : WI d (s32 (s32 (s32 (s32 o 5 (Int32.toNatClampNeg (g32 o 6 0)) 4) 6 0 ((g32 o 6 0) + (1 : Int32))) 3 0 ((g32 o 3 0) + (1 : Int32))) 11 0 ((g32 o 11 0) + (1 : Int32))) := by
  have q : WJ d (upd (o.1 5) (Int32.toNatClampNeg (g32 o 6 0)) 4) ((g32 o 6 0) + 1) ((g32 o 3 0) + 1) (g32 o 2 0) (g32 o 10 0) ((g32 o 11 0) + 1) := WJ.neg h ha hn
  exact q
theorem WI.grp {d : Int} {o : Ob} {i j : Nat} {v w : Int32} (h : WI d o) (ha : (g32 o 3 0).toInt < (g32 o 2 0).toInt) (hn : (g32 o 11 0).toInt < 8) : WI d (s32 (s32 (s32 (s32 (s32 (s32 (s32 o 5 (Int32.toNatClampNeg (g32 o 6 0)) 9) 6 0 ((g32 o 6 0) + (1 : Int32))) 10 0 ((g32 o 10 0) + (1 : Int32))) 7 i v) 8 j w) 3 0 ((g32 o 3 0) + (1 : Int32))) 11 0 ((g32 o 11 0) + (1 : Int32))) := by
  have q : WJ d (upd (o.1 5) (Int32.toNatClampNeg (g32 o 6 0)) 9) ((g32 o 6 0) + 1) ((g32 o 3 0) + 1) (g32 o 2 0) ((g32 o 10 0) + 1) ((g32 o 11 0) + 1) := WJ.grp h ha hn
  exact q
theorem nle0 {x : Int32} (h : ¬ x ≤ 0) : 0 < x.toInt := by
  have h2 : ¬ x.toInt ≤ (0 : Int32).toInt := fun z => h (Int32.le_iff_toInt_le.mpr z)
  have z0 : (0 : Int32).toInt = 0 := rfl
  omega
theorem le0 {x : Int32} (h : x ≤ 0) : x.toInt ≤ 0 := by
  have h2 : x.toInt ≤ (0 : Int32).toInt := Int32.le_iff_toInt_le.mp h
  have z0 : (0 : Int32).toInt = 0 := rfl
  omega
theorem sub1 {x : Int32} (h : -2147483648 < x.toInt) : (x - (1 : Int32)).toInt = x.toInt - 1 := tsub (by rw [i1]; omega) (by rw [i1]; have := x.toInt_lt; omega)
theorem add1 {x : Int32} (h : x.toInt < 2147483647) : (x + (1 : Int32)).toInt = x.toInt + 1 := tadd (by rw [i1]; have := x.le_toInt; omega) (by rw [i1]; omega)
def okSteps (o : Ob) : Prop := (0 ≤ (g32 o 3 0).toInt) ∧ ((g32 o 3 0).toInt ≤ 400) ∧ (0 ≤ (g32 o 6 0).toInt) ∧ ((g32 o 6 0).toInt ≤ 400) ∧ AR o 4 0 400 ∧ KF o
def okText (o : Ob) : Prop := (0 ≤ (g32 o 1 0).toInt) ∧ ((g32 o 1 0).toInt ≤ 400) ∧ (0 ≤ (g32 o 3 0).toInt) ∧ ((g32 o 3 0).toInt ≤ 24) ∧ AR o 4 (-1) 59 ∧ AR o 10 0 23 ∧ (0 ≤ (g32 o 11 0).toInt) ∧ ((g32 o 11 0).toInt ≤ 24) ∧ AR o 6 0 5
def okReckoner (o : Ob) : Prop := (0 ≤ (g32 o 4 0).toInt) ∧ ((g32 o 4 0).toInt ≤ 19)
def okReader (o : Ob) : Prop := (0 ≤ (g32 o 2 0).toInt) ∧ ((g32 o 2 0).toInt ≤ 400) ∧ AR o 0 0 65535 ∧ AR o 7 0 399
def okPF (o : Ob) : Prop := (0 ≤ (g32 o 8 0).toInt) ∧ ((g32 o 8 0).toInt ≤ 4)
theorem okReader.ne {o : Ob} {k i : Nat} {v : Int32} (h : okReader o) (h0 : 0 ≠ k) (h2 : 2 ≠ k) (h7 : 7 ≠ k) : okReader (s32 o k i v) := by
  unfold okReader
  rw [g_s, if_neg h2]
  exact ⟨h.1, h.2.1, AR.ne h0 h.2.2.1, AR.ne h7 h.2.2.2⟩
/-- how many conditions the open statement has -/
def cdn (o : Ob) : Int := (g32 o 6 (Int32.toNatClampNeg ((g32 o 3 0) - (1 : Int32)))).toInt
/-- what reading an expression leaves of a Text -/
def TK (o n : Ob) : Prop := g32 n 1 0 = g32 o 1 0 ∧ g32 n 3 0 = g32 o 3 0 ∧ g32 n 11 0 = g32 o 11 0 ∧ (∀ j, g32 n 6 j = g32 o 6 j)
theorem TK.refl {o : Ob} : TK o o := ⟨rfl, rfl, rfl, fun _ => rfl⟩
theorem TK.tr {o n m : Ob} (h : TK o n) (g : TK n m) : TK o m := ⟨g.1.trans h.1, g.2.1.trans h.2.1, g.2.2.1.trans h.2.2.1, fun j => (g.2.2.2 j).trans (h.2.2.2 j)⟩
theorem TK.s {o n : Ob} {k i : Nat} {v : Int32} (h : TK o n) (h1 : 1 ≠ k) (h3 : 3 ≠ k) (h11 : 11 ≠ k) (h6 : 6 ≠ k) : TK o (s32 n k i v) := by
  unfold TK
  rw [g_s, if_neg h1, g_s, if_neg h3, g_s, if_neg h11]
  exact ⟨h.1, h.2.1, h.2.2.1, fun j => by rw [g_s, if_neg h6]; exact h.2.2.2 j⟩
theorem TK.l {o n : Ob} {k i : Nat} {v : Int64} (h : TK o n) : TK o (s64 n k i v) := h
theorem TK.cd {o n : Ob} (h : TK o n) : cdn n = cdn o := by
  unfold cdn; rw [h.2.1, h.2.2.2]
theorem tk_ {p : Prop} (h : p := by ((try with_reducible assumption); (repeat (with_reducible first | assumption | exact TK.refl | refine TK.l ?_ | (refine TK.s ?_ (by decide) (by decide) (by decide) (by decide)) | (refine TK.tr ?_ (by assumption)))); all_goals fail)) : p := h
theorem ke_ {p : Prop} (h : p := by ((try with_reducible assumption); (repeat (with_reducible first | assumption | exact KE.refl | refine KE.s ?_ | (refine KE.tr ?_ (by assumption)))); all_goals fail)) : p := h
theorem wi_ {p : Prop} (h : p := by ((try with_reducible assumption); (repeat (with_reducible first | assumption | refine WI.ad ?_ ari_ ari_ | (refine WI.ne ?_ (by decide) (by decide) (by decide) (by decide) (by decide) (by decide)) | (refine WI.ke ?_ (by assumption) ari_ ari_) | (refine WI.kc ?_ (by assumption) (by decide) (by decide) (by decide) (by decide) (by decide) (by decide)))); all_goals fail)) : p := h
theorem kfo_ {p : Prop} (h : p := by first | (have q9 := KF.opt (by with_reducible assumption) (by with_reducible assumption); omega) | (have q9 := KF.cel (by with_reducible assumption) (by with_reducible assumption); omega)) : p := h
theorem imp_ {p : Prop} (h : p := by (intro z9; first | (exact ⟨by omega, by omega⟩) | (with_reducible rfl) | (exact ⟨by decide, by decide⟩) | ((try simp (disch := (first | omega | (simp only [Int32.reduceToInt]; omega) | (simp (disch := first | omega | (simp only [Int32.reduceToInt]; omega)) only [tadd, tsub, mul6, neg1, Int32.reduceToInt]; omega))) only [neg1, mul6, g_s, g_l, tadd, tsub, inb_iff, Int32.lt_iff_toInt_lt, Int32.le_iff_toInt_le, i32_eq, b2i_0, Int32.reduceToInt, reduceIte, Nat.reduceEqDiff] at z9); omega) | (cases z9; all_goals fail) | omega | (subst z9; exact absurd (by decide) (by assumption)) | (subst z9; exact absurd (by assumption) (by decide)))) : p := h
theorem oca_ {p : Prop} (h : p := by (with_reducible exact OC.at (by with_reducible assumption) (by omega) (by omega))) : p := h
theorem tu_ {p : Prop} (h : p := by first | (with_reducible assumption) | (with_reducible rfl) | exact ari_ | exact arr_ | exact kf_ | exact oca_ | exact kfo_ | exact imp_ | trivial) : p := h
theorem ok2_ {p : Prop} (h : p := by first | (with_reducible assumption) | (refine ⟨?_, ?_⟩ <;> exact tu_)) : p := h
theorem ok4_ {p : Prop} (h : p := by first | (with_reducible assumption) | (refine ⟨?_, ?_, ?_, ?_⟩ <;> exact tu_)) : p := h
theorem ok6_ {p : Prop} (h : p := by first | (with_reducible assumption) | (refine ⟨?_, ?_, ?_, ?_, ?_, ?_⟩ <;> exact tu_)) : p := h
theorem ok9_ {p : Prop} (h : p := by first | (with_reducible assumption) | (refine ⟨?_, ?_, ?_, ?_, ?_, ?_, ?_, ?_, ?_⟩ <;> exact tu_)) : p := h
/-! the options stay -/
def KO (o n : Ob) : Prop := ∀ j : Nat, g64 n 0 j = g64 o 0 j ∧ g64 n 1 j = g64 o 1 j
theorem KO.refl {o : Ob} : KO o o := fun _ => ⟨rfl, rfl⟩
theorem KO.tr {o n m : Ob} (h : KO o n) (g : KO n m) : KO o m := fun j => ⟨(g j).1.trans (h j).1, (g j).2.trans (h j).2⟩
theorem KO.s {o n : Ob} {k i : Nat} {v : Int32} (h : KO o n) : KO o (s32 n k i v) := h
theorem KO.l {o n : Ob} {k i : Nat} {v : Int64} (h : KO o n) (h0 : 0 ≠ k) (h1 : 1 ≠ k) : KO o (s64 n k i v) := fun j => by
  rw [g64_other _ h0, g64_other _ h1]; exact h j
def KP (o n : Ob) : Prop := (∀ j : Nat, ¬ j = 0 → g64 n 0 j = g64 o 0 j) ∧ (∀ j : Nat, g64 n 1 j = g64 o 1 j)
theorem KP.refl {o : Ob} : KP o o := ⟨fun _ _ => rfl, fun _ => rfl⟩
theorem KP.z {o n : Ob} {v : Int64} (h : KP o n) : KP o (s64 n 0 (Int32.toNatClampNeg (0 : Int32)) v) := ⟨fun j hj => by
  rw [g64_same, if_neg (show ¬ j = Int32.toNatClampNeg (0 : Int32) from hj)]; exact h.1 j hj, fun j => by rw [g64_other _ (by decide)]; exact h.2 j⟩
theorem KP.tr {o n m : Ob} (h : KP o n) (g : KP n m) : KP o m := ⟨fun j hj => (g.1 j hj).trans (h.1 j hj), fun j => (g.2 j).trans (h.2 j)⟩
theorem KP.k {o n m : Ob} (h : KP o n) (g : KO n m) : KP o m := ⟨fun j hj => ((g j).1).trans (h.1 j hj), fun j => ((g j).2).trans (h.2 j)⟩
theorem KP.ko {o n : Ob} (h : KP o n) (e : g64 n 0 0 = g64 o 0 (Int32.toNatClampNeg (0 : Int32))) : KO o n := fun j => ⟨by
  by_cases c : j = 0
  · rw [c]; exact e
  · exact h.1 j c, h.2 j⟩
theorem ko_ {p : Prop} (h : p := by ((try with_reducible assumption); (repeat (with_reducible first | assumption | exact KO.refl | refine KO.s ?_ | (refine KO.l ?_ (by decide) (by decide)) | (exact KP.ko (by assumption) (by assumption)) | (refine KO.tr ?_ (by assumption)))); all_goals fail)) : p := h
theorem kp_ {p : Prop} (h : p := by ((try with_reducible assumption); (repeat (with_reducible first | assumption | exact KP.refl | refine KP.z ?_ | (refine KP.tr ?_ (by assumption)) | (refine KP.k ?_ (by assumption)))); all_goals fail)) : p := h
theorem gz_ {p : Prop} (h : p := by first | (with_reducible assumption) | exact g64_self _ 0 _ _) : p := h
