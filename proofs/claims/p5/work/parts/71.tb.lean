/-! TOTALITY: ranges, and carriers of the ways to show them -/
theorem inb_iff {i : Int32} {n : Nat} : inb i n = true ↔ 0 ≤ i.toInt ∧ i.toInt < n := by
  simp only [inb, Bool.and_eq_true, decide_eq_true_eq, Int32.le_iff_toInt_le]
  have h : i.toNatClampNeg = i.toInt.toNat := rfl
  rw [h]
  have z : (0 : Int32).toInt = 0 := by decide
  constructor
  · intro ⟨a, b⟩; omega
  · intro ⟨a, b⟩; omega
theorem g_s {o : Ob} {k i k' j : Nat} {v : Int32} : g32 (s32 o k i v) k' j = if k' = k then (if j = i then v else g32 o k' j) else g32 o k' j := g32_s32 o k i v k' j
theorem g_l {o : Ob} {k i k' j : Nat} {v : Int64} : g32 (s64 o k i v) k' j = g32 o k' j := rfl
theorem i32_eq {a b : Int32} : a = b ↔ a.toInt = b.toInt := Int32.toInt_inj.symm
theorem i32_add (a b : Int32) : ((a + b).toInt = a.toInt + b.toInt ∨ (a + b).toInt = a.toInt + b.toInt - 4294967296 ∨ (a + b).toInt = a.toInt + b.toInt + 4294967296) ∧ -2147483648 ≤ (a + b).toInt ∧ (a + b).toInt ≤ 2147483647 := by
  have h1 := a.toInt_lt; have h2 := a.le_toInt; have h3 := b.toInt_lt; have h4 := b.le_toInt
  have h5 := (a + b).toInt_lt; have h6 := (a + b).le_toInt
  have h7 : (a + b).toInt = if (a.toInt + b.toInt) % 4294967296 < 2147483648 then (a.toInt + b.toInt) % 4294967296 else (a.toInt + b.toInt) % 4294967296 - 4294967296 := by
    rw [Int32.toInt_add]; rfl
  split at h7 <;> omega
theorem i32_sub (a b : Int32) : ((a - b).toInt = a.toInt - b.toInt ∨ (a - b).toInt = a.toInt - b.toInt - 4294967296 ∨ (a - b).toInt = a.toInt - b.toInt + 4294967296) ∧ -2147483648 ≤ (a - b).toInt ∧ (a - b).toInt ≤ 2147483647 := by
  have h1 := a.toInt_lt; have h2 := a.le_toInt; have h3 := b.toInt_lt; have h4 := b.le_toInt
  have h5 := (a - b).toInt_lt; have h6 := (a - b).le_toInt
  have h7 : (a - b).toInt = if (a.toInt - b.toInt) % 4294967296 < 2147483648 then (a.toInt - b.toInt) % 4294967296 else (a.toInt - b.toInt) % 4294967296 - 4294967296 := by
    rw [Int32.toInt_sub]; rfl
  split at h7 <;> omega
theorem i32_mul (a b : Int32) : ∃ q : Int, (a * b).toInt = a.toInt * b.toInt - 4294967296 * q ∧ -2147483648 ≤ (a * b).toInt ∧ (a * b).toInt ≤ 2147483647 := by
  have h5 := (a * b).toInt_lt; have h6 := (a * b).le_toInt
  have h7 : (a * b).toInt = if (a.toInt * b.toInt) % 4294967296 < 2147483648 then (a.toInt * b.toInt) % 4294967296 else (a.toInt * b.toInt) % 4294967296 - 4294967296 := by
    rw [Int32.toInt_mul]; rfl
  generalize a.toInt * b.toInt = m at h7
  split at h7
  · exact ⟨m / 4294967296, by omega, by omega, by omega⟩
  · exact ⟨m / 4294967296 + 1, by omega, by omega, by omega⟩
theorem tadd {a b : Int32} (h1 : -2147483648 ≤ a.toInt + b.toInt) (h2 : a.toInt + b.toInt ≤ 2147483647) : (a + b).toInt = a.toInt + b.toInt := by
  have := i32_add a b
  omega
theorem tsub {a b : Int32} (h1 : -2147483648 ≤ a.toInt - b.toInt) (h2 : a.toInt - b.toInt ≤ 2147483647) : (a - b).toInt = a.toInt - b.toInt := by
  have := i32_sub a b
  omega
theorem tmul {a b : Int32} (h1 : -2147483648 ≤ a.toInt * b.toInt) (h2 : a.toInt * b.toInt ≤ 2147483647) : (a * b).toInt = a.toInt * b.toInt := by
  obtain ⟨q, e, l, u⟩ := i32_mul a b
  generalize a.toInt * b.toInt = m at e h1 h2
  omega
theorem clampS {x : Int32} (h0 : 0 ≤ x.toInt) (h1 : x.toInt < 2147483647) : Int32.toNatClampNeg (x + 1) = Int32.toNatClampNeg x + 1 := by
  have e : (x + 1).toInt = x.toInt + 1 := tadd (a := x) (b := 1) (by have : (1 : Int32).toInt = 1 := rfl; omega) (by have : (1 : Int32).toInt = 1 := rfl; omega)
  show (x + 1).toInt.toNat = x.toInt.toNat + 1
  omega
theorem clampP {x : Int32} (h0 : 0 < x.toInt) : Int32.toNatClampNeg x = Int32.toNatClampNeg (x - 1) + 1 := by
  have e : (x - 1).toInt = x.toInt - 1 := tsub (a := x) (b := 1) (by have : (1 : Int32).toInt = 1 := rfl; omega) (by have : (1 : Int32).toInt = 1 := rfl; have := x.toInt_lt; omega)
  show x.toInt.toNat = (x - 1).toInt.toNat + 1
  omega
theorem clampI {x : Int32} (h0 : 0 ≤ x.toInt) : ((Int32.toNatClampNeg x : Nat) : Int) = x.toInt := by
  show ((x.toInt.toNat : Nat) : Int) = x.toInt
  omega
def AR (o : Ob) (k : Nat) (lo hi : Int) : Prop := ∀ j, lo ≤ (g32 o k j).toInt ∧ (g32 o k j).toInt ≤ hi
theorem AR.l {o : Ob} {k k' i : Nat} {lo hi : Int} {v : Int64} (h : AR o k lo hi) : AR (s64 o k' i v) k lo hi := h
theorem AR.ne {o : Ob} {k k' i : Nat} {lo hi : Int} {v : Int32} (hk : k ≠ k') (h : AR o k lo hi) : AR (s32 o k' i v) k lo hi := fun j => by
  rw [g_s, if_neg hk]; exact h j
theorem AR.eq {o : Ob} {k i : Nat} {lo hi : Int} {v : Int32} (h1 : lo ≤ v.toInt) (h2 : v.toInt ≤ hi) (h : AR o k lo hi) : AR (s32 o k i v) k lo hi := fun j => by
  rw [g_s, if_pos rfl]
  split
  · exact ⟨h1, h2⟩
  · exact h j
theorem b2i_1 {b : Bool} (h : ¬ b2i b = 0) : b = true := by cases b <;> simp_all [b2i]
theorem bind1_s {α β : Type} {a : α} {f : α → Option β} : bind1 (some a) f = f a := rfl
theorem bind2_s {α γ β : Type} {a : α} {c : γ} {f : α → γ → Option β} : bind2 (some (a, c)) f = f a c := rfl
theorem bind3_s {α γ δ β : Type} {a : α} {b : γ} {c : δ} {f : α → γ → δ → Option β} : bind3 (some (a, b, c)) f = f a b c := rfl
theorem bind4_s {α γ δ ε β : Type} {a : α} {b : γ} {c : δ} {d : ε} {f : α → γ → δ → ε → Option β} : bind4 (some (a, b, c, d)) f = f a b c d := rfl
theorem bind5_s {α γ δ ε ζ β : Type} {a : α} {b : γ} {c : δ} {d : ε} {e : ζ} {f : α → γ → δ → ε → ζ → Option β} : bind5 (some (a, b, c, d, e)) f = f a b c d e := rfl
theorem chk_tr {α : Type} (x : Option α) : chk true x = x := rfl
theorem pln_s {α : Type} (a : α) : pln (some a) = some (0, a) := rfl
theorem fuel_eq : ((fuel : Nat) : Int) = 1000000 := rfl
theorem nar_b0 : vp_nar .boolean (0 : Int32) = 0 := rfl
theorem nar_b1 : vp_nar .boolean (1 : Int32) = 1 := rfl
theorem u16_i32 (u : UInt16) : (u.toUInt32.toInt32).toInt = u.toNat := by
  have h : u.toNat < 65536 := u.toNat_lt
  have e : u.toUInt32.toBitVec.toNat = u.toNat := rfl
  show (u.toUInt32.toBitVec).toInt = u.toNat
  rw [BitVec.toInt_eq_toNat_cond, e]
  split
  · rfl
  · omega
theorem nar_c (x : Int32) : 0 ≤ (vp_nar .char x).toInt ∧ (vp_nar .char x).toInt ≤ 65535 := by
  rw [vp_nar_char, u16_i32]
  have h := (x.toUInt32.toUInt16).toNat_lt
  omega
theorem nar_c0 {x : Int32} : 0 ≤ (vp_nar .char x).toInt := (nar_c x).1
theorem nar_c1 {x : Int32} : (vp_nar .char x).toInt ≤ 65535 := (nar_c x).2
theorem nar_id {x : Int32} (h0 : 0 ≤ x.toInt) (h1 : x.toInt ≤ 65535) : x.toUInt32.toUInt16.toUInt32.toInt32 = x := by
  apply Int32.toInt_inj.mp
  rw [u16_i32]
  have e1 : (x.toUInt32.toUInt16).toNat = x.toUInt32.toNat % 65536 := rfl
  have e2 : (x.toUInt32.toNat : Int) = x.toInt := by
    have e3 : x.toInt = (x.toBitVec).toInt := rfl
    have e4 : x.toUInt32.toNat = x.toBitVec.toNat := rfl
    rw [e3, BitVec.toInt_eq_toNat_cond] at h0 h1 ⊢
    rw [e4]
    have := x.toBitVec.isLt
    split at h0 <;> split <;> omega
  omega
theorem isC_of {x : Int32} (h0 : 0 ≤ x.toInt) (h1 : x.toInt ≤ 65535) : isC x = true := by
  refine decide_eq_true ?_
  show Value.int (x.toUInt32.toUInt16.toUInt32.toInt32) = .int x
  rw [nar_id h0 h1]
theorem isB_of2 {x : Int32} (h0 : 0 ≤ x.toInt) (h1 : x.toInt ≤ 1) : isB x = true := by
  have h : x.toInt = 0 ∨ x.toInt = 1 := by omega
  rcases h with h | h
  · rw [show x = 0 from Int32.toInt_inj.mp h]; rfl
  · rw [show x = 1 from Int32.toInt_inj.mp h]; rfl
theorem neg1 : (-1 : Int32).toInt = -1 := rfl
theorem mul6 {p : Int32} (h0 : 0 ≤ p.toInt) (h1 : p.toInt ≤ 1000) : ((6 : Int32) * p).toInt = 6 * p.toInt := by
  have e6 : (6 : Int32).toInt = 6 := rfl
  rw [tmul (by rw [e6]; omega) (by rw [e6]; omega), e6]
theorem ari_ {p : Prop} (h : p := by first | omega | (simp (disch := (first | omega | (simp only [Int32.reduceToInt]; omega) | (simp (disch := first | omega | (simp only [Int32.reduceToInt]; omega)) only [tadd, tsub, mul6, neg1, Int32.reduceToInt]; omega))) only [fuel_eq, neg1, mul6, g_s, g_l, tadd, tsub, inb_iff, Int32.lt_iff_toInt_lt, Int32.le_iff_toInt_le, i32_eq, b2i_0, Int32.reduceToInt, Int32.reduceOfNat, if_true, if_false, Nat.reduceEqDiff, reduceIte, ne_eq, not_true, not_false_iff, Nat.succ_ne_self, true_or, or_true, true_and, and_true, false_or, or_false, false_and, and_false]; omega) | (simp (disch := (first | omega | (simp only [Int32.reduceToInt]; omega) | (simp (disch := first | omega | (simp only [Int32.reduceToInt]; omega)) only [tadd, tsub, mul6, neg1, Int32.reduceToInt]; omega))) only [fuel_eq, neg1, mul6, g_s, g_l, tadd, tsub, inb_iff, Int32.lt_iff_toInt_lt, Int32.le_iff_toInt_le, i32_eq, b2i_0, Int32.reduceToInt, Int32.reduceOfNat, if_true, if_false, Nat.reduceEqDiff, reduceIte, ne_eq, not_true, not_false_iff, Nat.succ_ne_self, true_or, or_true, true_and, and_true, false_or, or_false, false_and, and_false]; all_goals fail)) : p := h
theorem arr_ {p : Prop} (h : p := by ((try with_reducible assumption); (repeat (with_reducible first | assumption | refine AR.l ?_ | refine AR.ne (by decide) ?_ | refine AR.eq ari_ ari_ ?_)); all_goals fail)) : p := h
