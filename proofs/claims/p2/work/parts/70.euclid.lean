/-! EUCLID: both loops end at the greatest common divisor; the class's within its hundred turns -/
def fib : Nat → Nat
  | 0 => 0
  | 1 => 1
  | n + 2 => fib (n + 1) + fib n
theorem i64_rem {x y : Int64} (hx : 0 ≤ x.toInt) (hy : 0 < y.toInt) : (x - x / y * y).toInt = x.toInt % y.toInt := by
  have hx2 : x.toInt < 2 ^ 63 := x.toInt_lt
  have hd : (x / y).toInt = x.toInt / y.toInt := by
    rw [Int64.toInt_div, Int.tdiv_eq_ediv_of_nonneg hx]
    have h1 : 0 ≤ x.toInt / y.toInt := Int.ediv_nonneg hx (by omega)
    have h2 : x.toInt / y.toInt ≤ x.toInt := Int.ediv_le_self _ hx
    rw [Int.bmod_eq_of_le] <;> omega
  have hmul : x.toInt / y.toInt * y.toInt ≤ x.toInt := Int.ediv_mul_le _ (by omega)
  have hm0 : 0 ≤ x.toInt / y.toInt * y.toInt := Int.mul_nonneg (Int.ediv_nonneg hx (by omega)) (by omega)
  have hm : (x / y * y).toInt = x.toInt / y.toInt * y.toInt := by
    rw [Int64.toInt_mul, hd, Int.bmod_eq_of_le] <;> omega
  have he := Int.emod_def x.toInt y.toInt
  have he2 : y.toInt * (x.toInt / y.toInt) = x.toInt / y.toInt * y.toInt := Int.mul_comm _ _
  rw [Int64.toInt_sub, hm, Int.bmod_eq_of_le] <;> omega
theorem lgc_le {x y : Int64} : lg_cmp x y ≤ 0 ↔ x.toInt ≤ y.toInt := by
  unfold lg_cmp
  by_cases h : x > y
  · rw [if_pos h]
    have := Int64.lt_iff_toInt_lt.mp h
    constructor
    · intro h2; exact absurd h2 (by decide)
    · intro h2; omega
  · rw [if_neg h]
    have h1 : ¬ y.toInt < x.toInt := fun z => h (Int64.lt_iff_toInt_lt.mpr z)
    by_cases h2 : x = y
    · rw [if_pos h2]; constructor <;> intro _ <;> first | omega | decide
    · rw [if_neg h2]; constructor <;> intro _ <;> first | omega | decide
theorem lgc_eq {x y : Int64} : lg_cmp x y = 0 ↔ x = y := by
  unfold lg_cmp
  by_cases h : x > y
  · rw [if_pos h]
    constructor
    · intro h2; exact absurd h2 (by decide)
    · intro h2; subst h2; exact absurd (Int64.lt_iff_toInt_lt.mp h) (by omega)
  · rw [if_neg h]
    by_cases h2 : x = y
    · rw [if_pos h2]; exact ⟨fun _ => h2, fun _ => rfl⟩
    · rw [if_neg h2]; exact ⟨fun z => absurd z (by decide), fun z => absurd z h2⟩
theorem lgc_ge {x y : Int64} : 0 ≤ lg_cmp x y ↔ y.toInt ≤ x.toInt := by
  unfold lg_cmp
  by_cases h : x > y
  · rw [if_pos h]
    have := Int64.lt_iff_toInt_lt.mp h
    constructor <;> intro _ <;> first | omega | decide
  · rw [if_neg h]
    have h1 : ¬ y.toInt < x.toInt := fun z => h (Int64.lt_iff_toInt_lt.mpr z)
    by_cases h2 : x = y
    · rw [if_pos h2]; subst h2; constructor <;> intro _ <;> first | omega | decide
    · rw [if_neg h2]
      have h3 : x.toInt ≠ y.toInt := fun z => h2 (Int64.toInt_inj.mp z)
      constructor
      · intro z; exact absurd z (by decide)
      · intro z; omega
theorem lgc_lt {x y : Int64} : lg_cmp x y < 0 ↔ x.toInt < y.toInt := by
  have := @lgc_ge x y
  constructor
  · intro h
    exact Int.not_le.mp (fun z => absurd (this.mpr z) (Int32.not_le.mpr h))
  · intro h
    exact Int32.not_le.mp (fun z => absurd (this.mp z) (by omega))
theorem lgc_gt {x y : Int64} : 0 < lg_cmp x y ↔ y.toInt < x.toInt := by
  have := @lgc_le x y
  constructor
  · intro h
    exact Int.not_le.mp (fun z => absurd (this.mpr z) (Int32.not_le.mpr h))
  · intro h
    exact Int32.not_le.mp (fun z => absurd (this.mp z) (by omega))
theorem fib_s (n : Nat) : fib (n + 2) = fib (n + 1) + fib n := rfl
theorem fib_pos : ∀ n, 0 < fib (n + 1)
  | 0 => by decide
  | n + 1 => by have := fib_pos n; rw [fib_s]; omega
theorem gcd_step (a b : Int) : Int.gcd b (a % b) = Int.gcd a b := by
  have h1 : ∀ x y : Int, Int.gcd (x % y) y = Int.gcd x y := fun x y => by
    rw [show x % y = x + y * (-(x / y)) by rw [Int.emod_def, Int.mul_neg]; omega]
    simp
  rw [Int.gcd_comm b, h1]
theorem mod_gcd (n : Nat) : ∀ (m : Nat) (a b : Int64), 0 ≤ a.toInt → 0 ≤ b.toInt → b.toInt < fib (n + 1) → ∃ g, F_Mod_common_17 (m + n + 1) a b = some g ∧ g.toInt = Int.gcd a.toInt b.toInt := by
  induction n using Nat.strongRecOn with
  | ind n ih =>
    intro m a b ha hb hn
    rw [F_Mod_common_17]
    by_cases h0 : b = 0
    · subst h0
      rw [if_pos (lgc_eq.mpr rfl)]
      refine ⟨a, rfl, ?_⟩
      simp; omega
    · rw [if_neg (fun z => h0 (lgc_eq.mp z)), show decide (¬ b = 0) = true from decide_eq_true h0]
      have hb0 : b.toInt ≠ 0 := fun z => h0 (Int64.toInt_inj.mp z)
      have hb1 : 0 < b.toInt := by omega
      match n, hn, ih with
      | 0, hn, _ => exact absurd hn (by simp [fib]; omega)
      | k + 1, hn, ih =>
        have hr := i64_rem ha hb1
        have hr0 := Int.emod_nonneg a.toInt hb0
        have hr1 := Int.emod_lt_of_pos a.toInt hb1
        show ∃ g, F_Mod_common_17 (m + k + 1) b (a - a / b * b) = some g ∧ _
        rw [← gcd_step a.toInt b.toInt, ← hr]
        by_cases hc : (a - a / b * b).toInt < fib (k + 1)
        · exact ih k (by omega) m b _ hb (by omega) hc
        · generalize (a - a / b * b) = r at *
          have hf := fib_pos k
          have hfs := fib_s k
          have hr2 : 0 < r.toInt := by omega
          have hrne : ¬ r = 0 := fun z => by rw [z] at hr2; exact absurd hr2 (by decide)
          rw [F_Mod_common_17, if_neg (fun z => hrne (lgc_eq.mp z)), show decide (¬ r = 0) = true from decide_eq_true hrne]
          match k, hc, hf, hfs, hn, ih with
          | 0, hc, hf, hfs, hn, ih => exact absurd hn (by simp [fib]; omega)
          | j + 1, hc, hf, hfs, hn, ih =>
            have hq := i64_rem hb hr2
            have hq0 := Int.emod_nonneg b.toInt (show r.toInt ≠ 0 by omega)
            have hq2 : b.toInt % r.toInt ≤ b.toInt - r.toInt := by
              have h1 : b.toInt % r.toInt = (b.toInt - r.toInt) % r.toInt := by rw [Int.sub_emod_right]
              rw [h1]
              have h2 := Int.emod_add_mul_ediv (b.toInt - r.toInt) r.toInt
              have h3 : 0 ≤ r.toInt * ((b.toInt - r.toInt) / r.toInt) := Int.mul_nonneg (by omega) (Int.ediv_nonneg (by omega) (by omega))
              omega
            show ∃ g, F_Mod_common_17 (m + j + 1) r (b - b / r * r) = some g ∧ _
            rw [← gcd_step b.toInt r.toInt, ← hq]
            have e1 : fib (j + 1 + 1 + 1) = fib (j + 1 + 1) + fib (j + 1) := rfl
            exact ih j (by omega) m r _ (by omega) (by omega) (by omega)
theorem i32n {t : Nat} (h : t < 2 ^ 31) : (Int32.ofNat t).toInt = t := by
  rw [Int32.toInt_ofNat_of_lt h]
theorem pos_nle {x : Int64} (h : 0 < x.toInt) : ¬ lg_cmp x 0 ≤ 0 := fun z => by
  have h1 := lgc_le.mp z
  have h2 : (0 : Int64).toInt = 0 := by decide
  omega
theorem pf_gcd (n : Nat) : ∀ (m t : Nat) (a b : Int64), t + n ≤ 100 → 0 ≤ a.toInt → 0 < b.toInt → a.toInt < fib (n + 1) → ∃ g, F_PF_commonDivisor_20 (m + n + 1) a b (Int32.ofNat t) = some g ∧ g.toInt = Int.gcd a.toInt b.toInt := by
  induction n using Nat.strongRecOn with
  | ind n ih =>
    intro m t a b ht ha hb hn
    rw [F_PF_commonDivisor_20]
    by_cases h0 : a = 0
    · subst h0
      have e1 : (if (100 : Int32) ≤ Int32.ofNat t then (some b) else (if (lg_cmp (0 : Int64) (0 : Int64)) ≤ 0 then (some b) else (chk (decide (¬ (0 : Int64) = 0)) (F_PF_commonDivisor_20 (m + n) (b - b / 0 * 0) 0 (Int32.ofNat t + (1 : Int32)))))) = some b := by
        by_cases h1 : (100 : Int32) ≤ Int32.ofNat t
        · rw [if_pos h1]
        · rw [if_neg h1, if_pos (by decide)]
      rw [e1]
      refine ⟨b, rfl, ?_⟩
      simp; omega
    · have ha0 : a.toInt ≠ 0 := fun z => h0 (Int64.toInt_inj.mp z)
      have ha1 : 0 < a.toInt := by omega
      match n, hn, ht, ih with
      | 0, hn, _, _ => exact absurd hn (by simp [fib]; omega)
      | k + 1, hn, ht, ih =>
        have hle : ∀ u : Nat, u ≤ 99 → ¬ (100 : Int32) ≤ Int32.ofNat u := fun u hu z => by
          have h1 := Int32.le_iff_toInt_le.mp z
          rw [i32n (by omega)] at h1
          have h2 : (100 : Int32).toInt = 100 := by decide
          omega
        have hinc : ∀ u : Nat, Int32.ofNat u + 1 = Int32.ofNat (u + 1) := fun u => by
          rw [Int32.ofNat_add]; rfl
        rw [if_neg (hle t (by omega)), if_neg (pos_nle (by omega)), show decide (¬ a = 0) = true from decide_eq_true h0, hinc]
        have hr := i64_rem (Int.le_of_lt hb) ha1
        have hr0 := Int.emod_nonneg b.toInt ha0
        have hr1 := Int.emod_lt_of_pos b.toInt ha1
        show ∃ g, F_PF_commonDivisor_20 (m + k + 1) (b - b / a * a) a (Int32.ofNat (t + 1)) = some g ∧ _
        rw [Int.gcd_comm, ← gcd_step b.toInt a.toInt, ← hr, Int.gcd_comm]
        by_cases hc : (b - b / a * a).toInt < fib (k + 1)
        · exact ih k (by omega) m (t + 1) _ a (by omega) (by omega) ha1 hc
        · generalize (b - b / a * a) = r at *
          have hf := fib_pos k
          have hfs := fib_s k
          have hr2 : 0 < r.toInt := by omega
          have hrne : ¬ r = 0 := fun z => by rw [z] at hr2; exact absurd hr2 (by decide)
          match k, hc, hf, hfs, hn, ht, ih with
          | 0, hc, hf, hfs, hn, ht, ih => exact absurd hn (by simp [fib]; omega)
          | j + 1, hc, hf, hfs, hn, ht, ih =>
            rw [F_PF_commonDivisor_20, if_neg (hle (t + 1) (by omega)), if_neg (pos_nle (by omega)), show decide (¬ r = 0) = true from decide_eq_true hrne, hinc]
            have hq := i64_rem ha hr2
            have hq0 := Int.emod_nonneg a.toInt (show r.toInt ≠ 0 by omega)
            have hq2 : a.toInt % r.toInt ≤ a.toInt - r.toInt := by
              have h1 : a.toInt % r.toInt = (a.toInt - r.toInt) % r.toInt := by rw [Int.sub_emod_right]
              rw [h1]
              have h2 := Int.emod_add_mul_ediv (a.toInt - r.toInt) r.toInt
              have h3 : 0 ≤ r.toInt * ((a.toInt - r.toInt) / r.toInt) := Int.mul_nonneg (by omega) (Int.ediv_nonneg (by omega) (by omega))
              omega
            show ∃ g, F_PF_commonDivisor_20 (m + j + 1) (a - a / r * r) r (Int32.ofNat (t + 1 + 1)) = some g ∧ _
            rw [Int.gcd_comm, ← gcd_step a.toInt r.toInt, ← hq, Int.gcd_comm]
            have e1 : fib (j + 1 + 1 + 1) = fib (j + 1 + 1) + fib (j + 1) := rfl
            exact ih j (by omega) m (t + 1 + 1) _ r (by omega) (by omega) hr2 (by omega)
theorem fib91 : fib 91 = 4660046610375530309 := by decide +kernel
theorem i64_neg {a : Int64} (h : -(2 ^ 63) < a.toInt) : (-a).toInt = -a.toInt := by
  have h2 := a.toInt_lt
  rw [Int64.toInt_neg, Int.bmod_eq_of_le] <;> omega
/-- the class's commonDivisor -/
theorem pf_cd {a b : Int64} (ha : -4000000000000000000 ≤ a.toInt) (ha2 : a.toInt ≤ 4000000000000000000) (hb : 0 < b.toInt) : ∃ g, F_PF_commonDivisor a b = some g ∧ g.toInt = Int.gcd a.toInt b.toInt := by
  rw [F_PF_commonDivisor]
  have hz : (0 : Int64).toInt = 0 := by decide
  have hfu : fuel = 999909 + 90 + 1 := rfl
  by_cases h : 0 ≤ lg_cmp a 0
  · have h1 := lgc_ge.mp h
    rw [if_pos h, hfu]
    exact pf_gcd 90 999909 0 a b (by omega) (by omega) hb (by rw [fib91]; omega)
  · have h1 : ¬ (0 : Int64).toInt ≤ a.toInt := fun z => h (lgc_ge.mpr z)
    have hn := i64_neg (a := a) (by omega)
    rw [if_neg h, hfu]
    obtain ⟨g, e1, e2⟩ := pf_gcd 90 999909 0 (-a) b (by omega) (by omega) hb (by rw [fib91]; omega)
    exact ⟨g, e1, by rw [e2, hn, Int.neg_gcd]⟩
/-- the reference's -/
theorem mod_cd {a b : Int64} (ha : -4000000000000000000 ≤ a.toInt) (ha2 : a.toInt ≤ 4000000000000000000) (hb : 0 < b.toInt) (hb2 : b.toInt ≤ 4000000000000000000) : ∃ g, F_Mod_common a b = some g ∧ g.toInt = Int.gcd a.toInt b.toInt := by
  rw [F_Mod_common]
  have hz : (0 : Int64).toInt = 0 := by decide
  have hfu : fuel = 999909 + 90 + 1 := rfl
  by_cases h : 0 ≤ lg_cmp a 0
  · have h1 := lgc_ge.mp h
    rw [if_pos h, hfu]
    exact mod_gcd 90 999909 a b (by omega) (by omega) (by rw [fib91]; omega)
  · have h1 : ¬ (0 : Int64).toInt ≤ a.toInt := fun z => h (lgc_ge.mpr z)
    have hn := i64_neg (a := a) (by omega)
    rw [if_neg h, hfu]
    obtain ⟨g, e1, e2⟩ := mod_gcd 90 999909 (-a) b (by omega) (by omega) (by rw [fib91]; omega)
    exact ⟨g, e1, by rw [e2, hn, Int.neg_gcd]⟩
