/-! P1: one call on fresh objects -/
theorem fm_32 (k i : Nat) : g32 oMod0 k i = 0 := rfl
theorem f0_32 (k i : Nat) : g32 ob0 k i = 0 := rfl
theorem f0_64 (k i : Nat) : g64 ob0 k i = 0 := rfl
theorem s32_s {o : Ob} {k i : Nat} {v : Int32} : g32 (s32 o k i v) k i = v := by simp [g32, s32, upd]
theorem bind2_s {α γ β : Type} {a : α} {c : γ} {f : α → γ → Option β} : bind2 (some (a, c)) f = f a c := rfl
theorem bind1_s {α β : Type} {a : α} {f : α → Option β} : bind1 (some a) f = f a := rfl
theorem bind3_s {α γ δ β : Type} {a : α} {b : γ} {c : δ} {f : α → γ → δ → Option β} : bind3 (some (a, b, c)) f = f a b c := rfl
theorem bind4_s {α γ δ ε β : Type} {a : α} {b : γ} {c : δ} {d : ε} {f : α → γ → δ → ε → Option β} : bind4 (some (a, b, c, d)) f = f a b c d := rfl
theorem bind5_s {α γ δ ε ζ β : Type} {a : α} {b : γ} {c : δ} {d : ε} {e : ζ} {f : α → γ → δ → ε → ζ → Option β} : bind5 (some (a, b, c, d, e)) f = f a b c d e := rfl
theorem chk_tr {α : Type} (x : Option α) : chk true x = x := rfl
theorem p1_dr : F_PF_demandRead ob0 = some (1, ()) := rfl
theorem p1_dw : F_PF_demandWorkedOut ob0 = some (1, ()) := rfl
theorem p1_write (x : Int32) : F_Law_write x ob0 ob0 ob0 = some (1, ob0) := by
  rw [F_Law_write, F_PF_write, p1_dr, bind2_s, if_neg (by decide), bind2_s, if_neg (by decide), if_pos rfl]
theorem p1_run : F_Law_run ob0 ob0 oReckoner0 ob0 ob0 ob0 = some (1, ob0, ob0, oReckoner0, ob0) := rfl
theorem p1_state (x y : Int32) : F_Law_state x y ob0 ob0 ob0 = some (1, ob0) := rfl
theorem p1_ring (x : Int32) : F_Law_ring x ob0 ob0 ob0 = some (1, ob0) := rfl
theorem p1_cond (x y : Int32) : F_Law_condition x y ob0 ob0 ob0 = some (1, ob0) := rfl
theorem p1_line (x y : Int32) : F_Law_line x y ob0 ob0 ob0 = some (1, ob0) := rfl
theorem p1_needs (x y : Int32) : F_Law_needs x y ob0 ob0 ob0 = some (1, ob0) := rfl
theorem p1_limit (x y : Int32) : F_Law_limit x y ob0 ob0 oReckoner0 ob0 ob0 ob0 = some (1, oReckoner0, ob0) := rfl
theorem p1_check (x : Int32) : F_Law_check x ob0 ob0 oReckoner0 ob0 ob0 ob0 ob0 = some (1, oReckoner0, ob0, ob0) := rfl
theorem p1_version : F_Law_version ob0 ob0 ob0 ob0 = some (1, ob0, ob0, ob0) := rfl
theorem p1_differs (x y : Int32) : F_Law_differs x y ob0 ob0 ob0 ob0 = some (1, ob0) := rfl
theorem p1_same : F_Law_same ob0 ob0 oReckoner0 ob0 ob0 ob0 ob0 = some (1, oReckoner0, ob0, ob0) := rfl
theorem q1_write (x : Int32) : F_Mod_write x oMod0 = some (0, s32 oMod0 0 0 1) := rfl
theorem q1_run : F_Mod_run oMod0 = some (0, s32 oMod0 0 0 1) := rfl
theorem q1_version : F_Mod_version oMod0 = some (0, s32 oMod0 0 0 1) := rfl
abbrev K23 := Int32 → Ob → Ob → Ob → Ob → Ob → Ob → Ob → Ob → Ob → Ob → Ob → Ob → Ob → Ob → Ob → Option Unit
def kAll (k : K23) : Prop := ∀ o0 o1 o2 o3 o4 o5 o6 o7 o8 o9 o10 o11 o12 o13 o14, k (0 + 6) o0 o1 o2 o3 o4 o5 o6 o7 o8 o9 o10 o11 o12 o13 o14 = some ()
section P1
variable {xs : Nat → Int32} {k : K23}
theorem p1_162 (hk : kAll k) : F_Law_law_162 6 xs k 0 ob0 ob0 ob0 ob0 ob0 ob0 oReckoner0 ob0 ob0 ob0 ob0 ob0 ob0 oMod0 ob0 = some () := hk _ _ _ _ _ _ _ _ _ _ _ _ _ (s32 oMod0 0 0 1) _
theorem p1_369 (hk : kAll k) : F_Law_law_369 6 xs k 0 ob0 ob0 ob0 ob0 ob0 ob0 oReckoner0 ob0 ob0 ob0 ob0 ob0 ob0 oMod0 ob0 = some () := hk _ _ _ _ _ _ _ _ _ _ _ _ _ (s32 oMod0 0 0 1) _
theorem p1_413 (hk : kAll k) : F_Law_law_413 6 xs k 0 ob0 ob0 ob0 ob0 ob0 ob0 oReckoner0 ob0 ob0 ob0 ob0 ob0 ob0 oMod0 ob0 = some () := hk _ _ _ _ _ _ _ _ _ _ _ _ _ (s32 oMod0 0 0 1) _
theorem p1_560 (hk : kAll k) : F_Law_law_560 6 xs k 0 ob0 ob0 ob0 ob0 ob0 ob0 oReckoner0 ob0 ob0 ob0 ob0 ob0 ob0 oMod0 ob0 = some () := hk _ _ _ _ _ _ _ _ _ _ _ _ _ (s32 oMod0 0 0 1) _
theorem p1_616 (hk : kAll k) : F_Law_law_616 6 xs k 0 ob0 ob0 ob0 ob0 ob0 ob0 oReckoner0 ob0 ob0 ob0 ob0 ob0 ob0 oMod0 ob0 = some () := hk _ _ _ _ _ _ _ _ _ _ _ _ _ (s32 oMod0 0 0 1) _
theorem p1_684 (hk : kAll k) : F_Law_law_684 6 xs k 0 ob0 ob0 ob0 ob0 ob0 ob0 oReckoner0 ob0 ob0 ob0 ob0 ob0 ob0 oMod0 ob0 = some () := hk _ _ _ _ _ _ _ _ _ _ _ _ _ (s32 oMod0 0 0 1) _
theorem p1_827 (hk : kAll k) : F_Law_law_827 6 xs k 0 ob0 ob0 ob0 ob0 ob0 ob0 oReckoner0 ob0 ob0 ob0 ob0 ob0 ob0 oMod0 ob0 = some () := hk _ _ _ _ _ _ _ _ _ _ _ _ _ (s32 oMod0 0 0 1) _
theorem p1_895 (hk : kAll k) : F_Law_law_895 6 xs k 0 ob0 ob0 ob0 ob0 ob0 ob0 oReckoner0 ob0 ob0 ob0 ob0 ob0 ob0 oMod0 ob0 = some () := hk _ _ _ _ _ _ _ _ _ _ _ _ _ (s32 oMod0 0 0 1) _
theorem p1_951 (hk : kAll k) : F_Law_law_951 6 xs k 0 ob0 ob0 ob0 ob0 ob0 ob0 oReckoner0 ob0 ob0 ob0 ob0 ob0 ob0 oMod0 ob0 = some () := hk _ _ _ _ _ _ _ _ _ _ _ _ _ (s32 oMod0 0 0 1) _
theorem p1_1063 (hk : kAll k) : F_Law_law_1063 6 xs k 0 ob0 ob0 ob0 ob0 ob0 ob0 oReckoner0 ob0 ob0 ob0 ob0 ob0 ob0 oMod0 ob0 = some () := hk _ _ _ _ _ _ _ _ _ _ _ _ _ (s32 oMod0 0 0 1) _
theorem p1_1114 (hk : kAll k) : F_Law_law_1114 6 xs k 0 ob0 ob0 ob0 ob0 ob0 ob0 oReckoner0 ob0 ob0 ob0 ob0 ob0 ob0 oMod0 ob0 = some () := hk _ _ _ _ _ _ _ _ _ _ _ _ _ (s32 oMod0 0 0 0) _
theorem p1_752 (hk : kAll k) : F_Law_law_752 6 xs k 0 ob0 ob0 ob0 ob0 ob0 ob0 oReckoner0 ob0 ob0 ob0 ob0 ob0 ob0 oMod0 ob0 = some () := by
  have q : ∀ x y : Int32, F_Mod_needs x y oMod0 = some (false, s32 oMod0 0 0 1) := by
    intro x y
    rw [F_Mod_needs]
    repeat' split
    all_goals rfl
  rw [F_Law_law_752, q]
  exact hk _ _ _ _ _ _ _ _ _ _ _ _ _ (s32 oMod0 0 0 1) _
theorem p1_995 (hk : kAll k) : F_Law_law_995 6 xs k 0 ob0 ob0 ob0 ob0 ob0 ob0 oReckoner0 ob0 ob0 ob0 ob0 ob0 ob0 oMod0 ob0 = some () := by
  rw [F_Law_law_995]
  simp only [show inb ((0 : Int32) + 1) 6 = true from rfl, show inb ((0 : Int32) + 2) 6 = true from rfl, chk_tr]
  repeat' split
  all_goals exact hk _ _ _ _ _ _ _ _ _ _ _ _ _ (s32 oMod0 0 0 1) _
theorem p1_481 (hk : kAll k) : F_Law_law_481 6 xs k 0 ob0 ob0 ob0 ob0 ob0 ob0 oReckoner0 ob0 ob0 ob0 ob0 ob0 ob0 oMod0 ob0 = some () := by
  have q : ∀ x y z : Int32, ∃ c : Int32, ¬ c = 0 ∧ F_Law_size x y z ob0 ob0 ob0 = some (c, ob0) ∧ F_Mod_size x y z oMod0 = some (0, s32 oMod0 0 0 c) := by
    intro x y z
    have le10 : ∀ {a b : Int32}, ¬ a < b → b ≤ a := fun h => Int32.not_lt.mp h
    by_cases h1 : x < 0
    · refine ⟨1, by decide, ?_, ?_⟩
      · rw [F_Law_size, F_PF_size, F_PF_cellNumber, F_PF_demandIndex, if_pos h1]; rfl
      · rw [F_Mod_size, F_Mod_isCell, if_pos h1]; rfl
    · by_cases h2 : x < 10
      · by_cases h3 : y < 0
        · refine ⟨1, by decide, ?_, ?_⟩
          · rw [F_Law_size, F_PF_size, F_PF_cellNumber, F_PF_demandIndex, if_neg h1, if_pos h2, F_PF_demandIndex, if_pos h3]; rfl
          · rw [F_Mod_size, F_Mod_isCell, if_neg h1, if_neg (Int32.not_le.mpr h2), if_pos h3]; rfl
        · by_cases h4 : y < 6
          · have e1 : F_PF_cellNumber x y = some (0, 6 * x + y) := by
              rw [F_PF_cellNumber, F_PF_demandIndex, if_neg h1, if_pos h2, F_PF_demandIndex, if_neg h3, if_pos h4]; rfl
            have e2 : F_Mod_isCell x y = some true := by
              rw [F_Mod_isCell, if_neg h1, if_neg (Int32.not_le.mpr h2), if_neg h3, if_neg (Int32.not_le.mpr h4)]
            by_cases h5 : z = 0
            · subst h5
              exact ⟨3, by decide, by rw [F_Law_size, F_PF_size, e1]; rfl, by rw [F_Mod_size, e2]; rfl⟩
            · by_cases h6 : z = 1
              · subst h6
                exact ⟨3, by decide, by rw [F_Law_size, F_PF_size, e1]; rfl, by rw [F_Mod_size, e2]; rfl⟩
              · refine ⟨2, by decide, ?_, ?_⟩
                · rw [F_Law_size, F_PF_size, e1, bind2_s, if_pos rfl, F_PF_demandZeroOrOne, if_neg h5, if_neg h6]; rfl
                · rw [F_Mod_size, e2, bind1_s, if_neg (by decide)]
                  by_cases h7 : z < 0
                  · rw [if_pos h7]; rfl
                  · have h8 : ¬ z ≤ 1 := fun w => by
                      have a1 := Int32.le_iff_toInt_le.mp w
                      have a2 := Int32.le_iff_toInt_le.mp (le10 h7)
                      have b0 : (0 : Int32).toInt = 0 := by decide
                      have b1 : (1 : Int32).toInt = 1 := by decide
                      have a3 : z.toInt ≠ 0 := fun q => h5 (Int32.toInt_inj.mp (q.trans b0.symm))
                      have a4 : z.toInt ≠ 1 := fun q => h6 (Int32.toInt_inj.mp (q.trans b1.symm))
                      omega
                    rw [if_neg h7, if_neg h8]; rfl
          · refine ⟨1, by decide, ?_, ?_⟩
            · rw [F_Law_size, F_PF_size, F_PF_cellNumber, F_PF_demandIndex, if_neg h1, if_pos h2, F_PF_demandIndex, if_neg h3, if_neg h4]; rfl
            · rw [F_Mod_size, F_Mod_isCell, if_neg h1, if_neg (Int32.not_le.mpr h2), if_neg h3, if_pos (le10 h4)]; rfl
      · refine ⟨1, by decide, ?_, ?_⟩
        · rw [F_Law_size, F_PF_size, F_PF_cellNumber, F_PF_demandIndex, if_neg h1, if_neg h2]; rfl
        · rw [F_Mod_size, F_Mod_isCell, if_neg h1, if_pos (le10 h2)]; rfl
  obtain ⟨c, hc, e1, e2⟩ := q (xs (Int32.toNatClampNeg (0 + 1))) (xs (Int32.toNatClampNeg (0 + 2))) (xs (Int32.toNatClampNeg (0 + 3)))
  rw [F_Law_law_481, e1, e2]
  simp only [show inb ((0 : Int32) + 1) 6 = true from rfl, show inb ((0 : Int32) + 2) 6 = true from rfl, show inb ((0 : Int32) + 3) 6 = true from rfl, chk_tr, bind2_s, F_Mod_thrown, bind1_s, s32_s]
  rw [if_pos trivial, if_neg hc]
  exact hk _ _ _ _ _ _ _ _ _ _ _ _ _ _ _
theorem p1_124 (hk : kAll k) : F_Law_law_124 6 xs k 0 ob0 ob0 ob0 ob0 ob0 ob0 oReckoner0 ob0 ob0 ob0 ob0 ob0 ob0 oMod0 ob0 = some () := by
  have q : ∀ x : Int32, ∃ (b : Bool) (o1 o2 : Ob), F_PF_unit x ob0 ob0 = some (b, o1) ∧ F_Mod_unit x oMod0 = some (b, o2) := by
    intro x
    by_cases h1 : x < 33
    · exact ⟨false, _, _, by rw [F_PF_unit, if_pos h1], by rw [F_Mod_unit, if_neg (by decide), if_pos h1]; rfl⟩
    · by_cases h2 : 126 < x
      · exact ⟨false, _, _, by rw [F_PF_unit, if_neg h1, if_pos h2], by rw [F_Mod_unit, if_neg (by decide), if_neg h1, if_pos h2]; rfl⟩
      · exact ⟨true, _, _, by rw [F_PF_unit, if_neg h1, if_neg h2]; rfl, by rw [F_Mod_unit, if_neg (by decide), if_neg h1, if_neg h2]; rfl⟩
  obtain ⟨b, o1, o2, e1, e2⟩ := q (xs (Int32.toNatClampNeg (0 + 1)))
  rw [F_Law_law_124, e1, e2]
  simp only [show inb ((0 : Int32) + 1) 6 = true from rfl, chk_tr, bind2_s]
  rw [if_pos trivial]
  exact hk _ _ _ _ _ _ _ _ _ _ _ _ _ _ _
theorem p1_rd : (F_PF_read ob0 ob0 ob0 ob0).map (fun z => z.1) = some (-1) := by decide +kernel
theorem p1_rm : (F_Mod_read oMod0).map (fun z => z.1) = some (-1) := by decide +kernel
theorem p1_149 (hk : kAll k) : F_Law_law_149 6 xs k 0 ob0 ob0 ob0 ob0 ob0 ob0 oReckoner0 ob0 ob0 ob0 ob0 ob0 ob0 oMod0 ob0 = some () := by
  obtain ⟨⟨r, n0, n1, n2, n3⟩, e1, e2⟩ := Option.map_eq_some_iff.mp p1_rd
  obtain ⟨⟨r', m0⟩, e3, e4⟩ := Option.map_eq_some_iff.mp p1_rm
  dsimp only at e2 e4
  subst e2; subst e4
  rw [F_Law_law_149, e1, e3, bind5_s, if_pos (by decide), bind2_s, if_pos rfl]
  exact hk _ _ _ _ _ _ _ _ _ _ _ _ _ _ _
theorem oR_1 {n : Nat} (h : n < 8) : g64 oReckoner0 1 n = 1 := by
  rcases n with _ | _ | _ | _ | _ | _ | _ | _ | n <;> first | rfl | omega
theorem oM_16 {n : Nat} (h : n < 8) : g64 oMod0 16 n = 1 := by
  rcases n with _ | _ | _ | _ | _ | _ | _ | _ | n <;> first | rfl | omega
theorem p1_set (x : Int32) (a d : Int64) : ∃ (c : Int32) (n0 n1 n2 n5 : Ob) (b : Bool) (m : Ob), F_Law_set x a d ob0 ob0 oReckoner0 ob0 ob0 ob0 = some (c, n0, n1, n2, n5) ∧ F_Mod_set x a d oMod0 = some (b, m) ∧ g32 m 0 0 = c ∧ (c = 0 → g64 n5 0 0 = bif b then 1 else 0) := by
  have le' : ∀ {p q : Int32}, ¬ p < q → q ≤ p := fun h => Int32.not_lt.mp h
  have ge8 : ∀ {p : Int32}, ¬ p < 8 → ¬ p ≤ 7 := fun {p} h z => by
    have a1 := Int32.le_iff_toInt_le.mp z
    have a2 := Int32.le_iff_toInt_le.mp (le' h)
    have b0 : (8 : Int32).toInt = 8 := by decide
    have b1 : (7 : Int32).toInt = 7 := by decide
    omega
  have lt8 : ∀ {p : Int32}, p < 8 → p ≤ 7 := fun {p} h => by
    have a1 := Int32.lt_iff_toInt_lt.mp h
    have b0 : (8 : Int32).toInt = 8 := by decide
    have b1 : (7 : Int32).toInt = 7 := by decide
    exact Int32.le_iff_toInt_le.mpr (by omega)
  by_cases h1 : x < 0
  · refine ⟨1, ob0, ob0, oReckoner0, ob0, false, s32 oMod0 0 0 1, ?_, ?_, s32_s, fun z => absurd z (by decide)⟩
    · rw [F_Law_set, F_PF_set, F_PF_demandIndex, if_pos h1]; rfl
    · rw [F_Mod_set, if_pos h1]; rfl
  by_cases h2 : x < 8
  rotate_left
  · refine ⟨1, ob0, ob0, oReckoner0, ob0, false, s32 oMod0 0 0 1, ?_, ?_, s32_s, fun z => absurd z (by decide)⟩
    · rw [F_Law_set, F_PF_set, F_PF_demandIndex, if_neg h1, if_neg h2]; rfl
    · rw [F_Mod_set, if_neg h1, if_neg (ge8 h2)]; rfl
  have e1 : F_PF_demandIndex x 8 = some (0, ()) := by rw [F_PF_demandIndex, if_neg h1, if_pos h2]; rfl
  by_cases h3 : lg_cmp d 1 < 0
  · refine ⟨2, ob0, ob0, oReckoner0, ob0, false, s32 oMod0 0 0 2, ?_, ?_, s32_s, fun z => absurd z (by decide)⟩
    · rw [F_Law_set, F_PF_set, e1, bind2_s, if_pos rfl, if_pos h3]; rfl
    · rw [F_Mod_set, if_neg h1, if_pos (lt8 h2), if_pos h3]; rfl
  by_cases h4 : 0 < lg_cmp d 1000000000
  · refine ⟨2, ob0, ob0, oReckoner0, ob0, false, s32 oMod0 0 0 2, ?_, ?_, s32_s, fun z => absurd z (by decide)⟩
    · rw [F_Law_set, F_PF_set, e1, bind2_s, if_pos rfl, if_neg h3, if_pos h4]; rfl
    · rw [F_Mod_set, if_neg h1, if_pos (lt8 h2), if_neg h3, if_pos h4]; rfl
  by_cases h5 : 0 < lg_cmp a 1000000000
  · refine ⟨2, ob0, ob0, oReckoner0, ob0, false, s32 oMod0 0 0 2, ?_, ?_, s32_s, fun z => absurd z (by decide)⟩
    · rw [F_Law_set, F_PF_set, e1, bind2_s, if_pos rfl, if_neg h3, if_neg h4, if_pos h5]; rfl
    · rw [F_Mod_set, if_neg h1, if_pos (lt8 h2), if_neg h3, if_neg h4, if_pos h5]; rfl
  by_cases h6 : 0 ≤ lg_cmp a (-1000000000)
  rotate_left
  · refine ⟨2, ob0, ob0, oReckoner0, ob0, false, s32 oMod0 0 0 2, ?_, ?_, s32_s, fun z => absurd z (by decide)⟩
    · rw [F_Law_set, F_PF_set, e1, bind2_s, if_pos rfl, if_neg h3, if_neg h4, if_neg h5, if_neg h6]; rfl
    · rw [F_Mod_set, if_neg h1, if_pos (lt8 h2), if_neg h3, if_neg h4, if_neg h5, if_neg h6]; rfl
  have b1 : (1 : Int64).toInt = 1 := by decide
  have b9 : (1000000000 : Int64).toInt = 1000000000 := by decide
  have bm : (-1000000000 : Int64).toInt = -1000000000 := by decide
  have c3 : 1 ≤ d.toInt := by
    have := Int.not_lt.mp (fun z => h3 (lgc_lt.mpr z))
    omega
  have c4 : d.toInt ≤ 1000000000 := by
    have := Int.not_lt.mp (fun z => h4 (lgc_gt.mpr z))
    omega
  have c5 : a.toInt ≤ 1000000000 := by
    have := Int.not_lt.mp (fun z => h5 (lgc_gt.mpr z))
    omega
  have c6 : -1000000000 ≤ a.toInt := by
    have := lgc_ge.mp h6
    omega
  obtain ⟨g, hg, hg2⟩ := pf_cd (a := a) (b := d) (by omega) (by omega) (by omega)
  obtain ⟨g', hg', hg2'⟩ := mod_cd (a := a) (b := d) (by omega) (by omega) (by omega) (by omega)
  have hgg : g' = g := Int64.toInt_inj.mp (hg2'.trans hg2.symm)
  subst hgg
  have gpos : 0 < Int.gcd a.toInt d.toInt := Nat.pos_of_ne_zero (fun z => by
    have := (Int.gcd_eq_zero_iff.mp z).2
    omega)
  have g1 : 0 ≤ lg_cmp g' 1 := lgc_ge.mpr (by omega)
  have gz : ¬ g' = 0 := fun z => by
    have : g'.toInt = 0 := by rw [z]; decide
    omega
  have hix : inb x 8 = true := by
    simp only [inb, Bool.and_eq_true, decide_eq_true_eq]
    refine ⟨le' h1, ?_⟩
    have a1 := Int32.lt_iff_toInt_lt.mp h2
    have a2 := Int32.le_iff_toInt_le.mp (le' h1)
    have b0 : (8 : Int32).toInt = 8 := by decide
    have bz : (0 : Int32).toInt = 0 := by decide
    show x.toInt.toNat < 8
    omega
  have hx8 : x.toNatClampNeg < 8 := by
    simp only [inb, Bool.and_eq_true, decide_eq_true_eq] at hix
    exact hix.2
  have o1 : g64 oReckoner0 0 x.toNatClampNeg = 0 := rfl
  have o2 := oR_1 hx8
  have o3 : g64 oMod0 15 x.toNatClampNeg = 0 := rfl
  have o4 := oM_16 hx8
  have z0 : ∀ {u v : Int64}, lg_cmp u v = 0 ↔ lg_cmp v u = 0 := fun {u v} => ⟨fun z => lgc_eq.mpr (lgc_eq.mp z).symm, fun z => lgc_eq.mpr (lgc_eq.mp z).symm⟩
  have ms : F_Mod_set x a d oMod0 = F_Mod_set_52 x a d 0 oMod0 := by
    rw [F_Mod_set, if_neg h1, if_pos (lt8 h2), if_neg h3, if_neg h4, if_neg h5, if_pos h6]
  have ms2 : F_Mod_set_52 x a d 0 oMod0 = if lg_cmp (a / g') 0 = 0 then (if lg_cmp (d / g') 1 = 0 then some (false, s32 oMod0 0 0 0) else F_Mod_set_111 x (a / g') (d / g') (s32 oMod0 0 0 0)) else F_Mod_set_111 x (a / g') (d / g') (s32 oMod0 0 0 0) := by
    rw [F_Mod_set_52, if_pos (by decide), hg', bind1_s, show decide (¬ g' = 0) = true from decide_eq_true gz, chk_tr, hix, chk_tr, o3, o4]
  have m111 : ∀ u v : Int64, ∃ m, F_Mod_set_111 x u v (s32 oMod0 0 0 0) = some (true, m) ∧ g32 m 0 0 = 0 := fun u v => by
    refine ⟨_, by rw [F_Mod_set_111, hix, chk_tr]; rfl, rfl⟩
  have cs : ∃ n2, F_Reckoner_changeOption x a d oReckoner0 = some (if lg_cmp (a / g') 0 = 0 then (if lg_cmp (d / g') 1 = 0 then false else true) else true, n2) := by
    rw [F_Reckoner_changeOption, hg, bind1_s, if_pos g1, show decide (¬ g' = 0) = true from decide_eq_true gz, chk_tr, hix, chk_tr, o1, o2]
    by_cases q1 : lg_cmp (a / g') 0 = 0
    · rw [if_pos q1, if_pos (z0.mp q1)]
      by_cases q2 : lg_cmp (d / g') 1 = 0
      · rw [if_pos q2, if_pos (z0.mp q2)]; exact ⟨_, rfl⟩
      · rw [if_neg q2, if_neg (fun z => q2 (z0.mp z)), F_Reckoner_changeOption_54, hix]; exact ⟨_, rfl⟩
    · rw [if_neg q1, if_neg (fun z => q1 (z0.mp z)), F_Reckoner_changeOption_54, hix]; exact ⟨_, rfl⟩
  obtain ⟨n2, cs⟩ := cs
  generalize hB : (if lg_cmp (a / g') 0 = 0 then (if lg_cmp (d / g') 1 = 0 then false else true) else true) = B at cs
  have hmod : ∃ m, F_Mod_set x a d oMod0 = some (B, m) ∧ g32 m 0 0 = 0 := by
    rw [ms, ms2]
    by_cases q1 : lg_cmp (a / g') 0 = 0
    · rw [if_pos q1] at hB ⊢
      by_cases q2 : lg_cmp (d / g') 1 = 0
      · rw [if_pos q2] at hB ⊢; exact ⟨_, by rw [← hB], rfl⟩
      · rw [if_neg q2] at hB ⊢; rw [← hB]; exact m111 _ _
    · rw [if_neg q1] at hB ⊢; rw [← hB]; exact m111 _ _
  obtain ⟨m, hm1, hm2⟩ := hmod
  have hcls : F_PF_set x a d ob0 ob0 oReckoner0 ob0 ob0 = some (0, B, ob0, ob0, n2) := by
    rw [F_PF_set, e1, bind2_s, if_pos rfl, if_neg h3, if_neg h4, if_neg h5, if_pos h6, cs, bind2_s]
    cases B <;> rfl
  refine ⟨0, ob0, ob0, n2, s64 ob0 0 (Int32.toNatClampNeg (0 : Int32)) (bif B then 1 else 0), B, m, ?_, hm1, hm2, fun _ => ?_⟩
  · rw [F_Law_set, hcls]
    cases B <;> rfl
  · cases B <;> rfl
theorem p1_218 (hk : kAll k) : F_Law_law_218 6 xs k 0 ob0 ob0 ob0 ob0 ob0 ob0 oReckoner0 ob0 ob0 ob0 ob0 ob0 ob0 oMod0 ob0 = some () := by
  rw [F_Law_law_218]
  generalize ((lshl (Int32.toInt64 (xs (Int32.toNatClampNeg (0 + (2 : Int32))))) (32 : Int32)) ||| ((Int32.toInt64 (xs (Int32.toNatClampNeg (0 + (3 : Int32))))) &&& (4294967295 : Int64))) = a
  generalize ((lshl (Int32.toInt64 (xs (Int32.toNatClampNeg (0 + (4 : Int32))))) (32 : Int32)) ||| ((Int32.toInt64 (xs (Int32.toNatClampNeg (0 + (5 : Int32))))) &&& (4294967295 : Int64))) = d
  obtain ⟨c, n0, n1, n2, n5, b, m, e1, e2, e3, e4⟩ := p1_set (xs (Int32.toNatClampNeg (0 + 1))) a d
  simp only [show inb ((0 : Int32) + 1) 6 = true from rfl, show inb ((0 : Int32) + 2) 6 = true from rfl, show inb ((0 : Int32) + 3) 6 = true from rfl, show inb ((0 : Int32) + 4) 6 = true from rfl, show inb ((0 : Int32) + 5) 6 = true from rfl, show inb (0 : Int32) 1 = true from rfl, chk_tr]
  rw [e1, bind5_s, e2, bind2_s, F_Mod_thrown, bind1_s, if_pos e3]
  by_cases hc : c = 0
  · have e5 := e4 hc
    rw [if_pos hc]
    have e6 : g64 n5 0 (Int32.toNatClampNeg (0 : Int32)) = bif b then 1 else 0 := e5
    rw [e6]
    cases b
    · exact hk _ _ _ _ _ _ _ _ _ _ _ _ _ _ _
    · exact hk _ _ _ _ _ _ _ _ _ _ _ _ _ _ _
  · rw [if_neg hc]
    exact hk _ _ _ _ _ _ _ _ _ _ _ _ _ _ _
end P1
theorem ite_both {c : Prop} [Decidable c] {x y : Option Unit} (h1 : x = some ()) (h2 : y = some ()) : (if c then x else y) = some () := by
  by_cases h : c
  · rw [if_pos h]; exact h1
  · rw [if_neg h]; exact h2
theorem p1_end (xs : Nat → Int32) (n : Nat) : kAll (F_Law_law_23 6 xs (n + 1)) := by
  intro o0 o1 o2 o3 o4 o5 o6 o7 o8 o9 o10 o11 o12 o13 o14
  rw [F_Law_law_23, if_pos (by decide)]
theorem p1_pure (L : Nat) (hL : L ≤ 6) (xs : Nat → Int32) : F_Law_law_23 L xs 520 0 ob0 ob0 ob0 ob0 ob0 ob0 oReckoner0 ob0 ob0 ob0 ob0 ob0 ob0 oMod0 ob0 = some () := by
  by_cases h6 : L = 6
  · subst h6
    have hk := p1_end xs 518
    rw [F_Law_law_23, if_neg (by decide), show inb (0 : Int32) 6 = true from rfl, chk_tr]
    refine ite_both (p1_124 hk) (ite_both (p1_149 hk) (ite_both (p1_162 hk) (ite_both (p1_218 hk) (ite_both (p1_369 hk) (ite_both (p1_413 hk) (ite_both (p1_481 hk) (ite_both (p1_560 hk) (ite_both (p1_616 hk) (ite_both (p1_684 hk) (ite_both (p1_752 hk) (ite_both (p1_827 hk) (ite_both (p1_895 hk) (ite_both (p1_951 hk) (ite_both (p1_995 hk) (ite_both (p1_1063 hk) (ite_both (p1_1114 hk) (hk _ _ _ _ _ _ _ _ _ _ _ _ _ _ _)))))))))))))))))
  · rw [F_Law_law_23, if_pos]
    rcases L with _ | _ | _ | _ | _ | _ | L <;> first | decide | omega
