/-! THE LAW: every call of a script, from what holds of both sides -/
def OA (o n : Ob) : Prop := ∀ j : Nat, j < 8 → g64 o 0 j = g64 n 15 j ∧ g64 o 1 j = g64 n 16 j
theorem OA.k {o6 o13 n m : Ob} (h : OA o6 o13) (k : KO o6 n) (s : SO o13 m) : OA n m := fun j hj => ⟨(k j).1.trans ((h j hj).1.trans (s j).1.symm), (k j).2.trans ((h j hj).2.trans (s j).2.symm)⟩
theorem set_key {X : Int32} {A B : Int64} {o6 o13 n2 n5 m : Ob} {v55 : Int32} {v66 : Bool} (hO : OA o6 o13) (hc : SC X A B o6 n2 n5 v55) (hsb : SB X A B o13 m v66) : OA n2 m ∧ g32 m 0 0 = v55 ∧ (v55 = 0 → g64 n5 0 0 = (bif v66 then 1 else 0)) := by
  have z0 : (0 : Int32).toInt = 0 := rfl
  rcases hc with ⟨a1, a2, a3⟩ | ⟨a1, a2, a3, a4⟩ | ⟨a1, a2, a3, g, hg, hw, ho⟩
  · rcases hsb with ⟨b1, b2, b3⟩ | ⟨b1, b2, b3, b4⟩ | ⟨b1, b2, b3, g', hg', hr, hb⟩
    · exact ⟨OA.k hO a3 b3, Int32.toInt_inj.mp (b2.trans a2.symm), fun z => by rw [z] at a2; omega⟩
    · exact absurd b1 a1
    · exact absurd b1 a1
  · rcases hsb with ⟨b1, b2, b3⟩ | ⟨b1, b2, b3, b4⟩ | ⟨b1, b2, b3, g', hg', hr, hb⟩
    · exact absurd a1 b1
    · exact ⟨OA.k hO a4 b4, Int32.toInt_inj.mp (b3.trans a3.symm), fun z => by rw [z] at a3; omega⟩
    · exact absurd b2 a2
  · rcases hsb with ⟨b1, b2, b3⟩ | ⟨b1, b2, b3, b4⟩ | ⟨b1, b2, b3, g', hg', hr, hb⟩
    · exact absurd a1 b1
    · exact absurd a2 b2
    · have eg : g = g' := Int64.toInt_inj.mp (hg.trans hg'.symm)
      subst eg
      have hi := hO (Int32.toNatClampNeg X) (by have := clampI a1.1; omega)
      refine ⟨fun j hj => ?_, Int32.toInt_inj.mp (b3.trans a3.symm), fun _ => ?_⟩
      · rw [(ho j).1, (ho j).2, (hb j).1, (hb j).2]
        by_cases c : j = Int32.toNatClampNeg X
        · rw [if_pos c, if_pos c, if_pos c, if_pos c]; exact ⟨rfl, rfl⟩
        · rw [if_neg c, if_neg c, if_neg c, if_neg c]; exact hO j hj
      · rw [hw, hr, hi.1, hi.2]
def IV (o0 o1 o2 o3 o4 o5 o6 o13 : Ob) : Prop := okPF o0 ∧ okReader o1 ∧ okText o2 ∧ okSteps o3 ∧ okText o4 ∧ OC o4 ∧ okSteps o5 ∧ okReckoner o6 ∧ okM o13 ∧ OA o6 o13
theorem six {L : Nat} {x4 : Int32} (hL : L ≤ 3072) (h4 : 0 ≤ x4.toInt) (h4b : x4.toInt + 6 ≤ (L : Int)) : (inb (x4 + (1 : Int32)) L) = true ∧ (inb (x4 + (2 : Int32)) L) = true ∧ (inb (x4 + (3 : Int32)) L) = true ∧ (inb (x4 + (4 : Int32)) L) = true ∧ (inb (x4 + (5 : Int32)) L) = true ∧ (x4 + (6 : Int32)).toInt = x4.toInt + 6 := by
  have z1 : (1 : Int32).toInt = 1 := rfl
  have z2 : (2 : Int32).toInt = 2 := rfl
  have z3 : (3 : Int32).toInt = 3 := rfl
  have z4 : (4 : Int32).toInt = 4 := rfl
  have z5 : (5 : Int32).toInt = 5 := rfl
  have z6 : (6 : Int32).toInt = 6 := rfl
  have e : ∀ k : Int32, 0 ≤ k.toInt → k.toInt ≤ 6 → (x4 + k).toInt = x4.toInt + k.toInt := fun k a b => tadd (by omega) (by omega)
  have i : ∀ k : Int32, 0 ≤ k.toInt → k.toInt ≤ 5 → (inb (x4 + k) L) = true := fun k a b => inb_iff.mpr ⟨by rw [e k a (by omega)]; omega, by rw [e k a (by omega)]; omega⟩
  exact ⟨i 1 (by omega) (by omega), i 2 (by omega) (by omega), i 3 (by omega) (by omega), i 4 (by omega) (by omega), i 5 (by omega) (by omega), by rw [e 6 (by omega) (by omega), z6]⟩
theorem t_PF_read (o0 o1 o2 o3 : Ob) (g0 : okPF o0) (g1 : okReader o1) (g2 : okText o2) (g3 : okSteps o3) : ∃ (r : Int32) (n0 n1 n2 n3 : Ob), F_PF_read o0 o1 o2 o3 = some (r, n0, n1, n2, n3) ∧ okPF n0 ∧ okReader n1 ∧ okText n2 ∧ okSteps n3 ∧ (r.toInt < 0 ∨ OC n2) ∧ (g32 n1 2 0).toInt = 0 := by
  obtain ⟨r, n1, n2, n3, e, p1, p2, p3, p4, p5⟩ := t_Reader_readCollected o1 o2 o3 g1 g2 g3
  rw [F_PF_read, e, bind4_s]
  refine ⟨r, _, n1, n2, n3, rfl, ?_, p1, p2, p3, p4, p5⟩
  split
  · exact g0
  · exact g0

set_option maxHeartbeats 1000000 in
theorem lw_unit (L : Nat) (xs : Nat → Int32) (k23 : Int32 → Ob → Ob → Ob → Ob → Ob → Ob → Ob → Ob → Ob → Ob → Ob → Ob → Ob → Ob → Ob → Option Unit) (x4 : Int32) (hL : L ≤ 3072) (h4 : 0 ≤ x4.toInt) (h4b : x4.toInt + 6 ≤ L) (hk : ∀ (x : Int32) (o0 o1 o2 o3 o4 o5 o6 o7 o8 o9 o10 o11 o12 o13 o14 : Ob), IV o0 o1 o2 o3 o4 o5 o6 o13 → x.toInt = x4.toInt + 6 → k23 x o0 o1 o2 o3 o4 o5 o6 o7 o8 o9 o10 o11 o12 o13 o14 = some ()) (o0 o1 o2 o3 o4 o5 o6 o7 o8 o9 o10 o11 o12 o13 o14 : Ob) (hI : IV o0 o1 o2 o3 o4 o5 o6 o13) : F_Law_law_124 L xs k23 x4 o0 o1 o2 o3 o4 o5 o6 o7 o8 o9 o10 o11 o12 o13 o14 = some () := by
  obtain ⟨hi1, hi2, hi3, hi4, hi5, esix⟩ := six hL h4 h4b
  obtain ⟨i0, i1, i2, i3, i4, i4o, i5, i6, i13, hlen⟩ := hI
  rw [F_Law_law_124]
  rw [hi1, chk_tr]
  obtain ⟨v22, o_23, ee1, hr1, hu1, hl1⟩ := t_PF_unit (xs (Int32.toNatClampNeg (x4 + (1 : Int32)))) o0 o1 (by assumption) (by assumption)
  rw [ee1, bind2_s]
  obtain ⟨v26, o_27, ee2, hm, hso, hu2, hl2⟩ := m_unit (xs (Int32.toNatClampNeg (x4 + (1 : Int32)))) o13 (by assumption)
  rw [ee2, bind2_s]
  exact hk _ o0 o_23 o2 o3 o4 o5 o6 o7 o8 o9 o10 o11 o12 o_27 o14 ⟨(by assumption), (by assumption), (by assumption), (by assumption), (by assumption), (by assumption), (by assumption), (by assumption), (by assumption), OA.k hlen (by first | assumption | exact KO.refl) (by assumption)⟩ esix
set_option maxHeartbeats 1000000 in
theorem lw_read (L : Nat) (xs : Nat → Int32) (k23 : Int32 → Ob → Ob → Ob → Ob → Ob → Ob → Ob → Ob → Ob → Ob → Ob → Ob → Ob → Ob → Ob → Option Unit) (x4 : Int32) (hL : L ≤ 3072) (h4 : 0 ≤ x4.toInt) (h4b : x4.toInt + 6 ≤ L) (hk : ∀ (x : Int32) (o0 o1 o2 o3 o4 o5 o6 o7 o8 o9 o10 o11 o12 o13 o14 : Ob), IV o0 o1 o2 o3 o4 o5 o6 o13 → x.toInt = x4.toInt + 6 → k23 x o0 o1 o2 o3 o4 o5 o6 o7 o8 o9 o10 o11 o12 o13 o14 = some ()) (o0 o1 o2 o3 o4 o5 o6 o7 o8 o9 o10 o11 o12 o13 o14 : Ob) (hI : IV o0 o1 o2 o3 o4 o5 o6 o13) : F_Law_law_149 L xs k23 x4 o0 o1 o2 o3 o4 o5 o6 o7 o8 o9 o10 o11 o12 o13 o14 = some () := by
  obtain ⟨hi1, hi2, hi3, hi4, hi5, esix⟩ := six hL h4 h4b
  obtain ⟨i0, i1, i2, i3, i4, i4o, i5, i6, i13, hlen⟩ := hI
  rw [F_Law_law_149]
  obtain ⟨v28, o_29, o_30, o_31, o_32, ee3, hr0, hr1, hr2, hr3, hoc, hl1⟩ := t_PF_read o0 o1 o2 o3 (by assumption) (by assumption) (by assumption) (by assumption)
  rw [ee3, bind5_s]
  by_cases c4 : v28 < 0
  · rw [if_pos c4]
    obtain ⟨v36, o_37, ee5, hm6, so7, hl8⟩ := m_readM o13 (by assumption)
    rw [ee5, bind2_s]
    exact hk _ o_29 o_30 o_31 o_32 o4 o5 o6 o7 o8 o9 o10 o11 o12 o_37 o14 ⟨(by assumption), (by assumption), (by assumption), (by assumption), (by assumption), (by assumption), (by assumption), (by assumption), (by assumption), OA.k hlen (by first | assumption | exact KO.refl) (by assumption)⟩ esix
  · rw [if_neg c4]
    have c4 : ¬ v28.toInt < 0 := fun z => c4 (Int32.lt_iff_toInt_lt.mpr z)
    have oc9 := hoc.resolve_left c4
    obtain ⟨v39, o_40, ee10, hm11, so12, hl13⟩ := m_readM o13 (by assumption)
    rw [ee10, bind2_s]
    exact hk _ o_29 o_30 o4 o5 o_31 o_32 o6 o7 o8 o9 o10 o11 o12 o_40 o14 ⟨(by assumption), (by assumption), (by assumption), (by assumption), (by assumption), (by assumption), (by assumption), (by assumption), (by assumption), OA.k hlen (by first | assumption | exact KO.refl) (by assumption)⟩ esix
set_option maxHeartbeats 1000000 in
theorem lw_write (L : Nat) (xs : Nat → Int32) (k23 : Int32 → Ob → Ob → Ob → Ob → Ob → Ob → Ob → Ob → Ob → Ob → Ob → Ob → Ob → Ob → Ob → Option Unit) (x4 : Int32) (hL : L ≤ 3072) (h4 : 0 ≤ x4.toInt) (h4b : x4.toInt + 6 ≤ L) (hk : ∀ (x : Int32) (o0 o1 o2 o3 o4 o5 o6 o7 o8 o9 o10 o11 o12 o13 o14 : Ob), IV o0 o1 o2 o3 o4 o5 o6 o13 → x.toInt = x4.toInt + 6 → k23 x o0 o1 o2 o3 o4 o5 o6 o7 o8 o9 o10 o11 o12 o13 o14 = some ()) (o0 o1 o2 o3 o4 o5 o6 o7 o8 o9 o10 o11 o12 o13 o14 : Ob) (hI : IV o0 o1 o2 o3 o4 o5 o6 o13) : F_Law_law_162 L xs k23 x4 o0 o1 o2 o3 o4 o5 o6 o7 o8 o9 o10 o11 o12 o13 o14 = some () := by
  obtain ⟨hi1, hi2, hi3, hi4, hi5, esix⟩ := six hL h4 h4b
  obtain ⟨i0, i1, i2, i3, i4, i4o, i5, i6, i13, hlen⟩ := hI
  rw [F_Law_law_162]
  rw [hi1, chk_tr]
  obtain ⟨v43, o_44, ee14, p15⟩ := t_Law_write (xs (Int32.toNatClampNeg (x4 + (1 : Int32)))) o0 o4 o14 (by assumption) (by assumption)
  rw [ee14, bind2_s]
  obtain ⟨v47, o_48, ee16, md17⟩ := m_write (xs (Int32.toNatClampNeg (x4 + (1 : Int32)))) o13 (by assumption)
  rw [ee16, bind2_s]
  obtain ⟨hm19, hl18, so20⟩ := md17
  have ql21 := congrArg Int32.toInt hl18
  exact hk _ o0 o1 o2 o3 o4 o5 o6 o7 o8 o9 o10 o11 o12 o_48 o_44 ⟨(by assumption), (by assumption), (by assumption), (by assumption), (by assumption), (by assumption), (by assumption), (by assumption), (by assumption), OA.k hlen (by first | assumption | exact KO.refl) (by assumption)⟩ esix
set_option maxHeartbeats 1000000 in
theorem lw_set (L : Nat) (xs : Nat → Int32) (k23 : Int32 → Ob → Ob → Ob → Ob → Ob → Ob → Ob → Ob → Ob → Ob → Ob → Ob → Ob → Ob → Ob → Option Unit) (x4 : Int32) (hL : L ≤ 3072) (h4 : 0 ≤ x4.toInt) (h4b : x4.toInt + 6 ≤ L) (hk : ∀ (x : Int32) (o0 o1 o2 o3 o4 o5 o6 o7 o8 o9 o10 o11 o12 o13 o14 : Ob), IV o0 o1 o2 o3 o4 o5 o6 o13 → x.toInt = x4.toInt + 6 → k23 x o0 o1 o2 o3 o4 o5 o6 o7 o8 o9 o10 o11 o12 o13 o14 = some ()) (o0 o1 o2 o3 o4 o5 o6 o7 o8 o9 o10 o11 o12 o13 o14 : Ob) (hI : IV o0 o1 o2 o3 o4 o5 o6 o13) : F_Law_law_190 L xs k23 x4 o0 o1 o2 o3 o4 o5 o6 o7 o8 o9 o10 o11 o12 o13 o14 = some () := by
  obtain ⟨hi1, hi2, hi3, hi4, hi5, esix⟩ := six hL h4 h4b
  obtain ⟨i0, i1, i2, i3, i4, i4o, i5, i6, i13, hlen⟩ := hI
  rw [F_Law_law_190, hi1, chk_tr, hi2, chk_tr, hi3, chk_tr, hi4, chk_tr, hi5, chk_tr]
  obtain ⟨v55, n0, n1, n2, n5, e, p1, p2, hc⟩ := t_Law_set (xs (Int32.toNatClampNeg (x4 + (1 : Int32)))) ((lshl (Int32.toInt64 (xs (Int32.toNatClampNeg (x4 + (2 : Int32))))) (32 : Int32)) ||| ((Int32.toInt64 (xs (Int32.toNatClampNeg (x4 + (3 : Int32))))) &&& (4294967295 : Int64))) ((lshl (Int32.toInt64 (xs (Int32.toNatClampNeg (x4 + (4 : Int32))))) (32 : Int32)) ||| ((Int32.toInt64 (xs (Int32.toNatClampNeg (x4 + (5 : Int32))))) &&& (4294967295 : Int64))) o0 o7 o6 o4 o5 o14 i0 i6 i4 i5 i4o
  rw [e, bind5_s]
  obtain ⟨v66, m, e2, hm, hl2, hsb⟩ := m_set (xs (Int32.toNatClampNeg (x4 + (1 : Int32)))) ((lshl (Int32.toInt64 (xs (Int32.toNatClampNeg (x4 + (2 : Int32))))) (32 : Int32)) ||| ((Int32.toInt64 (xs (Int32.toNatClampNeg (x4 + (3 : Int32))))) &&& (4294967295 : Int64))) ((lshl (Int32.toInt64 (xs (Int32.toNatClampNeg (x4 + (4 : Int32))))) (32 : Int32)) ||| ((Int32.toInt64 (xs (Int32.toNatClampNeg (x4 + (5 : Int32))))) &&& (4294967295 : Int64))) o13 i13
  rw [e2, bind2_s, F_Mod_thrown, bind1_s]
  have key := set_key hlen hc hsb
  rw [if_pos key.2.1]
  by_cases c : v55 = 0
  · rw [if_pos c, show (inb (0 : Int32) 1) = true from by decide, chk_tr]
    have k3 := key.2.2 c
    by_cases d : (b2i v66) = 0
    · rw [if_pos d]
      rw [b2i_0.mp d] at k3
      have k4 : g64 n5 0 (Int32.toNatClampNeg (0 : Int32)) = 0 := k3
      rw [if_pos (lgc_eq.mpr k4)]
      exact hk _ n0 o1 o2 o3 o4 o5 n2 n1 o8 o9 o10 o11 o12 m n5 ⟨p1, i1, i2, i3, i4, i4o, i5, p2, hm, key.1⟩ esix
    · rw [if_neg d]
      rw [b2i_1 d] at k3
      have k4 : g64 n5 0 (Int32.toNatClampNeg (0 : Int32)) = 1 := k3
      rw [if_pos (lgc_eq.mpr k4)]
      exact hk _ n0 o1 o2 o3 o4 o5 n2 n1 o8 o9 o10 o11 o12 m n5 ⟨p1, i1, i2, i3, i4, i4o, i5, p2, hm, key.1⟩ esix
  · rw [if_neg c]
    exact hk _ n0 o1 o2 o3 o4 o5 n2 n1 o8 o9 o10 o11 o12 m n5 ⟨p1, i1, i2, i3, i4, i4o, i5, p2, hm, key.1⟩ esix
set_option maxHeartbeats 1000000 in
theorem lw_run (L : Nat) (xs : Nat → Int32) (k23 : Int32 → Ob → Ob → Ob → Ob → Ob → Ob → Ob → Ob → Ob → Ob → Ob → Ob → Ob → Ob → Ob → Option Unit) (x4 : Int32) (hL : L ≤ 3072) (h4 : 0 ≤ x4.toInt) (h4b : x4.toInt + 6 ≤ L) (hk : ∀ (x : Int32) (o0 o1 o2 o3 o4 o5 o6 o7 o8 o9 o10 o11 o12 o13 o14 : Ob), IV o0 o1 o2 o3 o4 o5 o6 o13 → x.toInt = x4.toInt + 6 → k23 x o0 o1 o2 o3 o4 o5 o6 o7 o8 o9 o10 o11 o12 o13 o14 = some ()) (o0 o1 o2 o3 o4 o5 o6 o7 o8 o9 o10 o11 o12 o13 o14 : Ob) (hI : IV o0 o1 o2 o3 o4 o5 o6 o13) : F_Law_law_341 L xs k23 x4 o0 o1 o2 o3 o4 o5 o6 o7 o8 o9 o10 o11 o12 o13 o14 = some () := by
  obtain ⟨hi1, hi2, hi3, hi4, hi5, esix⟩ := six hL h4 h4b
  obtain ⟨i0, i1, i2, i3, i4, i4o, i5, i6, i13, hlen⟩ := hI
  rw [F_Law_law_341]
  obtain ⟨v77, o_78, o_79, o_80, o_81, ee22, p23, p24, p25⟩ := t_Law_run o0 o7 o6 o4 o5 o14 (by assumption) (by assumption) (by assumption) (by assumption) (by assumption)
  rw [ee22, bind5_s]
  obtain ⟨v83, o_84, ee26, md27⟩ := m_run o13 (by assumption)
  rw [ee26, bind2_s]
  obtain ⟨hm29, hl28, so30⟩ := md27
  have ql31 := congrArg Int32.toInt hl28
  exact hk _ o_78 o1 o2 o3 o4 o5 o_80 o_79 o8 o9 o10 o11 o12 o_84 o_81 ⟨(by assumption), (by assumption), (by assumption), (by assumption), (by assumption), (by assumption), (by assumption), (by assumption), (by assumption), OA.k hlen (by first | assumption | exact KO.refl) (by assumption)⟩ esix
set_option maxHeartbeats 1000000 in
theorem lw_state (L : Nat) (xs : Nat → Int32) (k23 : Int32 → Ob → Ob → Ob → Ob → Ob → Ob → Ob → Ob → Ob → Ob → Ob → Ob → Ob → Ob → Ob → Option Unit) (x4 : Int32) (hL : L ≤ 3072) (h4 : 0 ≤ x4.toInt) (h4b : x4.toInt + 6 ≤ L) (hk : ∀ (x : Int32) (o0 o1 o2 o3 o4 o5 o6 o7 o8 o9 o10 o11 o12 o13 o14 : Ob), IV o0 o1 o2 o3 o4 o5 o6 o13 → x.toInt = x4.toInt + 6 → k23 x o0 o1 o2 o3 o4 o5 o6 o7 o8 o9 o10 o11 o12 o13 o14 = some ()) (o0 o1 o2 o3 o4 o5 o6 o7 o8 o9 o10 o11 o12 o13 o14 : Ob) (hI : IV o0 o1 o2 o3 o4 o5 o6 o13) : F_Law_law_357 L xs k23 x4 o0 o1 o2 o3 o4 o5 o6 o7 o8 o9 o10 o11 o12 o13 o14 = some () := by
  obtain ⟨hi1, hi2, hi3, hi4, hi5, esix⟩ := six hL h4 h4b
  obtain ⟨i0, i1, i2, i3, i4, i4o, i5, i6, i13, hlen⟩ := hI
  rw [F_Law_law_357]
  rw [hi1, chk_tr]
  rw [hi2, chk_tr]
  obtain ⟨v88, o_89, ee32, p33⟩ := t_Law_state (xs (Int32.toNatClampNeg (x4 + (1 : Int32)))) (xs (Int32.toNatClampNeg (x4 + (2 : Int32)))) o0 o7 o14 (by assumption)
  rw [ee32, bind2_s]
  obtain ⟨v93, o_94, ee34, md35⟩ := m_state (xs (Int32.toNatClampNeg (x4 + (1 : Int32)))) (xs (Int32.toNatClampNeg (x4 + (2 : Int32)))) o13 (by assumption)
  rw [ee34, bind2_s]
  obtain ⟨hm37, hl36, so38⟩ := md35
  have ql39 := congrArg Int32.toInt hl36
  exact hk _ o0 o1 o2 o3 o4 o5 o6 o7 o8 o9 o10 o11 o12 o_94 o_89 ⟨(by assumption), (by assumption), (by assumption), (by assumption), (by assumption), (by assumption), (by assumption), (by assumption), (by assumption), OA.k hlen (by first | assumption | exact KO.refl) (by assumption)⟩ esix
set_option maxHeartbeats 1000000 in
theorem lw_size (L : Nat) (xs : Nat → Int32) (k23 : Int32 → Ob → Ob → Ob → Ob → Ob → Ob → Ob → Ob → Ob → Ob → Ob → Ob → Ob → Ob → Ob → Option Unit) (x4 : Int32) (hL : L ≤ 3072) (h4 : 0 ≤ x4.toInt) (h4b : x4.toInt + 6 ≤ L) (hk : ∀ (x : Int32) (o0 o1 o2 o3 o4 o5 o6 o7 o8 o9 o10 o11 o12 o13 o14 : Ob), IV o0 o1 o2 o3 o4 o5 o6 o13 → x.toInt = x4.toInt + 6 → k23 x o0 o1 o2 o3 o4 o5 o6 o7 o8 o9 o10 o11 o12 o13 o14 = some ()) (o0 o1 o2 o3 o4 o5 o6 o7 o8 o9 o10 o11 o12 o13 o14 : Ob) (hI : IV o0 o1 o2 o3 o4 o5 o6 o13) : F_Law_law_397 L xs k23 x4 o0 o1 o2 o3 o4 o5 o6 o7 o8 o9 o10 o11 o12 o13 o14 = some () := by
  obtain ⟨hi1, hi2, hi3, hi4, hi5, esix⟩ := six hL h4 h4b
  obtain ⟨i0, i1, i2, i3, i4, i4o, i5, i6, i13, hlen⟩ := hI
  rw [F_Law_law_397]
  rw [hi1, chk_tr]
  rw [hi2, chk_tr]
  rw [hi3, chk_tr]
  obtain ⟨v99, o_100, ee40, p41⟩ := t_Law_size (xs (Int32.toNatClampNeg (x4 + (1 : Int32)))) (xs (Int32.toNatClampNeg (x4 + (2 : Int32)))) (xs (Int32.toNatClampNeg (x4 + (3 : Int32)))) o0 o7 o14 (by assumption)
  rw [ee40, bind2_s]
  obtain ⟨v105, o_106, ee42, md43⟩ := m_size (xs (Int32.toNatClampNeg (x4 + (1 : Int32)))) (xs (Int32.toNatClampNeg (x4 + (2 : Int32)))) (xs (Int32.toNatClampNeg (x4 + (3 : Int32)))) o13 (by assumption)
  rw [ee42, bind2_s]
  obtain ⟨hm45, hl44, so46⟩ := md43
  have ql47 := congrArg Int32.toInt hl44
  exact hk _ o0 o1 o2 o3 o4 o5 o6 o7 o8 o9 o10 o11 o12 o_106 o_100 ⟨(by assumption), (by assumption), (by assumption), (by assumption), (by assumption), (by assumption), (by assumption), (by assumption), (by assumption), OA.k hlen (by first | assumption | exact KO.refl) (by assumption)⟩ esix
set_option maxHeartbeats 1000000 in
theorem lw_ring (L : Nat) (xs : Nat → Int32) (k23 : Int32 → Ob → Ob → Ob → Ob → Ob → Ob → Ob → Ob → Ob → Ob → Ob → Ob → Ob → Ob → Ob → Option Unit) (x4 : Int32) (hL : L ≤ 3072) (h4 : 0 ≤ x4.toInt) (h4b : x4.toInt + 6 ≤ L) (hk : ∀ (x : Int32) (o0 o1 o2 o3 o4 o5 o6 o7 o8 o9 o10 o11 o12 o13 o14 : Ob), IV o0 o1 o2 o3 o4 o5 o6 o13 → x.toInt = x4.toInt + 6 → k23 x o0 o1 o2 o3 o4 o5 o6 o7 o8 o9 o10 o11 o12 o13 o14 = some ()) (o0 o1 o2 o3 o4 o5 o6 o7 o8 o9 o10 o11 o12 o13 o14 : Ob) (hI : IV o0 o1 o2 o3 o4 o5 o6 o13) : F_Law_law_449 L xs k23 x4 o0 o1 o2 o3 o4 o5 o6 o7 o8 o9 o10 o11 o12 o13 o14 = some () := by
  obtain ⟨hi1, hi2, hi3, hi4, hi5, esix⟩ := six hL h4 h4b
  obtain ⟨i0, i1, i2, i3, i4, i4o, i5, i6, i13, hlen⟩ := hI
  rw [F_Law_law_449]
  rw [hi1, chk_tr]
  obtain ⟨v109, o_110, ee48, p49⟩ := t_Law_ring (xs (Int32.toNatClampNeg (x4 + (1 : Int32)))) o0 o4 o14 (by assumption) (by assumption)
  rw [ee48, bind2_s]
  obtain ⟨v113, o_114, ee50, md51⟩ := m_ring (xs (Int32.toNatClampNeg (x4 + (1 : Int32)))) o13 (by assumption)
  rw [ee50, bind2_s]
  obtain ⟨hm53, hl52, so54⟩ := md51
  have ql55 := congrArg Int32.toInt hl52
  exact hk _ o0 o1 o2 o3 o4 o5 o6 o7 o8 o9 o10 o11 o12 o_114 o_110 ⟨(by assumption), (by assumption), (by assumption), (by assumption), (by assumption), (by assumption), (by assumption), (by assumption), (by assumption), OA.k hlen (by first | assumption | exact KO.refl) (by assumption)⟩ esix
set_option maxHeartbeats 1000000 in
theorem lw_condition (L : Nat) (xs : Nat → Int32) (k23 : Int32 → Ob → Ob → Ob → Ob → Ob → Ob → Ob → Ob → Ob → Ob → Ob → Ob → Ob → Ob → Ob → Option Unit) (x4 : Int32) (hL : L ≤ 3072) (h4 : 0 ≤ x4.toInt) (h4b : x4.toInt + 6 ≤ L) (hk : ∀ (x : Int32) (o0 o1 o2 o3 o4 o5 o6 o7 o8 o9 o10 o11 o12 o13 o14 : Ob), IV o0 o1 o2 o3 o4 o5 o6 o13 → x.toInt = x4.toInt + 6 → k23 x o0 o1 o2 o3 o4 o5 o6 o7 o8 o9 o10 o11 o12 o13 o14 = some ()) (o0 o1 o2 o3 o4 o5 o6 o7 o8 o9 o10 o11 o12 o13 o14 : Ob) (hI : IV o0 o1 o2 o3 o4 o5 o6 o13) : F_Law_law_477 L xs k23 x4 o0 o1 o2 o3 o4 o5 o6 o7 o8 o9 o10 o11 o12 o13 o14 = some () := by
  obtain ⟨hi1, hi2, hi3, hi4, hi5, esix⟩ := six hL h4 h4b
  obtain ⟨i0, i1, i2, i3, i4, i4o, i5, i6, i13, hlen⟩ := hI
  rw [F_Law_law_477]
  rw [hi1, chk_tr]
  rw [hi2, chk_tr]
  obtain ⟨v118, o_119, ee56, p57⟩ := t_Law_condition (xs (Int32.toNatClampNeg (x4 + (1 : Int32)))) (xs (Int32.toNatClampNeg (x4 + (2 : Int32)))) o0 o7 o14 (by assumption)
  rw [ee56, bind2_s]
  obtain ⟨v123, o_124, ee58, md59⟩ := m_condition (xs (Int32.toNatClampNeg (x4 + (1 : Int32)))) (xs (Int32.toNatClampNeg (x4 + (2 : Int32)))) o13 (by assumption)
  rw [ee58, bind2_s]
  obtain ⟨hm61, hl60, so62⟩ := md59
  have ql63 := congrArg Int32.toInt hl60
  exact hk _ o0 o1 o2 o3 o4 o5 o6 o7 o8 o9 o10 o11 o12 o_124 o_119 ⟨(by assumption), (by assumption), (by assumption), (by assumption), (by assumption), (by assumption), (by assumption), (by assumption), (by assumption), OA.k hlen (by first | assumption | exact KO.refl) (by assumption)⟩ esix
set_option maxHeartbeats 1000000 in
theorem lw_line (L : Nat) (xs : Nat → Int32) (k23 : Int32 → Ob → Ob → Ob → Ob → Ob → Ob → Ob → Ob → Ob → Ob → Ob → Ob → Ob → Ob → Ob → Option Unit) (x4 : Int32) (hL : L ≤ 3072) (h4 : 0 ≤ x4.toInt) (h4b : x4.toInt + 6 ≤ L) (hk : ∀ (x : Int32) (o0 o1 o2 o3 o4 o5 o6 o7 o8 o9 o10 o11 o12 o13 o14 : Ob), IV o0 o1 o2 o3 o4 o5 o6 o13 → x.toInt = x4.toInt + 6 → k23 x o0 o1 o2 o3 o4 o5 o6 o7 o8 o9 o10 o11 o12 o13 o14 = some ()) (o0 o1 o2 o3 o4 o5 o6 o7 o8 o9 o10 o11 o12 o13 o14 : Ob) (hI : IV o0 o1 o2 o3 o4 o5 o6 o13) : F_Law_law_517 L xs k23 x4 o0 o1 o2 o3 o4 o5 o6 o7 o8 o9 o10 o11 o12 o13 o14 = some () := by
  obtain ⟨hi1, hi2, hi3, hi4, hi5, esix⟩ := six hL h4 h4b
  obtain ⟨i0, i1, i2, i3, i4, i4o, i5, i6, i13, hlen⟩ := hI
  rw [F_Law_law_517]
  rw [hi1, chk_tr]
  rw [hi2, chk_tr]
  obtain ⟨v128, o_129, ee64, p65⟩ := t_Law_line (xs (Int32.toNatClampNeg (x4 + (1 : Int32)))) (xs (Int32.toNatClampNeg (x4 + (2 : Int32)))) o0 o4 o14 (by assumption) (by assumption)
  rw [ee64, bind2_s]
  obtain ⟨v133, o_134, ee66, md67⟩ := m_line (xs (Int32.toNatClampNeg (x4 + (1 : Int32)))) (xs (Int32.toNatClampNeg (x4 + (2 : Int32)))) o13 (by assumption)
  rw [ee66, bind2_s]
  obtain ⟨hm69, hl68, so70⟩ := md67
  have ql71 := congrArg Int32.toInt hl68
  exact hk _ o0 o1 o2 o3 o4 o5 o6 o7 o8 o9 o10 o11 o12 o_134 o_129 ⟨(by assumption), (by assumption), (by assumption), (by assumption), (by assumption), (by assumption), (by assumption), (by assumption), (by assumption), OA.k hlen (by first | assumption | exact KO.refl) (by assumption)⟩ esix
set_option maxHeartbeats 1000000 in
theorem lw_needs (L : Nat) (xs : Nat → Int32) (k23 : Int32 → Ob → Ob → Ob → Ob → Ob → Ob → Ob → Ob → Ob → Ob → Ob → Ob → Ob → Ob → Ob → Option Unit) (x4 : Int32) (hL : L ≤ 3072) (h4 : 0 ≤ x4.toInt) (h4b : x4.toInt + 6 ≤ L) (hk : ∀ (x : Int32) (o0 o1 o2 o3 o4 o5 o6 o7 o8 o9 o10 o11 o12 o13 o14 : Ob), IV o0 o1 o2 o3 o4 o5 o6 o13 → x.toInt = x4.toInt + 6 → k23 x o0 o1 o2 o3 o4 o5 o6 o7 o8 o9 o10 o11 o12 o13 o14 = some ()) (o0 o1 o2 o3 o4 o5 o6 o7 o8 o9 o10 o11 o12 o13 o14 : Ob) (hI : IV o0 o1 o2 o3 o4 o5 o6 o13) : F_Law_law_557 L xs k23 x4 o0 o1 o2 o3 o4 o5 o6 o7 o8 o9 o10 o11 o12 o13 o14 = some () := by
  obtain ⟨hi1, hi2, hi3, hi4, hi5, esix⟩ := six hL h4 h4b
  obtain ⟨i0, i1, i2, i3, i4, i4o, i5, i6, i13, hlen⟩ := hI
  rw [F_Law_law_557]
  rw [hi1, chk_tr]
  rw [hi2, chk_tr]
  obtain ⟨v138, o_139, ee72, p73⟩ := t_Law_needs (xs (Int32.toNatClampNeg (x4 + (1 : Int32)))) (xs (Int32.toNatClampNeg (x4 + (2 : Int32)))) o0 o4 o14 (by assumption) (by assumption)
  rw [ee72, bind2_s]
  obtain ⟨v143, o_144, ee74, md75⟩ := m_needs (xs (Int32.toNatClampNeg (x4 + (1 : Int32)))) (xs (Int32.toNatClampNeg (x4 + (2 : Int32)))) o13 (by assumption)
  rw [ee74, bind2_s]
  obtain ⟨hm77, hl76, so78⟩ := md75
  have ql79 := congrArg Int32.toInt hl76
  exact hk _ o0 o1 o2 o3 o4 o5 o6 o7 o8 o9 o10 o11 o12 o_144 o_139 ⟨(by assumption), (by assumption), (by assumption), (by assumption), (by assumption), (by assumption), (by assumption), (by assumption), (by assumption), OA.k hlen (by first | assumption | exact KO.refl) (by assumption)⟩ esix
set_option maxHeartbeats 1000000 in
theorem lw_limit (L : Nat) (xs : Nat → Int32) (k23 : Int32 → Ob → Ob → Ob → Ob → Ob → Ob → Ob → Ob → Ob → Ob → Ob → Ob → Ob → Ob → Ob → Option Unit) (x4 : Int32) (hL : L ≤ 3072) (h4 : 0 ≤ x4.toInt) (h4b : x4.toInt + 6 ≤ L) (hk : ∀ (x : Int32) (o0 o1 o2 o3 o4 o5 o6 o7 o8 o9 o10 o11 o12 o13 o14 : Ob), IV o0 o1 o2 o3 o4 o5 o6 o13 → x.toInt = x4.toInt + 6 → k23 x o0 o1 o2 o3 o4 o5 o6 o7 o8 o9 o10 o11 o12 o13 o14 = some ()) (o0 o1 o2 o3 o4 o5 o6 o7 o8 o9 o10 o11 o12 o13 o14 : Ob) (hI : IV o0 o1 o2 o3 o4 o5 o6 o13) : F_Law_law_597 L xs k23 x4 o0 o1 o2 o3 o4 o5 o6 o7 o8 o9 o10 o11 o12 o13 o14 = some () := by
  obtain ⟨hi1, hi2, hi3, hi4, hi5, esix⟩ := six hL h4 h4b
  obtain ⟨i0, i1, i2, i3, i4, i4o, i5, i6, i13, hlen⟩ := hI
  rw [F_Law_law_597]
  rw [hi1, chk_tr]
  rw [hi2, chk_tr]
  obtain ⟨v148, o_149, o_150, ee80, p81, p82⟩ := t_Law_limit (xs (Int32.toNatClampNeg (x4 + (1 : Int32)))) (xs (Int32.toNatClampNeg (x4 + (2 : Int32)))) o0 o7 o6 o4 o5 o14 (by assumption) (by assumption) (by assumption) (by assumption)
  rw [ee80, bind3_s]
  obtain ⟨v154, o_155, ee83, md84⟩ := m_limit (xs (Int32.toNatClampNeg (x4 + (1 : Int32)))) (xs (Int32.toNatClampNeg (x4 + (2 : Int32)))) o13 (by assumption)
  rw [ee83, bind2_s]
  obtain ⟨hm86, hl85, so87⟩ := md84
  have ql88 := congrArg Int32.toInt hl85
  exact hk _ o0 o1 o2 o3 o4 o5 o_149 o7 o8 o9 o10 o11 o12 o_155 o_150 ⟨(by assumption), (by assumption), (by assumption), (by assumption), (by assumption), (by assumption), (by assumption), (by assumption), (by assumption), OA.k hlen (by first | assumption | exact KO.refl) (by assumption)⟩ esix
set_option maxHeartbeats 1000000 in
theorem lw_check (L : Nat) (xs : Nat → Int32) (k23 : Int32 → Ob → Ob → Ob → Ob → Ob → Ob → Ob → Ob → Ob → Ob → Ob → Ob → Ob → Ob → Ob → Option Unit) (x4 : Int32) (hL : L ≤ 3072) (h4 : 0 ≤ x4.toInt) (h4b : x4.toInt + 6 ≤ L) (hk : ∀ (x : Int32) (o0 o1 o2 o3 o4 o5 o6 o7 o8 o9 o10 o11 o12 o13 o14 : Ob), IV o0 o1 o2 o3 o4 o5 o6 o13 → x.toInt = x4.toInt + 6 → k23 x o0 o1 o2 o3 o4 o5 o6 o7 o8 o9 o10 o11 o12 o13 o14 = some ()) (o0 o1 o2 o3 o4 o5 o6 o7 o8 o9 o10 o11 o12 o13 o14 : Ob) (hI : IV o0 o1 o2 o3 o4 o5 o6 o13) : F_Law_law_637 L xs k23 x4 o0 o1 o2 o3 o4 o5 o6 o7 o8 o9 o10 o11 o12 o13 o14 = some () := by
  obtain ⟨hi1, hi2, hi3, hi4, hi5, esix⟩ := six hL h4 h4b
  obtain ⟨i0, i1, i2, i3, i4, i4o, i5, i6, i13, hlen⟩ := hI
  rw [F_Law_law_637]
  rw [hi1, chk_tr]
  obtain ⟨v158, o_159, o_160, o_161, ee89, p90, p91⟩ := t_Law_check (xs (Int32.toNatClampNeg (x4 + (1 : Int32)))) o0 o7 o6 o4 o8 o5 o14 (by assumption) (by assumption) (by assumption) (by assumption) (by assumption)
  rw [ee89, bind4_s]
  obtain ⟨v164, o_165, ee92, md93⟩ := m_check (xs (Int32.toNatClampNeg (x4 + (1 : Int32)))) o13 (by assumption)
  rw [ee92, bind2_s]
  obtain ⟨hm95, hl94, so96⟩ := md93
  have ql97 := congrArg Int32.toInt hl94
  exact hk _ o0 o1 o2 o3 o4 o5 o_159 o7 o_160 o9 o10 o11 o12 o_165 o_161 ⟨(by assumption), (by assumption), (by assumption), (by assumption), (by assumption), (by assumption), (by assumption), (by assumption), (by assumption), OA.k hlen (by first | assumption | exact KO.refl) (by assumption)⟩ esix
set_option maxHeartbeats 1000000 in
theorem lw_version (L : Nat) (xs : Nat → Int32) (k23 : Int32 → Ob → Ob → Ob → Ob → Ob → Ob → Ob → Ob → Ob → Ob → Ob → Ob → Ob → Ob → Ob → Option Unit) (x4 : Int32) (hL : L ≤ 3072) (h4 : 0 ≤ x4.toInt) (h4b : x4.toInt + 6 ≤ L) (hk : ∀ (x : Int32) (o0 o1 o2 o3 o4 o5 o6 o7 o8 o9 o10 o11 o12 o13 o14 : Ob), IV o0 o1 o2 o3 o4 o5 o6 o13 → x.toInt = x4.toInt + 6 → k23 x o0 o1 o2 o3 o4 o5 o6 o7 o8 o9 o10 o11 o12 o13 o14 = some ()) (o0 o1 o2 o3 o4 o5 o6 o7 o8 o9 o10 o11 o12 o13 o14 : Ob) (hI : IV o0 o1 o2 o3 o4 o5 o6 o13) : F_Law_law_665 L xs k23 x4 o0 o1 o2 o3 o4 o5 o6 o7 o8 o9 o10 o11 o12 o13 o14 = some () := by
  obtain ⟨hi1, hi2, hi3, hi4, hi5, esix⟩ := six hL h4 h4b
  obtain ⟨i0, i1, i2, i3, i4, i4o, i5, i6, i13, hlen⟩ := hI
  rw [F_Law_law_665]
  by_cases c98 : (g32 o0 8 0) = 0
  · rw [if_pos c98]
    obtain ⟨v168, o_169, o_170, o_171, ee99, p100⟩ := t_Law_version o0 o7 o9 o14 (by assumption)
    rw [ee99, bind4_s]
    obtain ⟨v173, o_174, ee101, md102⟩ := m_version o13 (by assumption)
    rw [ee101, bind2_s]
    obtain ⟨hm104, hl103, so105⟩ := md102
    have ql106 := congrArg Int32.toInt hl103
    exact hk _ o_169 o1 o2 o3 o4 o5 o6 o7 o8 o_170 o10 o11 o12 o_174 o_171 ⟨(by assumption), (by assumption), (by assumption), (by assumption), (by assumption), (by assumption), (by assumption), (by assumption), (by assumption), OA.k hlen (by first | assumption | exact KO.refl) (by assumption)⟩ esix
  · rw [if_neg c98]
    by_cases c107 : (g32 o0 8 0) = 1
    · rw [if_pos c107]
      obtain ⟨v177, o_178, o_179, o_180, ee108, p109⟩ := t_Law_version o0 o7 o10 o14 (by assumption)
      rw [ee108, bind4_s]
      obtain ⟨v182, o_183, ee110, md111⟩ := m_version o13 (by assumption)
      rw [ee110, bind2_s]
      obtain ⟨hm113, hl112, so114⟩ := md111
      have ql115 := congrArg Int32.toInt hl112
      exact hk _ o_178 o1 o2 o3 o4 o5 o6 o7 o8 o9 o_179 o11 o12 o_183 o_180 ⟨(by assumption), (by assumption), (by assumption), (by assumption), (by assumption), (by assumption), (by assumption), (by assumption), (by assumption), OA.k hlen (by first | assumption | exact KO.refl) (by assumption)⟩ esix
    · rw [if_neg c107]
      by_cases c116 : (g32 o0 8 0) = 2
      · rw [if_pos c116]
        obtain ⟨v186, o_187, o_188, o_189, ee117, p118⟩ := t_Law_version o0 o7 o11 o14 (by assumption)
        rw [ee117, bind4_s]
        obtain ⟨v191, o_192, ee119, md120⟩ := m_version o13 (by assumption)
        rw [ee119, bind2_s]
        obtain ⟨hm122, hl121, so123⟩ := md120
        have ql124 := congrArg Int32.toInt hl121
        exact hk _ o_187 o1 o2 o3 o4 o5 o6 o7 o8 o9 o10 o_188 o12 o_192 o_189 ⟨(by assumption), (by assumption), (by assumption), (by assumption), (by assumption), (by assumption), (by assumption), (by assumption), (by assumption), OA.k hlen (by first | assumption | exact KO.refl) (by assumption)⟩ esix
      · rw [if_neg c116]
        by_cases c125 : (g32 o0 8 0) = 3
        · rw [if_pos c125]
          obtain ⟨v195, o_196, o_197, o_198, ee126, p127⟩ := t_Law_version o0 o7 o12 o14 (by assumption)
          rw [ee126, bind4_s]
          obtain ⟨v200, o_201, ee128, md129⟩ := m_version o13 (by assumption)
          rw [ee128, bind2_s]
          obtain ⟨hm131, hl130, so132⟩ := md129
          have ql133 := congrArg Int32.toInt hl130
          exact hk _ o_196 o1 o2 o3 o4 o5 o6 o7 o8 o9 o10 o11 o_197 o_201 o_198 ⟨(by assumption), (by assumption), (by assumption), (by assumption), (by assumption), (by assumption), (by assumption), (by assumption), (by assumption), OA.k hlen (by first | assumption | exact KO.refl) (by assumption)⟩ esix
        · rw [if_neg c125]
          obtain ⟨v204, o_205, o_206, o_207, ee134, p135⟩ := t_Law_version o0 o7 o9 o14 (by assumption)
          rw [ee134, bind4_s]
          obtain ⟨v209, o_210, ee136, md137⟩ := m_version o13 (by assumption)
          rw [ee136, bind2_s]
          obtain ⟨hm139, hl138, so140⟩ := md137
          have ql141 := congrArg Int32.toInt hl138
          exact hk _ o_205 o1 o2 o3 o4 o5 o6 o7 o8 o_206 o10 o11 o12 o_210 o_207 ⟨(by assumption), (by assumption), (by assumption), (by assumption), (by assumption), (by assumption), (by assumption), (by assumption), (by assumption), OA.k hlen (by first | assumption | exact KO.refl) (by assumption)⟩ esix
set_option maxHeartbeats 1000000 in
theorem lw_differs (L : Nat) (xs : Nat → Int32) (k23 : Int32 → Ob → Ob → Ob → Ob → Ob → Ob → Ob → Ob → Ob → Ob → Ob → Ob → Ob → Ob → Ob → Option Unit) (x4 : Int32) (hL : L ≤ 3072) (h4 : 0 ≤ x4.toInt) (h4b : x4.toInt + 6 ≤ L) (hk : ∀ (x : Int32) (o0 o1 o2 o3 o4 o5 o6 o7 o8 o9 o10 o11 o12 o13 o14 : Ob), IV o0 o1 o2 o3 o4 o5 o6 o13 → x.toInt = x4.toInt + 6 → k23 x o0 o1 o2 o3 o4 o5 o6 o7 o8 o9 o10 o11 o12 o13 o14 = some ()) (o0 o1 o2 o3 o4 o5 o6 o7 o8 o9 o10 o11 o12 o13 o14 : Ob) (hI : IV o0 o1 o2 o3 o4 o5 o6 o13) : F_Law_law_681 L xs k23 x4 o0 o1 o2 o3 o4 o5 o6 o7 o8 o9 o10 o11 o12 o13 o14 = some () := by
  obtain ⟨hi1, hi2, hi3, hi4, hi5, esix⟩ := six hL h4 h4b
  obtain ⟨i0, i1, i2, i3, i4, i4o, i5, i6, i13, hlen⟩ := hI
  rw [F_Law_law_681]
  rw [hi1, chk_tr]
  rw [hi2, chk_tr]
  by_cases c142 : (xs (Int32.toNatClampNeg (x4 + (1 : Int32)))) = 0
  · rw [if_pos c142]
    obtain ⟨v215, o_216, ee143, p144⟩ := t_Law_differs (xs (Int32.toNatClampNeg (x4 + (1 : Int32)))) (xs (Int32.toNatClampNeg (x4 + (2 : Int32)))) o0 o7 o9 o14 (by assumption)
    rw [ee143, bind2_s]
    obtain ⟨v220, o_221, ee145, md146⟩ := m_differs (xs (Int32.toNatClampNeg (x4 + (1 : Int32)))) (xs (Int32.toNatClampNeg (x4 + (2 : Int32)))) o13 (by assumption)
    rw [ee145, bind2_s]
    obtain ⟨hm148, hl147, so149⟩ := md146
    have ql150 := congrArg Int32.toInt hl147
    exact hk _ o0 o1 o2 o3 o4 o5 o6 o7 o8 o9 o10 o11 o12 o_221 o_216 ⟨(by assumption), (by assumption), (by assumption), (by assumption), (by assumption), (by assumption), (by assumption), (by assumption), (by assumption), OA.k hlen (by first | assumption | exact KO.refl) (by assumption)⟩ esix
  · rw [if_neg c142]
    by_cases c151 : (xs (Int32.toNatClampNeg (x4 + (1 : Int32)))) = 1
    · rw [if_pos c151]
      obtain ⟨v224, o_225, ee152, p153⟩ := t_Law_differs (xs (Int32.toNatClampNeg (x4 + (1 : Int32)))) (xs (Int32.toNatClampNeg (x4 + (2 : Int32)))) o0 o7 o10 o14 (by assumption)
      rw [ee152, bind2_s]
      obtain ⟨v229, o_230, ee154, md155⟩ := m_differs (xs (Int32.toNatClampNeg (x4 + (1 : Int32)))) (xs (Int32.toNatClampNeg (x4 + (2 : Int32)))) o13 (by assumption)
      rw [ee154, bind2_s]
      obtain ⟨hm157, hl156, so158⟩ := md155
      have ql159 := congrArg Int32.toInt hl156
      exact hk _ o0 o1 o2 o3 o4 o5 o6 o7 o8 o9 o10 o11 o12 o_230 o_225 ⟨(by assumption), (by assumption), (by assumption), (by assumption), (by assumption), (by assumption), (by assumption), (by assumption), (by assumption), OA.k hlen (by first | assumption | exact KO.refl) (by assumption)⟩ esix
    · rw [if_neg c151]
      by_cases c160 : (xs (Int32.toNatClampNeg (x4 + (1 : Int32)))) = 2
      · rw [if_pos c160]
        obtain ⟨v233, o_234, ee161, p162⟩ := t_Law_differs (xs (Int32.toNatClampNeg (x4 + (1 : Int32)))) (xs (Int32.toNatClampNeg (x4 + (2 : Int32)))) o0 o7 o11 o14 (by assumption)
        rw [ee161, bind2_s]
        obtain ⟨v238, o_239, ee163, md164⟩ := m_differs (xs (Int32.toNatClampNeg (x4 + (1 : Int32)))) (xs (Int32.toNatClampNeg (x4 + (2 : Int32)))) o13 (by assumption)
        rw [ee163, bind2_s]
        obtain ⟨hm166, hl165, so167⟩ := md164
        have ql168 := congrArg Int32.toInt hl165
        exact hk _ o0 o1 o2 o3 o4 o5 o6 o7 o8 o9 o10 o11 o12 o_239 o_234 ⟨(by assumption), (by assumption), (by assumption), (by assumption), (by assumption), (by assumption), (by assumption), (by assumption), (by assumption), OA.k hlen (by first | assumption | exact KO.refl) (by assumption)⟩ esix
      · rw [if_neg c160]
        by_cases c169 : (xs (Int32.toNatClampNeg (x4 + (1 : Int32)))) = 3
        · rw [if_pos c169]
          obtain ⟨v242, o_243, ee170, p171⟩ := t_Law_differs (xs (Int32.toNatClampNeg (x4 + (1 : Int32)))) (xs (Int32.toNatClampNeg (x4 + (2 : Int32)))) o0 o7 o12 o14 (by assumption)
          rw [ee170, bind2_s]
          obtain ⟨v247, o_248, ee172, md173⟩ := m_differs (xs (Int32.toNatClampNeg (x4 + (1 : Int32)))) (xs (Int32.toNatClampNeg (x4 + (2 : Int32)))) o13 (by assumption)
          rw [ee172, bind2_s]
          obtain ⟨hm175, hl174, so176⟩ := md173
          have ql177 := congrArg Int32.toInt hl174
          exact hk _ o0 o1 o2 o3 o4 o5 o6 o7 o8 o9 o10 o11 o12 o_248 o_243 ⟨(by assumption), (by assumption), (by assumption), (by assumption), (by assumption), (by assumption), (by assumption), (by assumption), (by assumption), OA.k hlen (by first | assumption | exact KO.refl) (by assumption)⟩ esix
        · rw [if_neg c169]
          obtain ⟨v251, o_252, ee178, p179⟩ := t_Law_differs (xs (Int32.toNatClampNeg (x4 + (1 : Int32)))) (xs (Int32.toNatClampNeg (x4 + (2 : Int32)))) o0 o7 o9 o14 (by assumption)
          rw [ee178, bind2_s]
          obtain ⟨v256, o_257, ee180, md181⟩ := m_differs (xs (Int32.toNatClampNeg (x4 + (1 : Int32)))) (xs (Int32.toNatClampNeg (x4 + (2 : Int32)))) o13 (by assumption)
          rw [ee180, bind2_s]
          obtain ⟨hm183, hl182, so184⟩ := md181
          have ql185 := congrArg Int32.toInt hl182
          exact hk _ o0 o1 o2 o3 o4 o5 o6 o7 o8 o9 o10 o11 o12 o_257 o_252 ⟨(by assumption), (by assumption), (by assumption), (by assumption), (by assumption), (by assumption), (by assumption), (by assumption), (by assumption), OA.k hlen (by first | assumption | exact KO.refl) (by assumption)⟩ esix
set_option maxHeartbeats 1000000 in
theorem lw_same (L : Nat) (xs : Nat → Int32) (k23 : Int32 → Ob → Ob → Ob → Ob → Ob → Ob → Ob → Ob → Ob → Ob → Ob → Ob → Ob → Ob → Ob → Option Unit) (x4 : Int32) (hL : L ≤ 3072) (h4 : 0 ≤ x4.toInt) (h4b : x4.toInt + 6 ≤ L) (hk : ∀ (x : Int32) (o0 o1 o2 o3 o4 o5 o6 o7 o8 o9 o10 o11 o12 o13 o14 : Ob), IV o0 o1 o2 o3 o4 o5 o6 o13 → x.toInt = x4.toInt + 6 → k23 x o0 o1 o2 o3 o4 o5 o6 o7 o8 o9 o10 o11 o12 o13 o14 = some ()) (o0 o1 o2 o3 o4 o5 o6 o7 o8 o9 o10 o11 o12 o13 o14 : Ob) (hI : IV o0 o1 o2 o3 o4 o5 o6 o13) : F_Law_law_721 L xs k23 x4 o0 o1 o2 o3 o4 o5 o6 o7 o8 o9 o10 o11 o12 o13 o14 = some () := by
  obtain ⟨hi1, hi2, hi3, hi4, hi5, esix⟩ := six hL h4 h4b
  obtain ⟨i0, i1, i2, i3, i4, i4o, i5, i6, i13, hlen⟩ := hI
  rw [F_Law_law_721]
  obtain ⟨v259, o_260, o_261, o_262, ee186, p187, p188⟩ := t_Law_same o0 o7 o6 o4 o8 o5 o14 (by assumption) (by assumption) (by assumption) (by assumption) (by assumption)
  rw [ee186, bind4_s]
  obtain ⟨v264, o_265, ee189, md190⟩ := m_same o13 (by assumption)
  rw [ee189, bind2_s]
  obtain ⟨hm192, hl191, so193⟩ := md190
  have ql194 := congrArg Int32.toInt hl191
  exact hk _ o0 o1 o2 o3 o4 o5 o_260 o7 o_261 o9 o10 o11 o12 o_265 o_262 ⟨(by assumption), (by assumption), (by assumption), (by assumption), (by assumption), (by assumption), (by assumption), (by assumption), (by assumption), OA.k hlen (by first | assumption | exact KO.refl) (by assumption)⟩ esix
set_option maxHeartbeats 1000000 in
theorem lw_reckoned (L : Nat) (xs : Nat → Int32) (k23 : Int32 → Ob → Ob → Ob → Ob → Ob → Ob → Ob → Ob → Ob → Ob → Ob → Ob → Ob → Ob → Ob → Option Unit) (x4 : Int32) (hL : L ≤ 3072) (h4 : 0 ≤ x4.toInt) (h4b : x4.toInt + 6 ≤ L) (hk : ∀ (x : Int32) (o0 o1 o2 o3 o4 o5 o6 o7 o8 o9 o10 o11 o12 o13 o14 : Ob), IV o0 o1 o2 o3 o4 o5 o6 o13 → x.toInt = x4.toInt + 6 → k23 x o0 o1 o2 o3 o4 o5 o6 o7 o8 o9 o10 o11 o12 o13 o14 = some ()) (o0 o1 o2 o3 o4 o5 o6 o7 o8 o9 o10 o11 o12 o13 o14 : Ob) (hI : IV o0 o1 o2 o3 o4 o5 o6 o13) : F_Law_law_737 L xs k23 x4 o0 o1 o2 o3 o4 o5 o6 o7 o8 o9 o10 o11 o12 o13 o14 = some () := by
  obtain ⟨hi1, hi2, hi3, hi4, hi5, esix⟩ := six hL h4 h4b
  obtain ⟨i0, i1, i2, i3, i4, i4o, i5, i6, i13, hlen⟩ := hI
  rw [F_Law_law_737]
  rw [F_PF_reckoned, bind1_s]
  obtain ⟨v269, o_270, ee196, md197⟩ := m_reckonedM o13 (by assumption)
  rw [ee196, bind2_s]
  obtain ⟨hm199, hl198, so200⟩ := md197
  have ql201 := congrArg Int32.toInt hl198
  exact hk _ o0 o1 o2 o3 o4 o5 o6 o7 o8 o9 o10 o11 o12 o_270 o14 ⟨(by assumption), (by assumption), (by assumption), (by assumption), (by assumption), (by assumption), (by assumption), (by assumption), (by assumption), OA.k hlen (by first | assumption | exact KO.refl) (by assumption)⟩ esix
set_option maxHeartbeats 1000000 in
theorem law_all (L : Nat) (xs : Nat → Int32) (hL : L ≤ 3072) : ∀ (n : Nat) (x4 : Int32) (o0 o1 o2 o3 o4 o5 o6 o7 o8 o9 o10 o11 o12 o13 o14 : Ob), IV o0 o1 o2 o3 o4 o5 o6 o13 → 0 ≤ x4.toInt → x4.toInt ≤ (L : Int) → ((L : Int) - x4.toInt + 5) / 6 < (n : Int) → F_Law_law_23 L xs n x4 o0 o1 o2 o3 o4 o5 o6 o7 o8 o9 o10 o11 o12 o13 o14 = some () := by
  intro n
  induction n with
  | zero =>
    intro x4 o0 o1 o2 o3 o4 o5 o6 o7 o8 o9 o10 o11 o12 o13 o14 _ _ _ _
    exfalso; omega
  | succ n ih =>
    intro x4 o0 o1 o2 o3 o4 o5 o6 o7 o8 o9 o10 o11 o12 o13 o14 hI h4 h4b hn
    have z6 : (6 : Int32).toInt = 6 := rfl
    have eL : (Int32.ofNat L).toInt = L := i32n (by omega)
    have e0 : ((Int32.ofNat L) - (6 : Int32)).toInt = (L : Int) - 6 := by rw [tsub (by omega) (by omega), eL, z6]
    rw [F_Law_law_23]
    by_cases c0 : ((Int32.ofNat L) - (6 : Int32)) < x4
    · rw [if_pos c0]
    rw [if_neg c0]
    have c0 : ¬ ((Int32.ofNat L) - (6 : Int32)).toInt < x4.toInt := fun z => c0 (Int32.lt_iff_toInt_lt.mpr z)
    have h4c : x4.toInt + 6 ≤ (L : Int) := by omega
    obtain ⟨hi1, hi2, hi3, hi4, hi5, e6⟩ := six hL h4 h4c
    rw [show (inb x4 L) = true from inb_iff.mpr ⟨h4, by omega⟩, chk_tr]
    by_cases c202 : ((xs (Int32.toNatClampNeg x4)) &&& (31 : Int32)) = 0
    · rw [if_pos c202]
      exact lw_unit L xs (F_Law_law_23 L xs n) x4 hL h4 h4c (fun x o0 o1 o2 o3 o4 o5 o6 o7 o8 o9 o10 o11 o12 o13 o14 hJ hx => ih x o0 o1 o2 o3 o4 o5 o6 o7 o8 o9 o10 o11 o12 o13 o14 hJ (by omega) (by omega) (by omega)) o0 o1 o2 o3 o4 o5 o6 o7 o8 o9 o10 o11 o12 o13 o14 hI
    · rw [if_neg c202]
      by_cases c203 : ((xs (Int32.toNatClampNeg x4)) &&& (31 : Int32)) = 1
      · rw [if_pos c203]
        exact lw_read L xs (F_Law_law_23 L xs n) x4 hL h4 h4c (fun x o0 o1 o2 o3 o4 o5 o6 o7 o8 o9 o10 o11 o12 o13 o14 hJ hx => ih x o0 o1 o2 o3 o4 o5 o6 o7 o8 o9 o10 o11 o12 o13 o14 hJ (by omega) (by omega) (by omega)) o0 o1 o2 o3 o4 o5 o6 o7 o8 o9 o10 o11 o12 o13 o14 hI
      · rw [if_neg c203]
        by_cases c204 : ((xs (Int32.toNatClampNeg x4)) &&& (31 : Int32)) = 2
        · rw [if_pos c204]
          exact lw_write L xs (F_Law_law_23 L xs n) x4 hL h4 h4c (fun x o0 o1 o2 o3 o4 o5 o6 o7 o8 o9 o10 o11 o12 o13 o14 hJ hx => ih x o0 o1 o2 o3 o4 o5 o6 o7 o8 o9 o10 o11 o12 o13 o14 hJ (by omega) (by omega) (by omega)) o0 o1 o2 o3 o4 o5 o6 o7 o8 o9 o10 o11 o12 o13 o14 hI
        · rw [if_neg c204]
          by_cases c205 : ((xs (Int32.toNatClampNeg x4)) &&& (31 : Int32)) = 3
          · rw [if_pos c205]
            exact lw_set L xs (F_Law_law_23 L xs n) x4 hL h4 h4c (fun x o0 o1 o2 o3 o4 o5 o6 o7 o8 o9 o10 o11 o12 o13 o14 hJ hx => ih x o0 o1 o2 o3 o4 o5 o6 o7 o8 o9 o10 o11 o12 o13 o14 hJ (by omega) (by omega) (by omega)) o0 o1 o2 o3 o4 o5 o6 o7 o8 o9 o10 o11 o12 o13 o14 hI
          · rw [if_neg c205]
            by_cases c206 : ((xs (Int32.toNatClampNeg x4)) &&& (31 : Int32)) = 4
            · rw [if_pos c206]
              exact lw_run L xs (F_Law_law_23 L xs n) x4 hL h4 h4c (fun x o0 o1 o2 o3 o4 o5 o6 o7 o8 o9 o10 o11 o12 o13 o14 hJ hx => ih x o0 o1 o2 o3 o4 o5 o6 o7 o8 o9 o10 o11 o12 o13 o14 hJ (by omega) (by omega) (by omega)) o0 o1 o2 o3 o4 o5 o6 o7 o8 o9 o10 o11 o12 o13 o14 hI
            · rw [if_neg c206]
              by_cases c207 : ((xs (Int32.toNatClampNeg x4)) &&& (31 : Int32)) = 5
              · rw [if_pos c207]
                exact lw_state L xs (F_Law_law_23 L xs n) x4 hL h4 h4c (fun x o0 o1 o2 o3 o4 o5 o6 o7 o8 o9 o10 o11 o12 o13 o14 hJ hx => ih x o0 o1 o2 o3 o4 o5 o6 o7 o8 o9 o10 o11 o12 o13 o14 hJ (by omega) (by omega) (by omega)) o0 o1 o2 o3 o4 o5 o6 o7 o8 o9 o10 o11 o12 o13 o14 hI
              · rw [if_neg c207]
                by_cases c208 : ((xs (Int32.toNatClampNeg x4)) &&& (31 : Int32)) = 6
                · rw [if_pos c208]
                  exact lw_size L xs (F_Law_law_23 L xs n) x4 hL h4 h4c (fun x o0 o1 o2 o3 o4 o5 o6 o7 o8 o9 o10 o11 o12 o13 o14 hJ hx => ih x o0 o1 o2 o3 o4 o5 o6 o7 o8 o9 o10 o11 o12 o13 o14 hJ (by omega) (by omega) (by omega)) o0 o1 o2 o3 o4 o5 o6 o7 o8 o9 o10 o11 o12 o13 o14 hI
                · rw [if_neg c208]
                  by_cases c209 : ((xs (Int32.toNatClampNeg x4)) &&& (31 : Int32)) = 7
                  · rw [if_pos c209]
                    exact lw_ring L xs (F_Law_law_23 L xs n) x4 hL h4 h4c (fun x o0 o1 o2 o3 o4 o5 o6 o7 o8 o9 o10 o11 o12 o13 o14 hJ hx => ih x o0 o1 o2 o3 o4 o5 o6 o7 o8 o9 o10 o11 o12 o13 o14 hJ (by omega) (by omega) (by omega)) o0 o1 o2 o3 o4 o5 o6 o7 o8 o9 o10 o11 o12 o13 o14 hI
                  · rw [if_neg c209]
                    by_cases c210 : ((xs (Int32.toNatClampNeg x4)) &&& (31 : Int32)) = 8
                    · rw [if_pos c210]
                      exact lw_condition L xs (F_Law_law_23 L xs n) x4 hL h4 h4c (fun x o0 o1 o2 o3 o4 o5 o6 o7 o8 o9 o10 o11 o12 o13 o14 hJ hx => ih x o0 o1 o2 o3 o4 o5 o6 o7 o8 o9 o10 o11 o12 o13 o14 hJ (by omega) (by omega) (by omega)) o0 o1 o2 o3 o4 o5 o6 o7 o8 o9 o10 o11 o12 o13 o14 hI
                    · rw [if_neg c210]
                      by_cases c211 : ((xs (Int32.toNatClampNeg x4)) &&& (31 : Int32)) = 9
                      · rw [if_pos c211]
                        exact lw_line L xs (F_Law_law_23 L xs n) x4 hL h4 h4c (fun x o0 o1 o2 o3 o4 o5 o6 o7 o8 o9 o10 o11 o12 o13 o14 hJ hx => ih x o0 o1 o2 o3 o4 o5 o6 o7 o8 o9 o10 o11 o12 o13 o14 hJ (by omega) (by omega) (by omega)) o0 o1 o2 o3 o4 o5 o6 o7 o8 o9 o10 o11 o12 o13 o14 hI
                      · rw [if_neg c211]
                        by_cases c212 : ((xs (Int32.toNatClampNeg x4)) &&& (31 : Int32)) = 10
                        · rw [if_pos c212]
                          exact lw_needs L xs (F_Law_law_23 L xs n) x4 hL h4 h4c (fun x o0 o1 o2 o3 o4 o5 o6 o7 o8 o9 o10 o11 o12 o13 o14 hJ hx => ih x o0 o1 o2 o3 o4 o5 o6 o7 o8 o9 o10 o11 o12 o13 o14 hJ (by omega) (by omega) (by omega)) o0 o1 o2 o3 o4 o5 o6 o7 o8 o9 o10 o11 o12 o13 o14 hI
                        · rw [if_neg c212]
                          by_cases c213 : ((xs (Int32.toNatClampNeg x4)) &&& (31 : Int32)) = 11
                          · rw [if_pos c213]
                            exact lw_limit L xs (F_Law_law_23 L xs n) x4 hL h4 h4c (fun x o0 o1 o2 o3 o4 o5 o6 o7 o8 o9 o10 o11 o12 o13 o14 hJ hx => ih x o0 o1 o2 o3 o4 o5 o6 o7 o8 o9 o10 o11 o12 o13 o14 hJ (by omega) (by omega) (by omega)) o0 o1 o2 o3 o4 o5 o6 o7 o8 o9 o10 o11 o12 o13 o14 hI
                          · rw [if_neg c213]
                            by_cases c214 : ((xs (Int32.toNatClampNeg x4)) &&& (31 : Int32)) = 12
                            · rw [if_pos c214]
                              exact lw_check L xs (F_Law_law_23 L xs n) x4 hL h4 h4c (fun x o0 o1 o2 o3 o4 o5 o6 o7 o8 o9 o10 o11 o12 o13 o14 hJ hx => ih x o0 o1 o2 o3 o4 o5 o6 o7 o8 o9 o10 o11 o12 o13 o14 hJ (by omega) (by omega) (by omega)) o0 o1 o2 o3 o4 o5 o6 o7 o8 o9 o10 o11 o12 o13 o14 hI
                            · rw [if_neg c214]
                              by_cases c215 : ((xs (Int32.toNatClampNeg x4)) &&& (31 : Int32)) = 13
                              · rw [if_pos c215]
                                exact lw_version L xs (F_Law_law_23 L xs n) x4 hL h4 h4c (fun x o0 o1 o2 o3 o4 o5 o6 o7 o8 o9 o10 o11 o12 o13 o14 hJ hx => ih x o0 o1 o2 o3 o4 o5 o6 o7 o8 o9 o10 o11 o12 o13 o14 hJ (by omega) (by omega) (by omega)) o0 o1 o2 o3 o4 o5 o6 o7 o8 o9 o10 o11 o12 o13 o14 hI
                              · rw [if_neg c215]
                                by_cases c216 : ((xs (Int32.toNatClampNeg x4)) &&& (31 : Int32)) = 14
                                · rw [if_pos c216]
                                  exact lw_differs L xs (F_Law_law_23 L xs n) x4 hL h4 h4c (fun x o0 o1 o2 o3 o4 o5 o6 o7 o8 o9 o10 o11 o12 o13 o14 hJ hx => ih x o0 o1 o2 o3 o4 o5 o6 o7 o8 o9 o10 o11 o12 o13 o14 hJ (by omega) (by omega) (by omega)) o0 o1 o2 o3 o4 o5 o6 o7 o8 o9 o10 o11 o12 o13 o14 hI
                                · rw [if_neg c216]
                                  by_cases c217 : ((xs (Int32.toNatClampNeg x4)) &&& (31 : Int32)) = 15
                                  · rw [if_pos c217]
                                    exact lw_same L xs (F_Law_law_23 L xs n) x4 hL h4 h4c (fun x o0 o1 o2 o3 o4 o5 o6 o7 o8 o9 o10 o11 o12 o13 o14 hJ hx => ih x o0 o1 o2 o3 o4 o5 o6 o7 o8 o9 o10 o11 o12 o13 o14 hJ (by omega) (by omega) (by omega)) o0 o1 o2 o3 o4 o5 o6 o7 o8 o9 o10 o11 o12 o13 o14 hI
                                  · rw [if_neg c217]
                                    by_cases c218 : ((xs (Int32.toNatClampNeg x4)) &&& (31 : Int32)) = 16
                                    · rw [if_pos c218]
                                      exact lw_reckoned L xs (F_Law_law_23 L xs n) x4 hL h4 h4c (fun x o0 o1 o2 o3 o4 o5 o6 o7 o8 o9 o10 o11 o12 o13 o14 hJ hx => ih x o0 o1 o2 o3 o4 o5 o6 o7 o8 o9 o10 o11 o12 o13 o14 hJ (by omega) (by omega) (by omega)) o0 o1 o2 o3 o4 o5 o6 o7 o8 o9 o10 o11 o12 o13 o14 hI
                                    · rw [if_neg c218]
                                      exact ih (x4 + (6 : Int32)) o0 o1 o2 o3 o4 o5 o6 o7 o8 o9 o10 o11 o12 o13 o14 hI (by rw [e6]; omega) (by rw [e6]; omega) (by rw [e6]; omega)
theorem fresh_IV : IV ob0 ob0 ob0 ob0 ob0 ob0 oReckoner0 oMod0 := by
  have z : ∀ k i, g32 ob0 k i = 0 := fun _ _ => rfl
  have zm : ∀ k i, g32 oMod0 k i = 0 := fun _ _ => rfl
  have z0 : (0 : Int32).toInt = 0 := rfl
  have ar : ∀ (k : Nat) (lo hi : Int), lo ≤ 0 → 0 ≤ hi → AR ob0 k lo hi := fun k lo hi a b j => by rw [z]; exact ⟨a, b⟩
  have okT : okText ob0 := ⟨by rw [z]; omega, by rw [z]; omega, by rw [z]; omega, by rw [z]; omega, ar _ _ _ (by omega) (by omega), ar _ _ _ (by omega) (by omega), by rw [z]; omega, by rw [z]; omega, ar _ _ _ (by omega) (by omega)⟩
  have okS : okSteps ob0 := ⟨by rw [z]; omega, by rw [z]; omega, by rw [z]; omega, by rw [z]; omega, ar _ _ _ (by omega) (by omega), fun j => ⟨fun h => by rw [z] at h; exact absurd h (by decide), fun h => by rw [z] at h; exact absurd h (by decide)⟩⟩
  have l0 : (0 : Int64).toInt = 0 := by decide
  have l1 : (1 : Int64).toInt = 1 := by decide
  have m15 : ∀ j, g64 oMod0 15 j = 0 := fun _ => rfl
  have m16 : ∀ j : Nat, j < 8 → g64 oMod0 16 j = 1 := fun j h => by
    rcases j with _ | _ | _ | _ | _ | _ | _ | _ | j <;> first | rfl | omega
  have r0 : ∀ j, g64 oReckoner0 0 j = 0 := fun _ => rfl
  have r1 : ∀ j : Nat, j < 8 → g64 oReckoner0 1 j = 1 := fun j h => by
    rcases j with _ | _ | _ | _ | _ | _ | _ | _ | j <;> first | rfl | omega
  have rh : g32 oReckoner0 4 0 = 0 := rfl
  exact ⟨⟨by rw [z]; omega, by rw [z]; omega⟩, ⟨by rw [z]; omega, by rw [z]; omega, ar _ _ _ (by omega) (by omega), ar _ _ _ (by omega) (by omega)⟩, okT, okS, okT, OC.none (by rw [z]; omega), okS, ⟨by rw [rh]; omega, by rw [rh]; omega⟩, ⟨⟨⟨by rw [zm]; omega, by rw [zm]; omega, fun j => by rw [zm]; omega⟩, fun j hj => by rw [m15, m16 j hj]; unfold gv; omega, fun j hj h => by rw [zm] at h; omega, Or.inl ⟨by rw [zm]; omega, by rw [zm]; omega⟩⟩, fun j => by rw [zm]; omega⟩, fun j hj => ⟨by rw [r0, m15], by rw [r1 j hj, m16 j hj]⟩⟩
theorem law_pure (L : Nat) (hL : L ≤ 3072) (xs : Nat → Int32) : F_Law_law_23 L xs 520 0 ob0 ob0 ob0 ob0 ob0 ob0 oReckoner0 ob0 ob0 ob0 ob0 ob0 ob0 oMod0 ob0 = some () := by
  have z0 : (0 : Int32).toInt = 0 := rfl
  exact law_all L xs hL 520 0 _ _ _ _ _ _ _ _ _ _ _ _ _ _ _ fresh_IV (by omega) (by omega) (by omega)

