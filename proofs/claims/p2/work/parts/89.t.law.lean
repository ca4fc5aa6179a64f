/-! THE LAW: every call of a script, from what holds of both sides -/
def IV (o0 o1 o2 o3 o4 o5 o6 o13 : Ob) : Prop := okPF o0 ∧ okReader o1 ∧ okText o2 ∧ okSteps o3 ∧ okText o4 ∧ OC o4 ∧ okSteps o5 ∧ okReckoner o6 ∧ okM o13 ∧ (g32 o1 2 0).toInt = (g32 o13 2 0).toInt
theorem six {L : Nat} {x4 : Int32} (hL : L ≤ 3072) (h4 : 0 ≤ x4.toInt) (h4b : x4.toInt + 6 ≤ (L : Int)) : (inb (x4 + (1 : Int32)) L) = true ∧ (inb (x4 + (2 : Int32)) L) = true ∧ (inb (x4 + (3 : Int32)) L) = true ∧ (inb (x4 + (4 : Int32)) L) = true ∧ (inb (x4 + (5 : Int32)) L) = true ∧ (x4 + (6 : Int32)).toInt = x4.toInt + 6 := by
  have z1 : (1 : Int32).toInt = 1 := rfl
  have z2 : (2 : Int32).toInt = 2 := rfl
  have z3 : (3 : Int32).toInt = 3 := rfl
  have z4 : (4 : Int32).toInt = 4 := rfl
  have z5 : (5 : Int32).toInt = 5 := rfl
  have z6 : (6 : Int32).toInt = 6 := rfl
  have e : ∀ k : Int32, 0 ≤ k.toInt → k.toInt ≤ 6 → (x4 + k).toInt = x4.toInt + k.toInt := fun k a b => tadd (by omega) (by omega)
  have i : ∀ k : Int32, 0 ≤ k.toInt → k.toInt ≤ 5 → (inb (x4 + k) L) = true := fun k a b => inb_iff.mpr ⟨by rw [e k a (by omega)]; omega, by rw [e k a (by omega)]; omega⟩
  exact ⟨i 1 (by omega) (by omega), i 2 (by omega) (by omega), i 3 (by omega) (by omega), i 4 (by omega) (by omega), i 5 (by omega) (by omega), by rw [e 6 (by omega) (by omega), z6]⟩
theorem t_PF_read (o0 o1 o2 o3 : Ob) (g0 : okPF o0) (g1 : okReader o1) (g2 : okText o2) (g3 : okSteps o3) : ∃ (r : Int32) (n0 n1 n2 n3 : Ob), F_PF_read o0 o1 o2 o3 = some (r, n0, n1, n2, n3) ∧ okPF n0 ∧ okReader n1 ∧ okText n2 ∧ okSteps n3 ∧ (r.toInt < 0 ∨ OC n2) ∧ (g32 n1 2 0).toInt = 0 := by
  obtain ⟨r, n1, n2, n3, e, p1, p2, p3, p4, p5⟩ := t_Reader_readCollected o1 o2 o3 g1 g2 g3
  rw [F_PF_read, e, bind4_s]
  refine ⟨r, _, n1, n2, n3, rfl, ?_, p1, p2, p3, p4, p5⟩
  split
  · exact g0
  · exact g0

set_option maxHeartbeats 1000000 in
theorem lw_unit (L : Nat) (xs : Nat → Int32) (k23 : Int32 → Ob → Ob → Ob → Ob → Ob → Ob → Ob → Ob → Ob → Ob → Ob → Ob → Ob → Ob → Ob → Option Unit) (x4 : Int32) (hL : L ≤ 3072) (h4 : 0 ≤ x4.toInt) (h4b : x4.toInt + 6 ≤ L) (hk : ∀ (x : Int32) (o0 o1 o2 o3 o4 o5 o6 o7 o8 o9 o10 o11 o12 o13 o14 : Ob), IV o0 o1 o2 o3 o4 o5 o6 o13 → x.toInt = x4.toInt + 6 → k23 x o0 o1 o2 o3 o4 o5 o6 o7 o8 o9 o10 o11 o12 o13 o14 = some ()) (o0 o1 o2 o3 o4 o5 o6 o7 o8 o9 o10 o11 o12 o13 o14 : Ob) (hI : IV o0 o1 o2 o3 o4 o5 o6 o13) : F_Law_law_124 L xs k23 x4 o0 o1 o2 o3 o4 o5 o6 o7 o8 o9 o10 o11 o12 o13 o14 = some () := by
  obtain ⟨hi1, hi2, hi3, hi4, hi5, esix⟩ := six hL h4 h4b
  obtain ⟨i0, i1, i2, i3, i4, i4o, i5, i6, i13, hlen⟩ := hI
  rw [F_Law_law_124]
  rw [hi1, chk_tr]
  obtain ⟨v22, o_23, ee1, hr1, hu1, hl1⟩ := t_PF_unit (xs (Int32.toNatClampNeg (x4 + (1 : Int32)))) o0 o1 (by assumption) (by assumption)
  rw [ee1, bind2_s]
  obtain ⟨v26, o_27, ee2, hm, hso, hu2, hl2⟩ := m_unit (xs (Int32.toNatClampNeg (x4 + (1 : Int32)))) o13 (by assumption)
  rw [ee2, bind2_s]
  rw [if_pos (show (b2i v22) = (b2i v26) by rw [hu1, hu2, hlen])]
  exact hk _ o0 o_23 o2 o3 o4 o5 o6 o7 o8 o9 o10 o11 o12 o_27 o14 ⟨(by assumption), (by assumption), (by assumption), (by assumption), (by assumption), (by assumption), (by assumption), (by assumption), (by assumption), by rw [hl1, hl2, hu1, hu2, hlen]⟩ esix
set_option maxHeartbeats 1000000 in
theorem lw_read (L : Nat) (xs : Nat → Int32) (k23 : Int32 → Ob → Ob → Ob → Ob → Ob → Ob → Ob → Ob → Ob → Ob → Ob → Ob → Ob → Ob → Ob → Option Unit) (x4 : Int32) (hL : L ≤ 3072) (h4 : 0 ≤ x4.toInt) (h4b : x4.toInt + 6 ≤ L) (hk : ∀ (x : Int32) (o0 o1 o2 o3 o4 o5 o6 o7 o8 o9 o10 o11 o12 o13 o14 : Ob), IV o0 o1 o2 o3 o4 o5 o6 o13 → x.toInt = x4.toInt + 6 → k23 x o0 o1 o2 o3 o4 o5 o6 o7 o8 o9 o10 o11 o12 o13 o14 = some ()) (o0 o1 o2 o3 o4 o5 o6 o7 o8 o9 o10 o11 o12 o13 o14 : Ob) (hI : IV o0 o1 o2 o3 o4 o5 o6 o13) : F_Law_law_149 L xs k23 x4 o0 o1 o2 o3 o4 o5 o6 o7 o8 o9 o10 o11 o12 o13 o14 = some () := by
  obtain ⟨hi1, hi2, hi3, hi4, hi5, esix⟩ := six hL h4 h4b
  obtain ⟨i0, i1, i2, i3, i4, i4o, i5, i6, i13, hlen⟩ := hI
  rw [F_Law_law_149]
  obtain ⟨v29, o_30, o_31, o_32, o_33, ee4, hr0, hr1, hr2, hr3, hoc, hl1⟩ := t_PF_read o0 o1 o2 o3 (by assumption) (by assumption) (by assumption) (by assumption)
  rw [ee4, bind5_s]
  by_cases c5 : v29 < 0
  · rw [if_pos c5]
    obtain ⟨v37, o_38, ee6, hm7, so8, hl9⟩ := m_readM o13 (by assumption)
    rw [ee6, bind2_s]
    exact hk _ o_30 o_31 o_32 o_33 o4 o5 o6 o7 o8 o9 o10 o11 o12 o_38 o14 ⟨(by assumption), (by assumption), (by assumption), (by assumption), (by assumption), (by assumption), (by assumption), (by assumption), (by assumption), by omega⟩ esix
  · rw [if_neg c5]
    have c5 : ¬ v29.toInt < 0 := fun z => c5 (Int32.lt_iff_toInt_lt.mpr z)
    have oc10 := hoc.resolve_left c5
    obtain ⟨v40, o_41, ee11, hm12, so13, hl14⟩ := m_readM o13 (by assumption)
    rw [ee11, bind2_s]
    exact hk _ o_30 o_31 o4 o5 o_32 o_33 o6 o7 o8 o9 o10 o11 o12 o_41 o14 ⟨(by assumption), (by assumption), (by assumption), (by assumption), (by assumption), (by assumption), (by assumption), (by assumption), (by assumption), by omega⟩ esix
set_option maxHeartbeats 1000000 in
theorem lw_write (L : Nat) (xs : Nat → Int32) (k23 : Int32 → Ob → Ob → Ob → Ob → Ob → Ob → Ob → Ob → Ob → Ob → Ob → Ob → Ob → Ob → Ob → Option Unit) (x4 : Int32) (hL : L ≤ 3072) (h4 : 0 ≤ x4.toInt) (h4b : x4.toInt + 6 ≤ L) (hk : ∀ (x : Int32) (o0 o1 o2 o3 o4 o5 o6 o7 o8 o9 o10 o11 o12 o13 o14 : Ob), IV o0 o1 o2 o3 o4 o5 o6 o13 → x.toInt = x4.toInt + 6 → k23 x o0 o1 o2 o3 o4 o5 o6 o7 o8 o9 o10 o11 o12 o13 o14 = some ()) (o0 o1 o2 o3 o4 o5 o6 o7 o8 o9 o10 o11 o12 o13 o14 : Ob) (hI : IV o0 o1 o2 o3 o4 o5 o6 o13) : F_Law_law_162 L xs k23 x4 o0 o1 o2 o3 o4 o5 o6 o7 o8 o9 o10 o11 o12 o13 o14 = some () := by
  obtain ⟨hi1, hi2, hi3, hi4, hi5, esix⟩ := six hL h4 h4b
  obtain ⟨i0, i1, i2, i3, i4, i4o, i5, i6, i13, hlen⟩ := hI
  rw [F_Law_law_162]
  rw [hi1, chk_tr]
  obtain ⟨v44, o_45, ee15, p16⟩ := t_Law_write (xs (Int32.toNatClampNeg (x4 + (1 : Int32)))) o0 o4 o14 (by assumption) (by assumption)
  rw [ee15, bind2_s]
  obtain ⟨v48, o_49, ee17, md18⟩ := m_write (xs (Int32.toNatClampNeg (x4 + (1 : Int32)))) o13 (by assumption)
  rw [ee17, bind2_s]
  obtain ⟨hm20, hl19, so21⟩ := md18
  have ql22 := congrArg Int32.toInt hl19
  exact hk _ o0 o1 o2 o3 o4 o5 o6 o7 o8 o9 o10 o11 o12 o_49 o_45 ⟨(by assumption), (by assumption), (by assumption), (by assumption), (by assumption), (by assumption), (by assumption), (by assumption), (by assumption), by omega⟩ esix
set_option maxHeartbeats 1000000 in
theorem lw_set (L : Nat) (xs : Nat → Int32) (k23 : Int32 → Ob → Ob → Ob → Ob → Ob → Ob → Ob → Ob → Ob → Ob → Ob → Ob → Ob → Ob → Ob → Option Unit) (x4 : Int32) (hL : L ≤ 3072) (h4 : 0 ≤ x4.toInt) (h4b : x4.toInt + 6 ≤ L) (hk : ∀ (x : Int32) (o0 o1 o2 o3 o4 o5 o6 o7 o8 o9 o10 o11 o12 o13 o14 : Ob), IV o0 o1 o2 o3 o4 o5 o6 o13 → x.toInt = x4.toInt + 6 → k23 x o0 o1 o2 o3 o4 o5 o6 o7 o8 o9 o10 o11 o12 o13 o14 = some ()) (o0 o1 o2 o3 o4 o5 o6 o7 o8 o9 o10 o11 o12 o13 o14 : Ob) (hI : IV o0 o1 o2 o3 o4 o5 o6 o13) : F_Law_law_190 L xs k23 x4 o0 o1 o2 o3 o4 o5 o6 o7 o8 o9 o10 o11 o12 o13 o14 = some () := by
  obtain ⟨hi1, hi2, hi3, hi4, hi5, esix⟩ := six hL h4 h4b
  obtain ⟨i0, i1, i2, i3, i4, i4o, i5, i6, i13, hlen⟩ := hI
  rw [F_Law_law_190]
  rw [hi1, chk_tr]
  rw [hi2, chk_tr]
  rw [hi3, chk_tr]
  rw [hi4, chk_tr]
  rw [hi5, chk_tr]
  obtain ⟨v56, o_57, o_58, o_59, o_60, ee23, p24, p25⟩ := t_Law_set (xs (Int32.toNatClampNeg (x4 + (1 : Int32)))) ((lshl (Int32.toInt64 (xs (Int32.toNatClampNeg (x4 + (2 : Int32))))) (32 : Int32)) ||| ((Int32.toInt64 (xs (Int32.toNatClampNeg (x4 + (3 : Int32))))) &&& (4294967295 : Int64))) ((lshl (Int32.toInt64 (xs (Int32.toNatClampNeg (x4 + (4 : Int32))))) (32 : Int32)) ||| ((Int32.toInt64 (xs (Int32.toNatClampNeg (x4 + (5 : Int32))))) &&& (4294967295 : Int64))) o0 o7 o6 o4 o5 o14 (by assumption) (by assumption) (by assumption) (by assumption) (by assumption)
  rw [ee23, bind5_s]
  obtain ⟨v67, o_68, ee26, hm, hl2, hsb⟩ := m_set (xs (Int32.toNatClampNeg (x4 + (1 : Int32)))) ((lshl (Int32.toInt64 (xs (Int32.toNatClampNeg (x4 + (2 : Int32))))) (32 : Int32)) ||| ((Int32.toInt64 (xs (Int32.toNatClampNeg (x4 + (3 : Int32))))) &&& (4294967295 : Int64))) ((lshl (Int32.toInt64 (xs (Int32.toNatClampNeg (x4 + (4 : Int32))))) (32 : Int32)) ||| ((Int32.toInt64 (xs (Int32.toNatClampNeg (x4 + (5 : Int32))))) &&& (4294967295 : Int64))) o13 (by assumption)
  rw [ee26, bind2_s]
  have hl3 := congrArg Int32.toInt hl2
  exact hk _ o_57 o1 o2 o3 o4 o5 o_59 o_58 o8 o9 o10 o11 o12 o_68 o_60 ⟨(by assumption), (by assumption), (by assumption), (by assumption), (by assumption), (by assumption), (by assumption), (by assumption), (by assumption), by omega⟩ esix
set_option maxHeartbeats 1000000 in
theorem lw_run (L : Nat) (xs : Nat → Int32) (k23 : Int32 → Ob → Ob → Ob → Ob → Ob → Ob → Ob → Ob → Ob → Ob → Ob → Ob → Ob → Ob → Ob → Option Unit) (x4 : Int32) (hL : L ≤ 3072) (h4 : 0 ≤ x4.toInt) (h4b : x4.toInt + 6 ≤ L) (hk : ∀ (x : Int32) (o0 o1 o2 o3 o4 o5 o6 o7 o8 o9 o10 o11 o12 o13 o14 : Ob), IV o0 o1 o2 o3 o4 o5 o6 o13 → x.toInt = x4.toInt + 6 → k23 x o0 o1 o2 o3 o4 o5 o6 o7 o8 o9 o10 o11 o12 o13 o14 = some ()) (o0 o1 o2 o3 o4 o5 o6 o7 o8 o9 o10 o11 o12 o13 o14 : Ob) (hI : IV o0 o1 o2 o3 o4 o5 o6 o13) : F_Law_law_306 L xs k23 x4 o0 o1 o2 o3 o4 o5 o6 o7 o8 o9 o10 o11 o12 o13 o14 = some () := by
  obtain ⟨hi1, hi2, hi3, hi4, hi5, esix⟩ := six hL h4 h4b
  obtain ⟨i0, i1, i2, i3, i4, i4o, i5, i6, i13, hlen⟩ := hI
  rw [F_Law_law_306]
  obtain ⟨v70, o_71, o_72, o_73, o_74, ee27, p28, p29⟩ := t_Law_run o0 o7 o6 o4 o5 o14 (by assumption) (by assumption) (by assumption) (by assumption) (by assumption)
  rw [ee27, bind5_s]
  obtain ⟨v76, o_77, ee30, md31⟩ := m_run o13 (by assumption)
  rw [ee30, bind2_s]
  obtain ⟨hm33, hl32, so34⟩ := md31
  have ql35 := congrArg Int32.toInt hl32
  exact hk _ o_71 o1 o2 o3 o4 o5 o_73 o_72 o8 o9 o10 o11 o12 o_77 o_74 ⟨(by assumption), (by assumption), (by assumption), (by assumption), (by assumption), (by assumption), (by assumption), (by assumption), (by assumption), by omega⟩ esix
set_option maxHeartbeats 1000000 in
theorem lw_state (L : Nat) (xs : Nat → Int32) (k23 : Int32 → Ob → Ob → Ob → Ob → Ob → Ob → Ob → Ob → Ob → Ob → Ob → Ob → Ob → Ob → Ob → Option Unit) (x4 : Int32) (hL : L ≤ 3072) (h4 : 0 ≤ x4.toInt) (h4b : x4.toInt + 6 ≤ L) (hk : ∀ (x : Int32) (o0 o1 o2 o3 o4 o5 o6 o7 o8 o9 o10 o11 o12 o13 o14 : Ob), IV o0 o1 o2 o3 o4 o5 o6 o13 → x.toInt = x4.toInt + 6 → k23 x o0 o1 o2 o3 o4 o5 o6 o7 o8 o9 o10 o11 o12 o13 o14 = some ()) (o0 o1 o2 o3 o4 o5 o6 o7 o8 o9 o10 o11 o12 o13 o14 : Ob) (hI : IV o0 o1 o2 o3 o4 o5 o6 o13) : F_Law_law_322 L xs k23 x4 o0 o1 o2 o3 o4 o5 o6 o7 o8 o9 o10 o11 o12 o13 o14 = some () := by
  obtain ⟨hi1, hi2, hi3, hi4, hi5, esix⟩ := six hL h4 h4b
  obtain ⟨i0, i1, i2, i3, i4, i4o, i5, i6, i13, hlen⟩ := hI
  rw [F_Law_law_322]
  rw [hi1, chk_tr]
  rw [hi2, chk_tr]
  obtain ⟨v81, o_82, ee36, p37⟩ := t_Law_state (xs (Int32.toNatClampNeg (x4 + (1 : Int32)))) (xs (Int32.toNatClampNeg (x4 + (2 : Int32)))) o0 o7 o14 (by assumption)
  rw [ee36, bind2_s]
  obtain ⟨v86, o_87, ee38, md39⟩ := m_state (xs (Int32.toNatClampNeg (x4 + (1 : Int32)))) (xs (Int32.toNatClampNeg (x4 + (2 : Int32)))) o13 (by assumption)
  rw [ee38, bind2_s]
  obtain ⟨hm41, hl40, so42⟩ := md39
  have ql43 := congrArg Int32.toInt hl40
  exact hk _ o0 o1 o2 o3 o4 o5 o6 o7 o8 o9 o10 o11 o12 o_87 o_82 ⟨(by assumption), (by assumption), (by assumption), (by assumption), (by assumption), (by assumption), (by assumption), (by assumption), (by assumption), by omega⟩ esix
set_option maxHeartbeats 1000000 in
theorem lw_size (L : Nat) (xs : Nat → Int32) (k23 : Int32 → Ob → Ob → Ob → Ob → Ob → Ob → Ob → Ob → Ob → Ob → Ob → Ob → Ob → Ob → Ob → Option Unit) (x4 : Int32) (hL : L ≤ 3072) (h4 : 0 ≤ x4.toInt) (h4b : x4.toInt + 6 ≤ L) (hk : ∀ (x : Int32) (o0 o1 o2 o3 o4 o5 o6 o7 o8 o9 o10 o11 o12 o13 o14 : Ob), IV o0 o1 o2 o3 o4 o5 o6 o13 → x.toInt = x4.toInt + 6 → k23 x o0 o1 o2 o3 o4 o5 o6 o7 o8 o9 o10 o11 o12 o13 o14 = some ()) (o0 o1 o2 o3 o4 o5 o6 o7 o8 o9 o10 o11 o12 o13 o14 : Ob) (hI : IV o0 o1 o2 o3 o4 o5 o6 o13) : F_Law_law_362 L xs k23 x4 o0 o1 o2 o3 o4 o5 o6 o7 o8 o9 o10 o11 o12 o13 o14 = some () := by
  obtain ⟨hi1, hi2, hi3, hi4, hi5, esix⟩ := six hL h4 h4b
  obtain ⟨i0, i1, i2, i3, i4, i4o, i5, i6, i13, hlen⟩ := hI
  rw [F_Law_law_362]
  rw [hi1, chk_tr]
  rw [hi2, chk_tr]
  rw [hi3, chk_tr]
  obtain ⟨v92, o_93, ee44, p45⟩ := t_Law_size (xs (Int32.toNatClampNeg (x4 + (1 : Int32)))) (xs (Int32.toNatClampNeg (x4 + (2 : Int32)))) (xs (Int32.toNatClampNeg (x4 + (3 : Int32)))) o0 o7 o14 (by assumption)
  rw [ee44, bind2_s]
  obtain ⟨v98, o_99, ee46, md47⟩ := m_size (xs (Int32.toNatClampNeg (x4 + (1 : Int32)))) (xs (Int32.toNatClampNeg (x4 + (2 : Int32)))) (xs (Int32.toNatClampNeg (x4 + (3 : Int32)))) o13 (by assumption)
  rw [ee46, bind2_s]
  obtain ⟨hm49, hl48, so50⟩ := md47
  have ql51 := congrArg Int32.toInt hl48
  exact hk _ o0 o1 o2 o3 o4 o5 o6 o7 o8 o9 o10 o11 o12 o_99 o_93 ⟨(by assumption), (by assumption), (by assumption), (by assumption), (by assumption), (by assumption), (by assumption), (by assumption), (by assumption), by omega⟩ esix
set_option maxHeartbeats 1000000 in
theorem lw_ring (L : Nat) (xs : Nat → Int32) (k23 : Int32 → Ob → Ob → Ob → Ob → Ob → Ob → Ob → Ob → Ob → Ob → Ob → Ob → Ob → Ob → Ob → Option Unit) (x4 : Int32) (hL : L ≤ 3072) (h4 : 0 ≤ x4.toInt) (h4b : x4.toInt + 6 ≤ L) (hk : ∀ (x : Int32) (o0 o1 o2 o3 o4 o5 o6 o7 o8 o9 o10 o11 o12 o13 o14 : Ob), IV o0 o1 o2 o3 o4 o5 o6 o13 → x.toInt = x4.toInt + 6 → k23 x o0 o1 o2 o3 o4 o5 o6 o7 o8 o9 o10 o11 o12 o13 o14 = some ()) (o0 o1 o2 o3 o4 o5 o6 o7 o8 o9 o10 o11 o12 o13 o14 : Ob) (hI : IV o0 o1 o2 o3 o4 o5 o6 o13) : F_Law_law_414 L xs k23 x4 o0 o1 o2 o3 o4 o5 o6 o7 o8 o9 o10 o11 o12 o13 o14 = some () := by
  obtain ⟨hi1, hi2, hi3, hi4, hi5, esix⟩ := six hL h4 h4b
  obtain ⟨i0, i1, i2, i3, i4, i4o, i5, i6, i13, hlen⟩ := hI
  rw [F_Law_law_414]
  rw [hi1, chk_tr]
  obtain ⟨v102, o_103, ee52, p53⟩ := t_Law_ring (xs (Int32.toNatClampNeg (x4 + (1 : Int32)))) o0 o4 o14 (by assumption) (by assumption)
  rw [ee52, bind2_s]
  obtain ⟨v106, o_107, ee54, md55⟩ := m_ring (xs (Int32.toNatClampNeg (x4 + (1 : Int32)))) o13 (by assumption)
  rw [ee54, bind2_s]
  obtain ⟨hm57, hl56, so58⟩ := md55
  have ql59 := congrArg Int32.toInt hl56
  exact hk _ o0 o1 o2 o3 o4 o5 o6 o7 o8 o9 o10 o11 o12 o_107 o_103 ⟨(by assumption), (by assumption), (by assumption), (by assumption), (by assumption), (by assumption), (by assumption), (by assumption), (by assumption), by omega⟩ esix
set_option maxHeartbeats 1000000 in
theorem lw_condition (L : Nat) (xs : Nat → Int32) (k23 : Int32 → Ob → Ob → Ob → Ob → Ob → Ob → Ob → Ob → Ob → Ob → Ob → Ob → Ob → Ob → Ob → Option Unit) (x4 : Int32) (hL : L ≤ 3072) (h4 : 0 ≤ x4.toInt) (h4b : x4.toInt + 6 ≤ L) (hk : ∀ (x : Int32) (o0 o1 o2 o3 o4 o5 o6 o7 o8 o9 o10 o11 o12 o13 o14 : Ob), IV o0 o1 o2 o3 o4 o5 o6 o13 → x.toInt = x4.toInt + 6 → k23 x o0 o1 o2 o3 o4 o5 o6 o7 o8 o9 o10 o11 o12 o13 o14 = some ()) (o0 o1 o2 o3 o4 o5 o6 o7 o8 o9 o10 o11 o12 o13 o14 : Ob) (hI : IV o0 o1 o2 o3 o4 o5 o6 o13) : F_Law_law_442 L xs k23 x4 o0 o1 o2 o3 o4 o5 o6 o7 o8 o9 o10 o11 o12 o13 o14 = some () := by
  obtain ⟨hi1, hi2, hi3, hi4, hi5, esix⟩ := six hL h4 h4b
  obtain ⟨i0, i1, i2, i3, i4, i4o, i5, i6, i13, hlen⟩ := hI
  rw [F_Law_law_442]
  rw [hi1, chk_tr]
  rw [hi2, chk_tr]
  obtain ⟨v111, o_112, ee60, p61⟩ := t_Law_condition (xs (Int32.toNatClampNeg (x4 + (1 : Int32)))) (xs (Int32.toNatClampNeg (x4 + (2 : Int32)))) o0 o7 o14 (by assumption)
  rw [ee60, bind2_s]
  obtain ⟨v116, o_117, ee62, md63⟩ := m_condition (xs (Int32.toNatClampNeg (x4 + (1 : Int32)))) (xs (Int32.toNatClampNeg (x4 + (2 : Int32)))) o13 (by assumption)
  rw [ee62, bind2_s]
  obtain ⟨hm65, hl64, so66⟩ := md63
  have ql67 := congrArg Int32.toInt hl64
  exact hk _ o0 o1 o2 o3 o4 o5 o6 o7 o8 o9 o10 o11 o12 o_117 o_112 ⟨(by assumption), (by assumption), (by assumption), (by assumption), (by assumption), (by assumption), (by assumption), (by assumption), (by assumption), by omega⟩ esix
set_option maxHeartbeats 1000000 in
theorem lw_line (L : Nat) (xs : Nat → Int32) (k23 : Int32 → Ob → Ob → Ob → Ob → Ob → Ob → Ob → Ob → Ob → Ob → Ob → Ob → Ob → Ob → Ob → Option Unit) (x4 : Int32) (hL : L ≤ 3072) (h4 : 0 ≤ x4.toInt) (h4b : x4.toInt + 6 ≤ L) (hk : ∀ (x : Int32) (o0 o1 o2 o3 o4 o5 o6 o7 o8 o9 o10 o11 o12 o13 o14 : Ob), IV o0 o1 o2 o3 o4 o5 o6 o13 → x.toInt = x4.toInt + 6 → k23 x o0 o1 o2 o3 o4 o5 o6 o7 o8 o9 o10 o11 o12 o13 o14 = some ()) (o0 o1 o2 o3 o4 o5 o6 o7 o8 o9 o10 o11 o12 o13 o14 : Ob) (hI : IV o0 o1 o2 o3 o4 o5 o6 o13) : F_Law_law_482 L xs k23 x4 o0 o1 o2 o3 o4 o5 o6 o7 o8 o9 o10 o11 o12 o13 o14 = some () := by
  obtain ⟨hi1, hi2, hi3, hi4, hi5, esix⟩ := six hL h4 h4b
  obtain ⟨i0, i1, i2, i3, i4, i4o, i5, i6, i13, hlen⟩ := hI
  rw [F_Law_law_482]
  rw [hi1, chk_tr]
  rw [hi2, chk_tr]
  obtain ⟨v121, o_122, ee68, p69⟩ := t_Law_line (xs (Int32.toNatClampNeg (x4 + (1 : Int32)))) (xs (Int32.toNatClampNeg (x4 + (2 : Int32)))) o0 o4 o14 (by assumption) (by assumption)
  rw [ee68, bind2_s]
  obtain ⟨v126, o_127, ee70, md71⟩ := m_line (xs (Int32.toNatClampNeg (x4 + (1 : Int32)))) (xs (Int32.toNatClampNeg (x4 + (2 : Int32)))) o13 (by assumption)
  rw [ee70, bind2_s]
  obtain ⟨hm73, hl72, so74⟩ := md71
  have ql75 := congrArg Int32.toInt hl72
  exact hk _ o0 o1 o2 o3 o4 o5 o6 o7 o8 o9 o10 o11 o12 o_127 o_122 ⟨(by assumption), (by assumption), (by assumption), (by assumption), (by assumption), (by assumption), (by assumption), (by assumption), (by assumption), by omega⟩ esix
set_option maxHeartbeats 1000000 in
theorem lw_needs (L : Nat) (xs : Nat → Int32) (k23 : Int32 → Ob → Ob → Ob → Ob → Ob → Ob → Ob → Ob → Ob → Ob → Ob → Ob → Ob → Ob → Ob → Option Unit) (x4 : Int32) (hL : L ≤ 3072) (h4 : 0 ≤ x4.toInt) (h4b : x4.toInt + 6 ≤ L) (hk : ∀ (x : Int32) (o0 o1 o2 o3 o4 o5 o6 o7 o8 o9 o10 o11 o12 o13 o14 : Ob), IV o0 o1 o2 o3 o4 o5 o6 o13 → x.toInt = x4.toInt + 6 → k23 x o0 o1 o2 o3 o4 o5 o6 o7 o8 o9 o10 o11 o12 o13 o14 = some ()) (o0 o1 o2 o3 o4 o5 o6 o7 o8 o9 o10 o11 o12 o13 o14 : Ob) (hI : IV o0 o1 o2 o3 o4 o5 o6 o13) : F_Law_law_522 L xs k23 x4 o0 o1 o2 o3 o4 o5 o6 o7 o8 o9 o10 o11 o12 o13 o14 = some () := by
  obtain ⟨hi1, hi2, hi3, hi4, hi5, esix⟩ := six hL h4 h4b
  obtain ⟨i0, i1, i2, i3, i4, i4o, i5, i6, i13, hlen⟩ := hI
  rw [F_Law_law_522]
  rw [hi1, chk_tr]
  rw [hi2, chk_tr]
  obtain ⟨v131, o_132, ee76, p77⟩ := t_Law_needs (xs (Int32.toNatClampNeg (x4 + (1 : Int32)))) (xs (Int32.toNatClampNeg (x4 + (2 : Int32)))) o0 o4 o14 (by assumption) (by assumption)
  rw [ee76, bind2_s]
  obtain ⟨v136, o_137, ee78, md79⟩ := m_needs (xs (Int32.toNatClampNeg (x4 + (1 : Int32)))) (xs (Int32.toNatClampNeg (x4 + (2 : Int32)))) o13 (by assumption)
  rw [ee78, bind2_s]
  obtain ⟨hm81, hl80, so82⟩ := md79
  have ql83 := congrArg Int32.toInt hl80
  exact hk _ o0 o1 o2 o3 o4 o5 o6 o7 o8 o9 o10 o11 o12 o_137 o_132 ⟨(by assumption), (by assumption), (by assumption), (by assumption), (by assumption), (by assumption), (by assumption), (by assumption), (by assumption), by omega⟩ esix
set_option maxHeartbeats 1000000 in
theorem lw_limit (L : Nat) (xs : Nat → Int32) (k23 : Int32 → Ob → Ob → Ob → Ob → Ob → Ob → Ob → Ob → Ob → Ob → Ob → Ob → Ob → Ob → Ob → Option Unit) (x4 : Int32) (hL : L ≤ 3072) (h4 : 0 ≤ x4.toInt) (h4b : x4.toInt + 6 ≤ L) (hk : ∀ (x : Int32) (o0 o1 o2 o3 o4 o5 o6 o7 o8 o9 o10 o11 o12 o13 o14 : Ob), IV o0 o1 o2 o3 o4 o5 o6 o13 → x.toInt = x4.toInt + 6 → k23 x o0 o1 o2 o3 o4 o5 o6 o7 o8 o9 o10 o11 o12 o13 o14 = some ()) (o0 o1 o2 o3 o4 o5 o6 o7 o8 o9 o10 o11 o12 o13 o14 : Ob) (hI : IV o0 o1 o2 o3 o4 o5 o6 o13) : F_Law_law_562 L xs k23 x4 o0 o1 o2 o3 o4 o5 o6 o7 o8 o9 o10 o11 o12 o13 o14 = some () := by
  obtain ⟨hi1, hi2, hi3, hi4, hi5, esix⟩ := six hL h4 h4b
  obtain ⟨i0, i1, i2, i3, i4, i4o, i5, i6, i13, hlen⟩ := hI
  rw [F_Law_law_562]
  rw [hi1, chk_tr]
  rw [hi2, chk_tr]
  obtain ⟨v141, o_142, o_143, ee84, p85⟩ := t_Law_limit (xs (Int32.toNatClampNeg (x4 + (1 : Int32)))) (xs (Int32.toNatClampNeg (x4 + (2 : Int32)))) o0 o7 o6 o4 o5 o14 (by assumption) (by assumption) (by assumption) (by assumption)
  rw [ee84, bind3_s]
  obtain ⟨v147, o_148, ee86, md87⟩ := m_limit (xs (Int32.toNatClampNeg (x4 + (1 : Int32)))) (xs (Int32.toNatClampNeg (x4 + (2 : Int32)))) o13 (by assumption)
  rw [ee86, bind2_s]
  obtain ⟨hm89, hl88, so90⟩ := md87
  have ql91 := congrArg Int32.toInt hl88
  exact hk _ o0 o1 o2 o3 o4 o5 o_142 o7 o8 o9 o10 o11 o12 o_148 o_143 ⟨(by assumption), (by assumption), (by assumption), (by assumption), (by assumption), (by assumption), (by assumption), (by assumption), (by assumption), by omega⟩ esix
set_option maxHeartbeats 1000000 in
theorem lw_check (L : Nat) (xs : Nat → Int32) (k23 : Int32 → Ob → Ob → Ob → Ob → Ob → Ob → Ob → Ob → Ob → Ob → Ob → Ob → Ob → Ob → Ob → Option Unit) (x4 : Int32) (hL : L ≤ 3072) (h4 : 0 ≤ x4.toInt) (h4b : x4.toInt + 6 ≤ L) (hk : ∀ (x : Int32) (o0 o1 o2 o3 o4 o5 o6 o7 o8 o9 o10 o11 o12 o13 o14 : Ob), IV o0 o1 o2 o3 o4 o5 o6 o13 → x.toInt = x4.toInt + 6 → k23 x o0 o1 o2 o3 o4 o5 o6 o7 o8 o9 o10 o11 o12 o13 o14 = some ()) (o0 o1 o2 o3 o4 o5 o6 o7 o8 o9 o10 o11 o12 o13 o14 : Ob) (hI : IV o0 o1 o2 o3 o4 o5 o6 o13) : F_Law_law_602 L xs k23 x4 o0 o1 o2 o3 o4 o5 o6 o7 o8 o9 o10 o11 o12 o13 o14 = some () := by
  obtain ⟨hi1, hi2, hi3, hi4, hi5, esix⟩ := six hL h4 h4b
  obtain ⟨i0, i1, i2, i3, i4, i4o, i5, i6, i13, hlen⟩ := hI
  rw [F_Law_law_602]
  rw [hi1, chk_tr]
  obtain ⟨v151, o_152, o_153, o_154, ee92, p93⟩ := t_Law_check (xs (Int32.toNatClampNeg (x4 + (1 : Int32)))) o0 o7 o6 o4 o8 o5 o14 (by assumption) (by assumption) (by assumption) (by assumption) (by assumption)
  rw [ee92, bind4_s]
  obtain ⟨v157, o_158, ee94, md95⟩ := m_check (xs (Int32.toNatClampNeg (x4 + (1 : Int32)))) o13 (by assumption)
  rw [ee94, bind2_s]
  obtain ⟨hm97, hl96, so98⟩ := md95
  have ql99 := congrArg Int32.toInt hl96
  exact hk _ o0 o1 o2 o3 o4 o5 o_152 o7 o_153 o9 o10 o11 o12 o_158 o_154 ⟨(by assumption), (by assumption), (by assumption), (by assumption), (by assumption), (by assumption), (by assumption), (by assumption), (by assumption), by omega⟩ esix
set_option maxHeartbeats 1000000 in
theorem lw_version (L : Nat) (xs : Nat → Int32) (k23 : Int32 → Ob → Ob → Ob → Ob → Ob → Ob → Ob → Ob → Ob → Ob → Ob → Ob → Ob → Ob → Ob → Option Unit) (x4 : Int32) (hL : L ≤ 3072) (h4 : 0 ≤ x4.toInt) (h4b : x4.toInt + 6 ≤ L) (hk : ∀ (x : Int32) (o0 o1 o2 o3 o4 o5 o6 o7 o8 o9 o10 o11 o12 o13 o14 : Ob), IV o0 o1 o2 o3 o4 o5 o6 o13 → x.toInt = x4.toInt + 6 → k23 x o0 o1 o2 o3 o4 o5 o6 o7 o8 o9 o10 o11 o12 o13 o14 = some ()) (o0 o1 o2 o3 o4 o5 o6 o7 o8 o9 o10 o11 o12 o13 o14 : Ob) (hI : IV o0 o1 o2 o3 o4 o5 o6 o13) : F_Law_law_630 L xs k23 x4 o0 o1 o2 o3 o4 o5 o6 o7 o8 o9 o10 o11 o12 o13 o14 = some () := by
  obtain ⟨hi1, hi2, hi3, hi4, hi5, esix⟩ := six hL h4 h4b
  obtain ⟨i0, i1, i2, i3, i4, i4o, i5, i6, i13, hlen⟩ := hI
  rw [F_Law_law_630]
  by_cases c100 : (g32 o0 8 0) = 0
  · rw [if_pos c100]
    obtain ⟨v161, o_162, o_163, o_164, ee101, p102⟩ := t_Law_version o0 o7 o9 o14 (by assumption)
    rw [ee101, bind4_s]
    obtain ⟨v166, o_167, ee103, md104⟩ := m_version o13 (by assumption)
    rw [ee103, bind2_s]
    obtain ⟨hm106, hl105, so107⟩ := md104
    have ql108 := congrArg Int32.toInt hl105
    exact hk _ o_162 o1 o2 o3 o4 o5 o6 o7 o8 o_163 o10 o11 o12 o_167 o_164 ⟨(by assumption), (by assumption), (by assumption), (by assumption), (by assumption), (by assumption), (by assumption), (by assumption), (by assumption), by omega⟩ esix
  · rw [if_neg c100]
    by_cases c109 : (g32 o0 8 0) = 1
    · rw [if_pos c109]
      obtain ⟨v170, o_171, o_172, o_173, ee110, p111⟩ := t_Law_version o0 o7 o10 o14 (by assumption)
      rw [ee110, bind4_s]
      obtain ⟨v175, o_176, ee112, md113⟩ := m_version o13 (by assumption)
      rw [ee112, bind2_s]
      obtain ⟨hm115, hl114, so116⟩ := md113
      have ql117 := congrArg Int32.toInt hl114
      exact hk _ o_171 o1 o2 o3 o4 o5 o6 o7 o8 o9 o_172 o11 o12 o_176 o_173 ⟨(by assumption), (by assumption), (by assumption), (by assumption), (by assumption), (by assumption), (by assumption), (by assumption), (by assumption), by omega⟩ esix
    · rw [if_neg c109]
      by_cases c118 : (g32 o0 8 0) = 2
      · rw [if_pos c118]
        obtain ⟨v179, o_180, o_181, o_182, ee119, p120⟩ := t_Law_version o0 o7 o11 o14 (by assumption)
        rw [ee119, bind4_s]
        obtain ⟨v184, o_185, ee121, md122⟩ := m_version o13 (by assumption)
        rw [ee121, bind2_s]
        obtain ⟨hm124, hl123, so125⟩ := md122
        have ql126 := congrArg Int32.toInt hl123
        exact hk _ o_180 o1 o2 o3 o4 o5 o6 o7 o8 o9 o10 o_181 o12 o_185 o_182 ⟨(by assumption), (by assumption), (by assumption), (by assumption), (by assumption), (by assumption), (by assumption), (by assumption), (by assumption), by omega⟩ esix
      · rw [if_neg c118]
        by_cases c127 : (g32 o0 8 0) = 3
        · rw [if_pos c127]
          obtain ⟨v188, o_189, o_190, o_191, ee128, p129⟩ := t_Law_version o0 o7 o12 o14 (by assumption)
          rw [ee128, bind4_s]
          obtain ⟨v193, o_194, ee130, md131⟩ := m_version o13 (by assumption)
          rw [ee130, bind2_s]
          obtain ⟨hm133, hl132, so134⟩ := md131
          have ql135 := congrArg Int32.toInt hl132
          exact hk _ o_189 o1 o2 o3 o4 o5 o6 o7 o8 o9 o10 o11 o_190 o_194 o_191 ⟨(by assumption), (by assumption), (by assumption), (by assumption), (by assumption), (by assumption), (by assumption), (by assumption), (by assumption), by omega⟩ esix
        · rw [if_neg c127]
          obtain ⟨v197, o_198, o_199, o_200, ee136, p137⟩ := t_Law_version o0 o7 o9 o14 (by assumption)
          rw [ee136, bind4_s]
          obtain ⟨v202, o_203, ee138, md139⟩ := m_version o13 (by assumption)
          rw [ee138, bind2_s]
          obtain ⟨hm141, hl140, so142⟩ := md139
          have ql143 := congrArg Int32.toInt hl140
          exact hk _ o_198 o1 o2 o3 o4 o5 o6 o7 o8 o_199 o10 o11 o12 o_203 o_200 ⟨(by assumption), (by assumption), (by assumption), (by assumption), (by assumption), (by assumption), (by assumption), (by assumption), (by assumption), by omega⟩ esix
set_option maxHeartbeats 1000000 in
theorem lw_differs (L : Nat) (xs : Nat → Int32) (k23 : Int32 → Ob → Ob → Ob → Ob → Ob → Ob → Ob → Ob → Ob → Ob → Ob → Ob → Ob → Ob → Ob → Option Unit) (x4 : Int32) (hL : L ≤ 3072) (h4 : 0 ≤ x4.toInt) (h4b : x4.toInt + 6 ≤ L) (hk : ∀ (x : Int32) (o0 o1 o2 o3 o4 o5 o6 o7 o8 o9 o10 o11 o12 o13 o14 : Ob), IV o0 o1 o2 o3 o4 o5 o6 o13 → x.toInt = x4.toInt + 6 → k23 x o0 o1 o2 o3 o4 o5 o6 o7 o8 o9 o10 o11 o12 o13 o14 = some ()) (o0 o1 o2 o3 o4 o5 o6 o7 o8 o9 o10 o11 o12 o13 o14 : Ob) (hI : IV o0 o1 o2 o3 o4 o5 o6 o13) : F_Law_law_646 L xs k23 x4 o0 o1 o2 o3 o4 o5 o6 o7 o8 o9 o10 o11 o12 o13 o14 = some () := by
  obtain ⟨hi1, hi2, hi3, hi4, hi5, esix⟩ := six hL h4 h4b
  obtain ⟨i0, i1, i2, i3, i4, i4o, i5, i6, i13, hlen⟩ := hI
  rw [F_Law_law_646]
  rw [hi1, chk_tr]
  rw [hi2, chk_tr]
  by_cases c144 : (xs (Int32.toNatClampNeg (x4 + (1 : Int32)))) = 0
  · rw [if_pos c144]
    obtain ⟨v208, o_209, ee145, p146⟩ := t_Law_differs (xs (Int32.toNatClampNeg (x4 + (1 : Int32)))) (xs (Int32.toNatClampNeg (x4 + (2 : Int32)))) o0 o7 o9 o14 (by assumption)
    rw [ee145, bind2_s]
    obtain ⟨v213, o_214, ee147, md148⟩ := m_differs (xs (Int32.toNatClampNeg (x4 + (1 : Int32)))) (xs (Int32.toNatClampNeg (x4 + (2 : Int32)))) o13 (by assumption)
    rw [ee147, bind2_s]
    obtain ⟨hm150, hl149, so151⟩ := md148
    have ql152 := congrArg Int32.toInt hl149
    exact hk _ o0 o1 o2 o3 o4 o5 o6 o7 o8 o9 o10 o11 o12 o_214 o_209 ⟨(by assumption), (by assumption), (by assumption), (by assumption), (by assumption), (by assumption), (by assumption), (by assumption), (by assumption), by omega⟩ esix
  · rw [if_neg c144]
    by_cases c153 : (xs (Int32.toNatClampNeg (x4 + (1 : Int32)))) = 1
    · rw [if_pos c153]
      obtain ⟨v217, o_218, ee154, p155⟩ := t_Law_differs (xs (Int32.toNatClampNeg (x4 + (1 : Int32)))) (xs (Int32.toNatClampNeg (x4 + (2 : Int32)))) o0 o7 o10 o14 (by assumption)
      rw [ee154, bind2_s]
      obtain ⟨v222, o_223, ee156, md157⟩ := m_differs (xs (Int32.toNatClampNeg (x4 + (1 : Int32)))) (xs (Int32.toNatClampNeg (x4 + (2 : Int32)))) o13 (by assumption)
      rw [ee156, bind2_s]
      obtain ⟨hm159, hl158, so160⟩ := md157
      have ql161 := congrArg Int32.toInt hl158
      exact hk _ o0 o1 o2 o3 o4 o5 o6 o7 o8 o9 o10 o11 o12 o_223 o_218 ⟨(by assumption), (by assumption), (by assumption), (by assumption), (by assumption), (by assumption), (by assumption), (by assumption), (by assumption), by omega⟩ esix
    · rw [if_neg c153]
      by_cases c162 : (xs (Int32.toNatClampNeg (x4 + (1 : Int32)))) = 2
      · rw [if_pos c162]
        obtain ⟨v226, o_227, ee163, p164⟩ := t_Law_differs (xs (Int32.toNatClampNeg (x4 + (1 : Int32)))) (xs (Int32.toNatClampNeg (x4 + (2 : Int32)))) o0 o7 o11 o14 (by assumption)
        rw [ee163, bind2_s]
        obtain ⟨v231, o_232, ee165, md166⟩ := m_differs (xs (Int32.toNatClampNeg (x4 + (1 : Int32)))) (xs (Int32.toNatClampNeg (x4 + (2 : Int32)))) o13 (by assumption)
        rw [ee165, bind2_s]
        obtain ⟨hm168, hl167, so169⟩ := md166
        have ql170 := congrArg Int32.toInt hl167
        exact hk _ o0 o1 o2 o3 o4 o5 o6 o7 o8 o9 o10 o11 o12 o_232 o_227 ⟨(by assumption), (by assumption), (by assumption), (by assumption), (by assumption), (by assumption), (by assumption), (by assumption), (by assumption), by omega⟩ esix
      · rw [if_neg c162]
        by_cases c171 : (xs (Int32.toNatClampNeg (x4 + (1 : Int32)))) = 3
        · rw [if_pos c171]
          obtain ⟨v235, o_236, ee172, p173⟩ := t_Law_differs (xs (Int32.toNatClampNeg (x4 + (1 : Int32)))) (xs (Int32.toNatClampNeg (x4 + (2 : Int32)))) o0 o7 o12 o14 (by assumption)
          rw [ee172, bind2_s]
          obtain ⟨v240, o_241, ee174, md175⟩ := m_differs (xs (Int32.toNatClampNeg (x4 + (1 : Int32)))) (xs (Int32.toNatClampNeg (x4 + (2 : Int32)))) o13 (by assumption)
          rw [ee174, bind2_s]
          obtain ⟨hm177, hl176, so178⟩ := md175
          have ql179 := congrArg Int32.toInt hl176
          exact hk _ o0 o1 o2 o3 o4 o5 o6 o7 o8 o9 o10 o11 o12 o_241 o_236 ⟨(by assumption), (by assumption), (by assumption), (by assumption), (by assumption), (by assumption), (by assumption), (by assumption), (by assumption), by omega⟩ esix
        · rw [if_neg c171]
          obtain ⟨v244, o_245, ee180, p181⟩ := t_Law_differs (xs (Int32.toNatClampNeg (x4 + (1 : Int32)))) (xs (Int32.toNatClampNeg (x4 + (2 : Int32)))) o0 o7 o9 o14 (by assumption)
          rw [ee180, bind2_s]
          obtain ⟨v249, o_250, ee182, md183⟩ := m_differs (xs (Int32.toNatClampNeg (x4 + (1 : Int32)))) (xs (Int32.toNatClampNeg (x4 + (2 : Int32)))) o13 (by assumption)
          rw [ee182, bind2_s]
          obtain ⟨hm185, hl184, so186⟩ := md183
          have ql187 := congrArg Int32.toInt hl184
          exact hk _ o0 o1 o2 o3 o4 o5 o6 o7 o8 o9 o10 o11 o12 o_250 o_245 ⟨(by assumption), (by assumption), (by assumption), (by assumption), (by assumption), (by assumption), (by assumption), (by assumption), (by assumption), by omega⟩ esix
set_option maxHeartbeats 1000000 in
theorem lw_same (L : Nat) (xs : Nat → Int32) (k23 : Int32 → Ob → Ob → Ob → Ob → Ob → Ob → Ob → Ob → Ob → Ob → Ob → Ob → Ob → Ob → Ob → Option Unit) (x4 : Int32) (hL : L ≤ 3072) (h4 : 0 ≤ x4.toInt) (h4b : x4.toInt + 6 ≤ L) (hk : ∀ (x : Int32) (o0 o1 o2 o3 o4 o5 o6 o7 o8 o9 o10 o11 o12 o13 o14 : Ob), IV o0 o1 o2 o3 o4 o5 o6 o13 → x.toInt = x4.toInt + 6 → k23 x o0 o1 o2 o3 o4 o5 o6 o7 o8 o9 o10 o11 o12 o13 o14 = some ()) (o0 o1 o2 o3 o4 o5 o6 o7 o8 o9 o10 o11 o12 o13 o14 : Ob) (hI : IV o0 o1 o2 o3 o4 o5 o6 o13) : F_Law_law_686 L xs k23 x4 o0 o1 o2 o3 o4 o5 o6 o7 o8 o9 o10 o11 o12 o13 o14 = some () := by
  obtain ⟨hi1, hi2, hi3, hi4, hi5, esix⟩ := six hL h4 h4b
  obtain ⟨i0, i1, i2, i3, i4, i4o, i5, i6, i13, hlen⟩ := hI
  rw [F_Law_law_686]
  obtain ⟨v252, o_253, o_254, o_255, ee188, p189⟩ := t_Law_same o0 o7 o6 o4 o8 o5 o14 (by assumption) (by assumption) (by assumption) (by assumption) (by assumption)
  rw [ee188, bind4_s]
  obtain ⟨v257, o_258, ee190, md191⟩ := m_same o13 (by assumption)
  rw [ee190, bind2_s]
  obtain ⟨hm193, hl192, so194⟩ := md191
  have ql195 := congrArg Int32.toInt hl192
  exact hk _ o0 o1 o2 o3 o4 o5 o_253 o7 o_254 o9 o10 o11 o12 o_258 o_255 ⟨(by assumption), (by assumption), (by assumption), (by assumption), (by assumption), (by assumption), (by assumption), (by assumption), (by assumption), by omega⟩ esix
set_option maxHeartbeats 1000000 in
theorem lw_reckoned (L : Nat) (xs : Nat → Int32) (k23 : Int32 → Ob → Ob → Ob → Ob → Ob → Ob → Ob → Ob → Ob → Ob → Ob → Ob → Ob → Ob → Ob → Option Unit) (x4 : Int32) (hL : L ≤ 3072) (h4 : 0 ≤ x4.toInt) (h4b : x4.toInt + 6 ≤ L) (hk : ∀ (x : Int32) (o0 o1 o2 o3 o4 o5 o6 o7 o8 o9 o10 o11 o12 o13 o14 : Ob), IV o0 o1 o2 o3 o4 o5 o6 o13 → x.toInt = x4.toInt + 6 → k23 x o0 o1 o2 o3 o4 o5 o6 o7 o8 o9 o10 o11 o12 o13 o14 = some ()) (o0 o1 o2 o3 o4 o5 o6 o7 o8 o9 o10 o11 o12 o13 o14 : Ob) (hI : IV o0 o1 o2 o3 o4 o5 o6 o13) : F_Law_law_702 L xs k23 x4 o0 o1 o2 o3 o4 o5 o6 o7 o8 o9 o10 o11 o12 o13 o14 = some () := by
  obtain ⟨hi1, hi2, hi3, hi4, hi5, esix⟩ := six hL h4 h4b
  obtain ⟨i0, i1, i2, i3, i4, i4o, i5, i6, i13, hlen⟩ := hI
  rw [F_Law_law_702]
  rw [F_PF_reckoned, bind1_s]
  obtain ⟨v262, o_263, ee197, md198⟩ := m_reckonedM o13 (by assumption)
  rw [ee197, bind2_s]
  obtain ⟨hm200, hl199, so201⟩ := md198
  have ql202 := congrArg Int32.toInt hl199
  exact hk _ o0 o1 o2 o3 o4 o5 o6 o7 o8 o9 o10 o11 o12 o_263 o14 ⟨(by assumption), (by assumption), (by assumption), (by assumption), (by assumption), (by assumption), (by assumption), (by assumption), (by assumption), by omega⟩ esix
set_option maxHeartbeats 1000000 in
theorem law_all (L : Nat) (xs : Nat → Int32) (hL : L ≤ 3072) : ∀ (n : Nat) (x4 : Int32) (o0 o1 o2 o3 o4 o5 o6 o7 o8 o9 o10 o11 o12 o13 o14 : Ob), IV o0 o1 o2 o3 o4 o5 o6 o13 → 0 ≤ x4.toInt → x4.toInt ≤ (L : Int) → ((L : Int) - x4.toInt + 5) / 6 < (n : Int) → F_Law_law_23 L xs n x4 o0 o1 o2 o3 o4 o5 o6 o7 o8 o9 o10 o11 o12 o13 o14 = some () := by
  intro n
  induction n with
  | zero =>
    intro x4 o0 o1 o2 o3 o4 o5 o6 o7 o8 o9 o10 o11 o12 o13 o14 _ _ _ _
    exfalso; omega
  | succ n ih =>
    intro x4 o0 o1 o2 o3 o4 o5 o6 o7 o8 o9 o10 o11 o12 o13 o14 hI h4 h4b hn
    have z6 : (6 : Int32).toInt = 6 := rfl
    have eL : (Int32.ofNat L).toInt = L := i32n (by omega)
    have e0 : ((Int32.ofNat L) - (6 : Int32)).toInt = (L : Int) - 6 := by rw [tsub (by omega) (by omega), eL, z6]
    rw [F_Law_law_23]
    by_cases c0 : ((Int32.ofNat L) - (6 : Int32)) < x4
    · rw [if_pos c0]
    rw [if_neg c0]
    have c0 : ¬ ((Int32.ofNat L) - (6 : Int32)).toInt < x4.toInt := fun z => c0 (Int32.lt_iff_toInt_lt.mpr z)
    have h4c : x4.toInt + 6 ≤ (L : Int) := by omega
    obtain ⟨hi1, hi2, hi3, hi4, hi5, e6⟩ := six hL h4 h4c
    rw [show (inb x4 L) = true from inb_iff.mpr ⟨h4, by omega⟩, chk_tr]
    by_cases c203 : ((xs (Int32.toNatClampNeg x4)) &&& (31 : Int32)) = 0
    · rw [if_pos c203]
      exact lw_unit L xs (F_Law_law_23 L xs n) x4 hL h4 h4c (fun x o0 o1 o2 o3 o4 o5 o6 o7 o8 o9 o10 o11 o12 o13 o14 hJ hx => ih x o0 o1 o2 o3 o4 o5 o6 o7 o8 o9 o10 o11 o12 o13 o14 hJ (by omega) (by omega) (by omega)) o0 o1 o2 o3 o4 o5 o6 o7 o8 o9 o10 o11 o12 o13 o14 hI
    · rw [if_neg c203]
      by_cases c204 : ((xs (Int32.toNatClampNeg x4)) &&& (31 : Int32)) = 1
      · rw [if_pos c204]
        exact lw_read L xs (F_Law_law_23 L xs n) x4 hL h4 h4c (fun x o0 o1 o2 o3 o4 o5 o6 o7 o8 o9 o10 o11 o12 o13 o14 hJ hx => ih x o0 o1 o2 o3 o4 o5 o6 o7 o8 o9 o10 o11 o12 o13 o14 hJ (by omega) (by omega) (by omega)) o0 o1 o2 o3 o4 o5 o6 o7 o8 o9 o10 o11 o12 o13 o14 hI
      · rw [if_neg c204]
        by_cases c205 : ((xs (Int32.toNatClampNeg x4)) &&& (31 : Int32)) = 2
        · rw [if_pos c205]
          exact lw_write L xs (F_Law_law_23 L xs n) x4 hL h4 h4c (fun x o0 o1 o2 o3 o4 o5 o6 o7 o8 o9 o10 o11 o12 o13 o14 hJ hx => ih x o0 o1 o2 o3 o4 o5 o6 o7 o8 o9 o10 o11 o12 o13 o14 hJ (by omega) (by omega) (by omega)) o0 o1 o2 o3 o4 o5 o6 o7 o8 o9 o10 o11 o12 o13 o14 hI
        · rw [if_neg c205]
          by_cases c206 : ((xs (Int32.toNatClampNeg x4)) &&& (31 : Int32)) = 3
          · rw [if_pos c206]
            exact lw_set L xs (F_Law_law_23 L xs n) x4 hL h4 h4c (fun x o0 o1 o2 o3 o4 o5 o6 o7 o8 o9 o10 o11 o12 o13 o14 hJ hx => ih x o0 o1 o2 o3 o4 o5 o6 o7 o8 o9 o10 o11 o12 o13 o14 hJ (by omega) (by omega) (by omega)) o0 o1 o2 o3 o4 o5 o6 o7 o8 o9 o10 o11 o12 o13 o14 hI
          · rw [if_neg c206]
            by_cases c207 : ((xs (Int32.toNatClampNeg x4)) &&& (31 : Int32)) = 4
            · rw [if_pos c207]
              exact lw_run L xs (F_Law_law_23 L xs n) x4 hL h4 h4c (fun x o0 o1 o2 o3 o4 o5 o6 o7 o8 o9 o10 o11 o12 o13 o14 hJ hx => ih x o0 o1 o2 o3 o4 o5 o6 o7 o8 o9 o10 o11 o12 o13 o14 hJ (by omega) (by omega) (by omega)) o0 o1 o2 o3 o4 o5 o6 o7 o8 o9 o10 o11 o12 o13 o14 hI
            · rw [if_neg c207]
              by_cases c208 : ((xs (Int32.toNatClampNeg x4)) &&& (31 : Int32)) = 5
              · rw [if_pos c208]
                exact lw_state L xs (F_Law_law_23 L xs n) x4 hL h4 h4c (fun x o0 o1 o2 o3 o4 o5 o6 o7 o8 o9 o10 o11 o12 o13 o14 hJ hx => ih x o0 o1 o2 o3 o4 o5 o6 o7 o8 o9 o10 o11 o12 o13 o14 hJ (by omega) (by omega) (by omega)) o0 o1 o2 o3 o4 o5 o6 o7 o8 o9 o10 o11 o12 o13 o14 hI
              · rw [if_neg c208]
                by_cases c209 : ((xs (Int32.toNatClampNeg x4)) &&& (31 : Int32)) = 6
                · rw [if_pos c209]
                  exact lw_size L xs (F_Law_law_23 L xs n) x4 hL h4 h4c (fun x o0 o1 o2 o3 o4 o5 o6 o7 o8 o9 o10 o11 o12 o13 o14 hJ hx => ih x o0 o1 o2 o3 o4 o5 o6 o7 o8 o9 o10 o11 o12 o13 o14 hJ (by omega) (by omega) (by omega)) o0 o1 o2 o3 o4 o5 o6 o7 o8 o9 o10 o11 o12 o13 o14 hI
                · rw [if_neg c209]
                  by_cases c210 : ((xs (Int32.toNatClampNeg x4)) &&& (31 : Int32)) = 7
                  · rw [if_pos c210]
                    exact lw_ring L xs (F_Law_law_23 L xs n) x4 hL h4 h4c (fun x o0 o1 o2 o3 o4 o5 o6 o7 o8 o9 o10 o11 o12 o13 o14 hJ hx => ih x o0 o1 o2 o3 o4 o5 o6 o7 o8 o9 o10 o11 o12 o13 o14 hJ (by omega) (by omega) (by omega)) o0 o1 o2 o3 o4 o5 o6 o7 o8 o9 o10 o11 o12 o13 o14 hI
                  · rw [if_neg c210]
                    by_cases c211 : ((xs (Int32.toNatClampNeg x4)) &&& (31 : Int32)) = 8
                    · rw [if_pos c211]
                      exact lw_condition L xs (F_Law_law_23 L xs n) x4 hL h4 h4c (fun x o0 o1 o2 o3 o4 o5 o6 o7 o8 o9 o10 o11 o12 o13 o14 hJ hx => ih x o0 o1 o2 o3 o4 o5 o6 o7 o8 o9 o10 o11 o12 o13 o14 hJ (by omega) (by omega) (by omega)) o0 o1 o2 o3 o4 o5 o6 o7 o8 o9 o10 o11 o12 o13 o14 hI
                    · rw [if_neg c211]
                      by_cases c212 : ((xs (Int32.toNatClampNeg x4)) &&& (31 : Int32)) = 9
                      · rw [if_pos c212]
                        exact lw_line L xs (F_Law_law_23 L xs n) x4 hL h4 h4c (fun x o0 o1 o2 o3 o4 o5 o6 o7 o8 o9 o10 o11 o12 o13 o14 hJ hx => ih x o0 o1 o2 o3 o4 o5 o6 o7 o8 o9 o10 o11 o12 o13 o14 hJ (by omega) (by omega) (by omega)) o0 o1 o2 o3 o4 o5 o6 o7 o8 o9 o10 o11 o12 o13 o14 hI
                      · rw [if_neg c212]
                        by_cases c213 : ((xs (Int32.toNatClampNeg x4)) &&& (31 : Int32)) = 10
                        · rw [if_pos c213]
                          exact lw_needs L xs (F_Law_law_23 L xs n) x4 hL h4 h4c (fun x o0 o1 o2 o3 o4 o5 o6 o7 o8 o9 o10 o11 o12 o13 o14 hJ hx => ih x o0 o1 o2 o3 o4 o5 o6 o7 o8 o9 o10 o11 o12 o13 o14 hJ (by omega) (by omega) (by omega)) o0 o1 o2 o3 o4 o5 o6 o7 o8 o9 o10 o11 o12 o13 o14 hI
                        · rw [if_neg c213]
                          by_cases c214 : ((xs (Int32.toNatClampNeg x4)) &&& (31 : Int32)) = 11
                          · rw [if_pos c214]
                            exact lw_limit L xs (F_Law_law_23 L xs n) x4 hL h4 h4c (fun x o0 o1 o2 o3 o4 o5 o6 o7 o8 o9 o10 o11 o12 o13 o14 hJ hx => ih x o0 o1 o2 o3 o4 o5 o6 o7 o8 o9 o10 o11 o12 o13 o14 hJ (by omega) (by omega) (by omega)) o0 o1 o2 o3 o4 o5 o6 o7 o8 o9 o10 o11 o12 o13 o14 hI
                          · rw [if_neg c214]
                            by_cases c215 : ((xs (Int32.toNatClampNeg x4)) &&& (31 : Int32)) = 12
                            · rw [if_pos c215]
                              exact lw_check L xs (F_Law_law_23 L xs n) x4 hL h4 h4c (fun x o0 o1 o2 o3 o4 o5 o6 o7 o8 o9 o10 o11 o12 o13 o14 hJ hx => ih x o0 o1 o2 o3 o4 o5 o6 o7 o8 o9 o10 o11 o12 o13 o14 hJ (by omega) (by omega) (by omega)) o0 o1 o2 o3 o4 o5 o6 o7 o8 o9 o10 o11 o12 o13 o14 hI
                            · rw [if_neg c215]
                              by_cases c216 : ((xs (Int32.toNatClampNeg x4)) &&& (31 : Int32)) = 13
                              · rw [if_pos c216]
                                exact lw_version L xs (F_Law_law_23 L xs n) x4 hL h4 h4c (fun x o0 o1 o2 o3 o4 o5 o6 o7 o8 o9 o10 o11 o12 o13 o14 hJ hx => ih x o0 o1 o2 o3 o4 o5 o6 o7 o8 o9 o10 o11 o12 o13 o14 hJ (by omega) (by omega) (by omega)) o0 o1 o2 o3 o4 o5 o6 o7 o8 o9 o10 o11 o12 o13 o14 hI
                              · rw [if_neg c216]
                                by_cases c217 : ((xs (Int32.toNatClampNeg x4)) &&& (31 : Int32)) = 14
                                · rw [if_pos c217]
                                  exact lw_differs L xs (F_Law_law_23 L xs n) x4 hL h4 h4c (fun x o0 o1 o2 o3 o4 o5 o6 o7 o8 o9 o10 o11 o12 o13 o14 hJ hx => ih x o0 o1 o2 o3 o4 o5 o6 o7 o8 o9 o10 o11 o12 o13 o14 hJ (by omega) (by omega) (by omega)) o0 o1 o2 o3 o4 o5 o6 o7 o8 o9 o10 o11 o12 o13 o14 hI
                                · rw [if_neg c217]
                                  by_cases c218 : ((xs (Int32.toNatClampNeg x4)) &&& (31 : Int32)) = 15
                                  · rw [if_pos c218]
                                    exact lw_same L xs (F_Law_law_23 L xs n) x4 hL h4 h4c (fun x o0 o1 o2 o3 o4 o5 o6 o7 o8 o9 o10 o11 o12 o13 o14 hJ hx => ih x o0 o1 o2 o3 o4 o5 o6 o7 o8 o9 o10 o11 o12 o13 o14 hJ (by omega) (by omega) (by omega)) o0 o1 o2 o3 o4 o5 o6 o7 o8 o9 o10 o11 o12 o13 o14 hI
                                  · rw [if_neg c218]
                                    by_cases c219 : ((xs (Int32.toNatClampNeg x4)) &&& (31 : Int32)) = 16
                                    · rw [if_pos c219]
                                      exact lw_reckoned L xs (F_Law_law_23 L xs n) x4 hL h4 h4c (fun x o0 o1 o2 o3 o4 o5 o6 o7 o8 o9 o10 o11 o12 o13 o14 hJ hx => ih x o0 o1 o2 o3 o4 o5 o6 o7 o8 o9 o10 o11 o12 o13 o14 hJ (by omega) (by omega) (by omega)) o0 o1 o2 o3 o4 o5 o6 o7 o8 o9 o10 o11 o12 o13 o14 hI
                                    · rw [if_neg c219]
                                      exact ih (x4 + (6 : Int32)) o0 o1 o2 o3 o4 o5 o6 o7 o8 o9 o10 o11 o12 o13 o14 hI (by rw [e6]; omega) (by rw [e6]; omega) (by rw [e6]; omega)
theorem fresh_IV : IV ob0 ob0 ob0 ob0 ob0 ob0 oReckoner0 oMod0 := by
  have z : ∀ k i, g32 ob0 k i = 0 := fun _ _ => rfl
  have zm : ∀ k i, g32 oMod0 k i = 0 := fun _ _ => rfl
  have z0 : (0 : Int32).toInt = 0 := rfl
  have ar : ∀ (k : Nat) (lo hi : Int), lo ≤ 0 → 0 ≤ hi → AR ob0 k lo hi := fun k lo hi a b j => by rw [z]; exact ⟨a, b⟩
  have okT : okText ob0 := ⟨by rw [z]; omega, by rw [z]; omega, by rw [z]; omega, by rw [z]; omega, ar _ _ _ (by omega) (by omega), ar _ _ _ (by omega) (by omega), by rw [z]; omega, by rw [z]; omega, ar _ _ _ (by omega) (by omega)⟩
  have okS : okSteps ob0 := ⟨by rw [z]; omega, by rw [z]; omega, by rw [z]; omega, by rw [z]; omega, ar _ _ _ (by omega) (by omega), fun j => ⟨fun h => by rw [z] at h; exact absurd h (by decide), fun h => by rw [z] at h; exact absurd h (by decide)⟩⟩
  have l0 : (0 : Int64).toInt = 0 := by decide
  have l1 : (1 : Int64).toInt = 1 := by decide
  have m15 : ∀ j, g64 oMod0 15 j = 0 := fun _ => rfl
  have m16 : ∀ j : Nat, j < 8 → g64 oMod0 16 j = 1 := fun j h => by
    rcases j with _ | _ | _ | _ | _ | _ | _ | _ | j <;> first | rfl | omega
  have r0 : ∀ j, g64 oReckoner0 0 j = 0 := fun _ => rfl
  have r1 : ∀ j : Nat, j < 8 → g64 oReckoner0 1 j = 1 := fun j h => by
    rcases j with _ | _ | _ | _ | _ | _ | _ | _ | j <;> first | rfl | omega
  have rh : g32 oReckoner0 4 0 = 0 := rfl
  exact ⟨⟨by rw [z]; omega, by rw [z]; omega⟩, ⟨by rw [z]; omega, by rw [z]; omega, ar _ _ _ (by omega) (by omega), ar _ _ _ (by omega) (by omega)⟩, okT, okS, okT, OC.none (by rw [z]; omega), okS, ⟨by rw [rh]; omega, by rw [rh]; omega⟩, ⟨⟨⟨by rw [zm]; omega, by rw [zm]; omega, fun j => by rw [zm]; omega⟩, fun j hj => by rw [m15, m16 j hj]; unfold gv; omega, fun j hj h => by rw [zm] at h; omega, Or.inl ⟨by rw [zm]; omega, by rw [zm]; omega⟩⟩, fun j => by rw [zm]; omega⟩, by rw [z, zm]⟩
theorem law_pure (L : Nat) (hL : L ≤ 3072) (xs : Nat → Int32) : F_Law_law_23 L xs 520 0 ob0 ob0 ob0 ob0 ob0 ob0 oReckoner0 ob0 ob0 ob0 ob0 ob0 ob0 oMod0 ob0 = some () := by
  have z0 : (0 : Int32).toInt = 0 := rfl
  exact law_all L xs hL 520 0 _ _ _ _ _ _ _ _ _ _ _ _ _ _ _ fresh_IV (by omega) (by omega) (by omega)

