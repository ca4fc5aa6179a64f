/-! THE LAW: classes of the tables -/
set_option maxHeartbeats 4000000 in
theorem law_K {s : State} {a : Array Value} (hts : ∀ w ∈ wsAll, w.before a s = true) (hao : va_AO "PartFormulas$Cells" s) : ∃ (dC : Nat → ClassId) (dI : Nat → Nat → Nat) (ct : Nat → ClassId), va_K (dC, dI) vwCl (tyA ct) s := by
  obtain ⟨c0, i0, k0⟩ := u_known (C := R_Steps) (T := T_Steps) (N := 7) (n := 7) hts in_Steps (hts _ ins_Steps)
  obtain ⟨c1, i1, k1⟩ := u_known (C := R_Cells) (T := T_Cells) (N := 4) (n := 4) hts in_Cells (hts _ ins_Cells)
  obtain ⟨c2, i2, k2⟩ := u_known (C := R_Text) (T := T_Text) (N := 12) (n := 12) hts in_Text (hts _ ins_Text)
  obtain ⟨c3, i3, k3⟩ := u_known (C := R_Reader) (T := T_Reader) (N := 12) (n := 12) hts in_Reader (hts _ ins_Reader)
  obtain ⟨c4, i4, k4⟩ := u_known (C := R_Reckoner) (T := T_Reckoner) (N := 6) (n := 6) hts in_Reckoner (hts _ ins_Reckoner)
  obtain ⟨c5, i5, k5⟩ := u_known (C := R_PF) (T := T_PF) (N := 10) (n := 10) hts in_PF (hts _ ins_PF)
  obtain ⟨c6, i6, k6⟩ := u_known (C := R_Mod) (T := T_Mod) (N := 36) (n := 36) hts in_Mod (hts _ ins_Mod)
  obtain ⟨t0, ka0, cp0, f0, g0, h0⟩ := Cond.arrayClass_spec (hts _ ac_int)
  obtain ⟨t1, ka1, cp1, f1, g1, h1⟩ := Cond.arrayClass_spec (hts _ ac_long)
  obtain ⟨t2, ka2, cp2, f2, g2, h2⟩ := Cond.arrayClass_spec (hts _ ac_char)
  obtain ⟨t3, ka3, cp3, f3, g3, h3⟩ := Cond.arrayClass_spec (hts _ ac_boolean)
  obtain ⟨comp, t4, k4a, e1, -, e3, e4, e5⟩ := Cond.arrayOver_spec (va_AO.use (A := a) hao)
  refine ⟨fun k => [c0, c1, c2, c3, c4, c5, c6].getD k 0, fun k => [i0, i1, i2, i3, i4, i5, i6].getD k (fun _ => 0), fun k => [t0, t1, t2, t3, t4].getD k 0, ?_, ?_⟩
  · intro k q hq
    match k, hq with
    | 0, hq => cases hq; exact k0
    | 1, hq => cases hq; exact k1
    | 2, hq => cases hq; exact k2
    | 3, hq => cases hq; exact k3
    | 4, hq => cases hq; exact k4
    | 5, hq => cases hq; exact k5
    | 6, hq => cases hq; exact k6
    | k + 7, hq => simp at hq
  · intro k q hq
    match k, hq with
    | 0, hq => cases hq; exact ⟨fun n z => ⟨fun k h => (by cases h), ka0, g0, cp0, h0⟩, f0⟩
    | 1, hq => cases hq; exact ⟨fun n z => ⟨fun k h => (by cases h), ka1, g1, cp1, h1⟩, f1⟩
    | 2, hq => cases hq; exact ⟨fun n z => ⟨fun k h => (by cases h), ka2, g2, cp2, h2⟩, f2⟩
    | 3, hq => cases hq; exact ⟨fun n z => ⟨fun k h => (by cases h), ka3, g3, cp3, h3⟩, f3⟩
    | 4, hq => cases hq; exact ⟨fun n z => ⟨fun k h => (by cases h), k4a, e3, comp, e4⟩, ⟨k4a, comp, e3, e4, e1, e5⟩⟩
    | k + 5, hq => simp at hq
