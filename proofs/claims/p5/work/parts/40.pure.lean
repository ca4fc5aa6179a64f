/-! PURE: reading what was written -/
theorem g32_s32 (o : Ob) (k i : Nat) (v : Int32) (k' j : Nat) : g32 (s32 o k i v) k' j = if k' = k then (if j = i then v else g32 o k' j) else g32 o k' j := by
  unfold g32 s32
  by_cases h : k' = k
  · simp only [h, if_true, upd]
  · simp only [h, if_false]
theorem g32_same (o : Ob) (k i : Nat) (v : Int32) (j : Nat) : g32 (s32 o k i v) k j = if j = i then v else g32 o k j := by rw [g32_s32, if_pos rfl]
theorem g32_self (o : Ob) (k i : Nat) (v : Int32) : g32 (s32 o k i v) k i = v := by rw [g32_same, if_pos rfl]
theorem g32_other (o : Ob) {k i : Nat} {v : Int32} {k' j : Nat} (h : k' ≠ k) : g32 (s32 o k i v) k' j = g32 o k' j := by rw [g32_s32, if_neg h]
theorem g32_s64 (o : Ob) (k i : Nat) (v : Int64) (k' j : Nat) : g32 (s64 o k i v) k' j = g32 o k' j := rfl
theorem g64_s32 (o : Ob) (k i : Nat) (v : Int32) (k' j : Nat) : g64 (s32 o k i v) k' j = g64 o k' j := rfl
theorem g64_s64 (o : Ob) (k i : Nat) (v : Int64) (k' j : Nat) : g64 (s64 o k i v) k' j = if k' = k then (if j = i then v else g64 o k' j) else g64 o k' j := by
  unfold g64 s64
  by_cases h : k' = k
  · simp only [h, if_true, vp_updL]
  · simp only [h, if_false]
theorem g64_same (o : Ob) (k i : Nat) (v : Int64) (j : Nat) : g64 (s64 o k i v) k j = if j = i then v else g64 o k j := by rw [g64_s64, if_pos rfl]
theorem g64_self (o : Ob) (k i : Nat) (v : Int64) : g64 (s64 o k i v) k i = v := by rw [g64_same, if_pos rfl]
theorem g64_other (o : Ob) {k i : Nat} {v : Int64} {k' j : Nat} (h : k' ≠ k) : g64 (s64 o k i v) k' j = g64 o k' j := by rw [g64_s64, if_neg h]
