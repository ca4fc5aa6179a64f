/-! THE REFERENCE: reading an expression -/
def isbin (x : Int32) : Prop := 5 ≤ x.toInt ∧ x.toInt ≤ 8
theorem isbin_dec (x : Int32) : isbin x ∨ ¬ isbin x := by unfold isbin; omega
def cB (f : Nat → Int32) : Nat → Int
  | 0 => 0
  | n + 1 => cB f n + (if 5 ≤ (f n).toInt ∧ (f n).toInt ≤ 8 then 1 else 0)
theorem cB_0le (f : Nat → Int32) : ∀ n, 0 ≤ cB f n
  | 0 => Int.le_refl 0
  | n + 1 => by
    have h := cB_0le f n
    show 0 ≤ cB f n + (if 5 ≤ (f n).toInt ∧ (f n).toInt ≤ 8 then 1 else 0)
    split <;> omega
theorem cB_upd (f : Nat → Int32) (x : Int32) (i : Nat) : ∀ n, n ≤ i → cB (upd f i x) n = cB f n
  | 0, _ => rfl
  | n + 1, h => by
    show cB (upd f i x) n + (if 5 ≤ (upd f i x n).toInt ∧ (upd f i x n).toInt ≤ 8 then 1 else 0) = cB f n + (if 5 ≤ (f n).toInt ∧ (f n).toInt ≤ 8 then 1 else 0)
    have e : upd f i x n = f n := if_neg (by omega)
    rw [cB_upd f x i n (by omega), e]
theorem cB_push (f : Nat → Int32) (x : Int32) (n : Nat) : cB (upd f n x) (n + 1) = cB f n + (if 5 ≤ x.toInt ∧ x.toInt ≤ 8 then 1 else 0) := by
  show cB (upd f n x) n + (if 5 ≤ (upd f n x n).toInt ∧ (upd f n x n).toInt ≤ 8 then 1 else 0) = _
  have e : upd f n x n = x := if_pos rfl
  rw [cB_upd f x n n (Nat.le_refl n), e]
def wq (f : Nat → Int32) (n : Nat) : Prop := ∀ j, j < n → 4 ≤ (f j).toInt ∧ ((f j).toInt ≤ 8 ∨ (f j).toInt = 11)
theorem wq_push {f : Nat → Int32} {n : Nat} {x : Int32} (h : wq f n) (hx : 4 ≤ x.toInt ∧ (x.toInt ≤ 8 ∨ x.toInt = 11)) : wq (upd f n x) (n + 1) := fun j hj => by
  by_cases c : j = n
  · have e : upd f n x j = x := if_pos c
    rw [e]; exact hx
  · have e : upd f n x j = f j := if_neg c
    rw [e]; exact h j (by omega)
theorem dep_upd {sg : Nat → Int32} {b m : Nat} {x : Int32} : ∀ n, b + n ≤ m → dep (upd sg m x) b n = dep sg b n := fun n h => dep_ext n (fun k hk => if_neg (by omega))
theorem wsm_upd {sg ag : Nat → Int32} {b m : Nat} {x y : Int32} : ∀ n, b + n ≤ m → wsm (upd sg m x) (upd ag m y) b n = wsm sg ag b n := fun n h => wsm_ext n (fun k hk => if_neg (by omega)) (fun k hk => if_neg (by omega))
theorem SEG_app {sg ag : Nat → Int32} {b n : Nat} {x y : Int32} (h : SEG sg ag b n) (hx : okst x y (dep sg b n)) : SEG (upd sg (b + n) x) (upd ag (b + n) y) b (n + 1) := fun k hk => by
  by_cases c : k = n
  · have e1 : upd sg (b + n) x (b + k) = x := if_pos (by rw [c])
    have e2 : upd ag (b + n) y (b + k) = y := if_pos (by rw [c])
    rw [e1, e2, dep_upd k (by omega), c]; exact hx
  · have e1 : upd sg (b + n) x (b + k) = sg (b + k) := if_neg (by omega)
    have e2 : upd ag (b + n) y (b + k) = ag (b + k) := if_neg (by omega)
    rw [e1, e2, dep_upd k (by omega)]; exact h k (by omega)
theorem dep_app {sg : Nat → Int32} {b n : Nat} {x : Int32} : dep (upd sg (b + n) x) b (n + 1) = nxt x (dep sg b n) := by
  show nxt (upd sg (b + n) x (b + n)) (dep (upd sg (b + n) x) b n) = _
  have e1 : upd sg (b + n) x (b + n) = x := if_pos rfl
  rw [e1, dep_upd n (Nat.le_refl _)]
theorem wsm_app {sg ag : Nat → Int32} {b n : Nat} {x y : Int32} : wsm (upd sg (b + n) x) (upd ag (b + n) y) b (n + 1) = wsm sg ag b n + wt x y := by
  show wsm (upd sg (b + n) x) (upd ag (b + n) y) b n + wt (upd sg (b + n) x (b + n)) (upd ag (b + n) y (b + n)) = _
  have e1 : upd sg (b + n) x (b + n) = x := if_pos rfl
  have e2 : upd ag (b + n) y (b + n) = y := if_pos rfl
  rw [e1, e2, wsm_upd n (Nat.le_refl _)]
/-- a statement's signs so far: depth D, weight within A -/
def DS (sg ag : Nat → Int32) (b n : Nat) (D A : Int) : Prop := b ≤ n ∧ SEG sg ag (500 + b) (n - b) ∧ dep sg (500 + b) (n - b) = D ∧ wsm sg ag 500 n + D ≤ A
theorem DS.app {sg ag : Nat → Int32} {b n : Nat} {D A B : Int} {x y : Int32} (h : DS sg ag b n D A) (hx : okst x y D) (hw : wt x y + nxt x D ≤ D + B) : DS (upd sg (500 + n) x) (upd ag (500 + n) y) b (n + 1) (nxt x D) (A + B) := by
  obtain ⟨h1, h2, h3, h4⟩ := h
  have e : 500 + n = 500 + b + (n - b) := by omega
  have e2 : n + 1 - b = (n - b) + 1 := by omega
  refine ⟨by omega, ?_, ?_, ?_⟩
  · rw [e, e2]; exact SEG_app h2 (by rw [h3]; exact hx)
  · rw [e, e2, dep_app, h3]
  · rw [wsm_app]; omega
theorem DS.mono {sg ag : Nat → Int32} {b n : Nat} {D A A' : Int} (h : DS sg ag b n D A) (hA : A ≤ A') : DS sg ag b n D A' := ⟨h.1, h.2.1, h.2.2.1, by have := h.2.2.2; omega⟩
/-- and with operators that wait -/
def DJ (sg ag W : Nat → Int32) (b n wn : Nat) (bd w A : Int) : Prop := DS sg ag b n (bd + cB W wn + w) (A - 2 * wn) ∧ wq W wn
theorem nxt_op {x : Int32} (h0 : x.toInt ≤ 3) (d : Int) : nxt x d = d + 1 := by unfold nxt; rw [if_pos h0]
theorem nxt_4 {x : Int32} (h0 : x.toInt = 4) (d : Int) : nxt x d = d := by unfold nxt; rw [if_neg (by omega), if_pos h0]
theorem nxt_b {x : Int32} (h0 : 5 ≤ x.toInt) (h1 : x.toInt ≤ 8) (d : Int) : nxt x d = d - 1 := by unfold nxt; rw [if_neg (by omega), if_neg (by omega), if_pos h1]
theorem nxt_9 {x : Int32} (h0 : 9 ≤ x.toInt) (d : Int) : nxt x d = 0 := by unfold nxt; rw [if_neg (by omega), if_neg (by omega), if_neg (by omega)]
theorem DJ.operand {sg ag W : Nat → Int32} {b n wn : Nat} {bd A B : Int} {x y : Int32} (h : DJ sg ag W b n wn bd 0 A) (h0 : x.toInt ≤ 3) (hx : okst x y (bd + cB W wn)) (hw : wt x y + 1 ≤ B) : DJ (upd sg (500 + n) x) (upd ag (500 + n) y) W b (n + 1) wn bd 1 (A + B) := by
  have e := nxt_op h0 (bd + cB W wn + 0)
  have q := h.1.app (x := x) (y := y) (B := B) (by rw [Int.add_zero]; exact hx) (by rw [e]; omega)
  rw [e] at q
  exact ⟨⟨q.1, q.2.1, by have := q.2.2.1; omega, by have := q.2.2.2; omega⟩, h.2⟩
theorem DJ.pushp {sg ag W : Nat → Int32} {b n wn : Nat} {bd A : Int} {x : Int32} (h : DJ sg ag W b n wn bd 0 A) (hx : x.toInt = 4 ∨ x.toInt = 11) : DJ sg ag (upd W wn x) b n (wn + 1) bd 0 (A + 2) := by
  refine ⟨?_, wq_push h.2 (by omega)⟩
  rw [cB_push, if_neg (by omega)]
  exact ⟨h.1.1, h.1.2.1, by have := h.1.2.2.1; omega, by have := h.1.2.2.2; omega⟩
theorem DJ.pushb {sg ag W : Nat → Int32} {b n wn : Nat} {bd A : Int} {x : Int32} (h : DJ sg ag W b n wn bd 1 A) (h0 : 5 ≤ x.toInt) (h1 : x.toInt ≤ 8) : DJ sg ag (upd W wn x) b n (wn + 1) bd 0 (A + 2) := by
  refine ⟨?_, wq_push h.2 (by omega)⟩
  rw [cB_push, if_pos ⟨h0, h1⟩]
  exact ⟨h.1.1, h.1.2.1, by have := h.1.2.2.1; omega, by have := h.1.2.2.2; omega⟩
theorem wt_4 {x y : Int32} (h : x.toInt = 4) : wt x y = 1 := by
  unfold wt; rw [if_neg (by omega), if_neg (by omega), if_neg (by omega), if_pos h]
theorem wt_b {x y : Int32} (h0 : 5 ≤ x.toInt) (h1 : x.toInt ≤ 8) : wt x y = 3 := by
  unfold wt; rw [if_neg (by omega), if_neg (by omega), if_neg (by omega), if_neg (by omega), if_pos h1]
theorem wt_9 {x y : Int32} (h : x.toInt = 9) : wt x y = 2 := by
  unfold wt; rw [if_neg (by omega), if_neg (by omega), if_neg (by omega), if_neg (by omega), if_neg (by omega), if_pos h]
theorem wt_10 {x y : Int32} (h : x.toInt = 10) : wt x y = 1 := by
  unfold wt; rw [if_neg (by omega), if_neg (by omega), if_neg (by omega), if_neg (by omega), if_neg (by omega), if_neg (by omega)]
theorem DJ.pop {sg ag W : Nat → Int32} {b n wn : Nat} {bd A : Int} {y : Int32} (h : DJ sg ag W b n (wn + 1) bd 1 A) (hbd : 0 ≤ bd) (hn : ¬ (W wn).toInt = 11) : DJ (upd sg (500 + n) (W wn)) (upd ag (500 + n) y) W b (n + 1) wn bd 1 A := by
  have hq := h.2 wn (by omega)
  have hcb := cB_0le W wn
  have ecb : cB W (wn + 1) = cB W wn + (if 5 ≤ (W wn).toInt ∧ (W wn).toInt ≤ 8 then 1 else 0) := rfl
  have hq2 : wq W wn := fun j hj => h.2 j (by omega)
  by_cases c : (W wn).toInt = 4
  · rw [if_neg (by omega)] at ecb
    have e := nxt_4 c (bd + cB W (wn + 1) + 1)
    have q := h.1.app (x := W wn) (y := y) (B := 1) ⟨by omega, fun z => by omega, fun z => by omega, fun z => by omega, fun _ => by omega, fun z _ => by omega, fun z => by omega, fun z => by omega⟩ (by rw [e, wt_4 c]; omega)
    rw [e] at q
    exact ⟨⟨q.1, q.2.1, by have := q.2.2.1; omega, by have := q.2.2.2; omega⟩, hq2⟩
  · rw [if_pos (by omega)] at ecb
    have e := nxt_b (x := W wn) (by omega) (by omega) (bd + cB W (wn + 1) + 1)
    have q := h.1.app (x := W wn) (y := y) (B := 2) ⟨by omega, fun z => by omega, fun z => by omega, fun z => by omega, fun _ => by omega, fun _ _ => by omega, fun z => by omega, fun z => by omega⟩ (by rw [e, wt_b (by omega) (by omega)]; omega)
    rw [e] at q
    exact ⟨⟨q.1, q.2.1, by have := q.2.2.1; omega, by have := q.2.2.2; omega⟩, hq2⟩
theorem DJ.drop {sg ag W : Nat → Int32} {b n wn : Nat} {bd w A : Int} (h : DJ sg ag W b n (wn + 1) bd w A) (hn : (W wn).toInt = 11) : DJ sg ag W b n wn bd w A := by
  have ecb : cB W (wn + 1) = cB W wn + (if 5 ≤ (W wn).toInt ∧ (W wn).toInt ≤ 8 then 1 else 0) := rfl
  rw [if_neg (by omega)] at ecb
  exact ⟨⟨h.1.1, h.1.2.1, by have := h.1.2.2.1; omega, by have := h.1.2.2.2; omega⟩, fun j hj => h.2 j (by omega)⟩
theorem DJ.mono {sg ag W : Nat → Int32} {b n wn : Nat} {bd w A A' : Int} (h : DJ sg ag W b n wn bd w A) (hA : A ≤ A') : DJ sg ag W b n wn bd w A' := ⟨h.1.mono (by omega), h.2⟩
