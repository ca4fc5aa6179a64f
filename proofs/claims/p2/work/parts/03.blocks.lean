/-! BLOCKS: a method's world is a row of blocks (an object and the arrays that it owns); what an object holds is a pair of tables (ints, longs), by the number of the field and the place -/
/-- what an object holds: ints (also booleans and chars) and longs; a plain field lies at place 0 -/
abbrev Ob : Type := (Nat → Nat → Int32) × (Nat → Nat → Int64)
def g32 (o : Ob) (k i : Nat) : Int32 := o.1 k i
def g64 (o : Ob) (k i : Nat) : Int64 := o.2 k i
def s32 (o : Ob) (k i : Nat) (v : Int32) : Ob := (fun r => if r = k then upd (o.1 r) i v else o.1 r, o.2)
def s64 (o : Ob) (k i : Nat) (v : Int64) : Ob := (o.1, fun r => if r = k then vp_updL (o.2 r) i v else o.2 r)
/-- a row of ints (longs) of an object, as it is copied from another one -/
def p32 (o : Ob) (k : Nat) (f : Nat → Int32) : Ob := (fun r => if r = k then f else o.1 r, o.2)
def p64 (o : Ob) (k : Nat) (f : Nat → Int64) : Ob := (o.1, fun r => if r = k then f else o.2 r)
def b2i (b : Bool) : Int32 := bif b then 1 else 0
theorem b2i_0 {b : Bool} : b2i b = 0 ↔ b = false := by cases b <;> simp [b2i]
theorem b2i_nar (b : Bool) : narrow .boolean (.int (b2i b)) = .int (b2i b) := by cases b <;> rfl
theorem b2i_fit (b : Bool) : fits .boolean (.int (b2i b)) = true := by cases b <;> rfl
/-- a place is inside -/
def inb (i : Int32) (n : Nat) : Bool := decide (0 ≤ i) && decide (i.toNatClampNeg < n)
theorem inb_in {i : Int32} {n : Nat} (h : inb i n = true) : vp_in i n := by
  simp only [inb, Bool.and_eq_true, decide_eq_true_eq] at h
  intro q
  rcases q with q | q
  · exact absurd h.1 (Int32.not_le.mpr q)
  · omega
theorem inb_of {i : Int32} {n : Nat} (h : vp_in i n) : inb i n = true := by
  simp only [inb, Bool.and_eq_true, decide_eq_true_eq]
  exact ⟨Int32.not_lt.mp fun q => h (Or.inl q), Nat.not_le.mp fun q => h (Or.inr q)⟩
theorem inb_nI {n N : Nat} (h : n < N) (hN : N < 2 ^ 31) : inb (nI n) N = true := inb_of (vp_in_nI h hN)
/-- a check ahead of a use -/
def chk {α : Type} (b : Bool) (x : Option α) : Option α := bif b then x else none
theorem chk_some {α : Type} {b : Bool} {x : Option α} {r : α} (h : chk b x = some r) : b = true ∧ x = some r := by
  cases b with
  | false => cases h
  | true => exact ⟨rfl, h⟩
theorem chk_t {α : Type} (x : Option α) : chk true x = x := rfl
theorem bind_some {α β : Type} {x : Option α} {f : α → Option β} {r : β} (h : x.bind f = some r) : ∃ y, x = some y ∧ f y = some r := by
  cases x with
  | none => cases h
  | some y => exact ⟨y, rfl, h⟩
def bw_P (D : va_G) (cl : List vw_C) (L : List va_W) (H : Heap) : Prop := ∀ (i : Nat) (B : va_W), L[i]? = some B → va_P D cl B H
/-- the addresses of the blocks -/
def bw_ad (L : List va_W) : List (List Nat) := L.map (fun B => B.map (·.1))
/-- apart, and of a kind -/
def bw_N (A : Nat → Prop) (L : List (List Nat)) : Prop :=
  (∀ (i j k k' : Nat) (X Y : List Nat) (a : Nat), L[i]? = some X → L[j]? = some Y → X[k]? = some a → Y[k']? = some a → i = j ∧ k = k') ∧ ∀ (i k : Nat) (X : List Nat) (a : Nat), L[i]? = some X → X[k]? = some a → A a
/-- which cells a method may change: its blocks', and those that it makes -/
def bw_A (L : List (List Nat)) (sz : Nat) : Nat → Prop := fun q => (∃ (i k : Nat) (X : List Nat), L[i]? = some X ∧ X[k]? = some q) ∨ sz ≤ q
theorem bw_ad_at {L : List va_W} {i : Nat} {B : va_W} (h : L[i]? = some B) : (bw_ad L)[i]? = some (B.map (·.1)) := by
  simp [bw_ad, h]
theorem bw_at_ad {L : List va_W} {i : Nat} {X : List Nat} (h : (bw_ad L)[i]? = some X) : ∃ B, L[i]? = some B ∧ B.map (·.1) = X := by
  simp only [bw_ad, List.getElem?_map, Option.map_eq_some_iff] at h
  exact h
theorem bw_fst {B : va_W} {k : Nat} {q : Nat × va_E} (h : B[k]? = some q) : (B.map (·.1))[k]? = some q.1 := by
  simp [h]
theorem bw_fst' {B : va_W} {k a : Nat} (h : (B.map (·.1))[k]? = some a) : ∃ e, B[k]? = some (a, e) := by
  simp only [List.getElem?_map, Option.map_eq_some_iff] at h
  obtain ⟨q, h1, h2⟩ := h
  exact ⟨q.2, by rw [h1, ← h2]⟩
theorem bw_N.self {A : Nat → Prop} {L : List (List Nat)} (h : bw_N A L) (sz : Nat) : bw_N (bw_A L sz) L := ⟨h.1, fun i k X a h1 h2 => Or.inl ⟨i, k, X, h1, h2⟩⟩
theorem bw_N.weaken {A B : Nat → Prop} {L : List (List Nat)} (h : bw_N A L) (hAB : ∀ q, A q → B q) : bw_N B L := ⟨h.1, fun i k X a h1 h2 => hAB a (h.2 i k X a h1 h2)⟩
theorem bw_N.D {A : Nat → Prop} {L : List va_W} (h : bw_N A (bw_ad L)) {i : Nat} {B : va_W} (hB : L[i]? = some B) : va_D A B :=
  ⟨fun x y p q hx hy e => (h.1 i i x y _ _ p.1 (bw_ad_at hB) (bw_ad_at hB) (bw_fst hx) (by rw [e]; exact bw_fst hy)).2, fun k q hk => h.2 i k _ q.1 (bw_ad_at hB) (bw_fst hk)⟩
theorem bw_N.sub {A : Nat → Prop} {L L' : List (List Nat)} (h : bw_N A L) (is : List Nat) (hn : va_nd is = true) (hs : is.map (fun i => L[i]?) = L'.map some) : bw_N A L' := by
  have at' : ∀ (k : Nat) (X : List Nat), L'[k]? = some X → ∃ i, is[k]? = some i ∧ L[i]? = some X := by
    intro k X hX
    have h1 : (is.map (fun i => L[i]?))[k]? = some (some X) := by rw [hs, List.getElem?_map, hX]; rfl
    rw [List.getElem?_map] at h1
    cases hi : is[k]? with
    | none => rw [hi] at h1; cases h1
    | some i => rw [hi] at h1; exact ⟨i, rfl, Option.some.inj h1⟩
  refine ⟨fun i j k k' X Y a hX hY hk hk' => ?_, fun i k X a hX hk => ?_⟩
  · obtain ⟨i', h1, h2⟩ := at' i X hX
    obtain ⟨j', h3, h4⟩ := at' j Y hY
    obtain ⟨e1, e2⟩ := h.1 i' j' k k' X Y a h2 h4 hk hk'
    subst e1
    exact ⟨va_nd_inj is hn i j i' h1 h3, e2⟩
  · obtain ⟨i', h1, h2⟩ := at' i X hX
    exact h.2 i' k X a h2 hk
theorem bw_P.sub {D : va_G} {cl : List vw_C} {L L' : List va_W} {H : Heap} (h : bw_P D cl L H) (is : List Nat) (hs : is.map (fun i => L[i]?) = L'.map some) : bw_P D cl L' H := by
  intro k X hX
  have h1 : (is.map (fun i => L[i]?))[k]? = some (some X) := by rw [hs, List.getElem?_map, hX]; rfl
  rw [List.getElem?_map] at h1
  cases hi : is[k]? with
  | none => rw [hi] at h1; cases h1
  | some i => rw [hi] at h1; exact h i X (Option.some.inj h1)
theorem bw_P.set {D : va_G} {cl : List vw_C} {A : Nat → Prop} {L : List va_W} {i0 q0 a : Nat} {B : va_W} {e0 e : va_E} {H H1 : Heap} (hP : bw_P D cl L H) (hN : bw_N A (bw_ad L)) (hB : L[i0]? = some B) (ha : B[q0]? = some (a, e0)) (he : va_at D cl (a, e) H1) (oq : ∀ q : Nat, q ≠ a → H1[q]? = H[q]?) : bw_P D cl (L.set i0 (B.set q0 (a, e))) H1 := by
  have hl := (List.getElem?_eq_some_iff.mp hB).1
  intro k X hX
  by_cases hk : k = i0
  · subst hk
    rw [List.getElem?_set_self hl] at hX
    cases hX
    exact (hP k B hB).set (hN.D hB) ha he oq
  · rw [List.getElem?_set_ne (Ne.symm hk)] at hX
    refine (hP k X hX).kept (fun j q hq => oq q.1 (fun z => hk ?_))
    exact (hN.1 k i0 j q0 _ _ a (bw_ad_at hX) (bw_ad_at hB) (by rw [← z]; exact bw_fst hq) (bw_fst ha)).1
/-- behind a call: the callee's blocks come back in their places -/
def bw_mg (L : List va_W) : List Nat → List va_W → List va_W
  | i :: is, B :: Bs => (bw_mg L is Bs).set i B
  | _, _ => L
theorem bw_mg_at {L : List va_W} : ∀ (is : List Nat) (Bs : List va_W) (k : Nat) (X : va_W), is.length = Bs.length → (bw_mg L is Bs)[k]? = some X → (k ∉ is ∧ L[k]? = some X) ∨ ∃ j : Nat, is[j]? = some k ∧ Bs[j]? = some X
  | [], [], k, X, _, h => Or.inl ⟨List.not_mem_nil, h⟩
  | [], _ :: _, _, _, hl, _ => by cases hl
  | _ :: _, [], _, _, hl, _ => by cases hl
  | i :: is, B :: Bs, k, X, hl, h => by
    have hl' : is.length = Bs.length := by simpa using hl
    rw [show bw_mg L (i :: is) (B :: Bs) = (bw_mg L is Bs).set i B from rfl] at h
    by_cases hk : i = k
    · subst hk
      right
      refine ⟨0, rfl, ?_⟩
      by_cases hlt : i < (bw_mg L is Bs).length
      · rw [List.getElem?_set_self hlt] at h
        simpa using h
      · rw [List.getElem?_eq_none (by rw [List.length_set]; omega)] at h
        cases h
    · rw [List.getElem?_set_ne hk] at h
      rcases bw_mg_at is Bs k X hl' h with ⟨h1, h2⟩ | ⟨j, h1, h2⟩
      · exact Or.inl ⟨fun hm => by rcases List.mem_cons.mp hm with e | e; exact hk e.symm; exact h1 e, h2⟩
      · exact Or.inr ⟨j + 1, by simpa using h1, by simpa using h2⟩
theorem bw_join {A0 : Nat → Prop} {D : va_G} {cl : List vw_C} {L Lc Lc' : List va_W} {H H1 : Heap} (hP : bw_P D cl L H) (hN : bw_N A0 (bw_ad L)) (isC : List Nat) (hC : isC.map (fun i => L[i]?) = Lc.map some) (hlen : Lc.length = Lc'.length)
    (hk : ∀ q : Nat, q < H.size → ¬ bw_A (bw_ad Lc) H.size q → H1[q]? = H[q]?) (hP1 : bw_P D cl Lc' H1) : bw_P D cl (bw_mg L isC Lc') H1 := by
  have hl : isC.length = Lc'.length := by
    have := congrArg List.length hC
    simp only [List.length_map] at this
    omega
  intro k X hX
  rcases bw_mg_at isC Lc' k X hl hX with ⟨h1, h2⟩ | ⟨j, h1, h2⟩
  · refine (hP k X h2).kept (fun x q hq => hk q.1 ((hP k X h2) x q hq).lt ?_)
    intro hA
    rcases hA with ⟨i, k2, Y, hY, hq2⟩ | hA
    · obtain ⟨B, hB, hBY⟩ := bw_at_ad hY
      have h3 : (isC.map (fun i => L[i]?))[i]? = some (some B) := by rw [hC, List.getElem?_map, hB]; rfl
      rw [List.getElem?_map] at h3
      cases hi : isC[i]? with
      | none => rw [hi] at h3; cases h3
      | some i' =>
        rw [hi] at h3
        have h4 : L[i']? = some B := Option.some.inj h3
        subst hBY
        have := (hN.1 k i' x k2 _ _ q.1 (bw_ad_at h2) (bw_ad_at h4) (bw_fst hq) hq2).1
        subst this
        exact h1 (List.mem_of_getElem? hi)
    · have := ((hP k X h2) x q hq).lt
      omega
  · exact hP1 j X h2
/-- a method's start and end, by blocks -/
def bw_Pc (av : List Value) (D : va_G) (cl : List vw_C) (tys : List (ClassId × FieldType)) (L : List va_W) (sz : Nat) (X : State → Prop) : Array Value → State → Prop := fun v U => v = av.toArray ∧ U.heap.size = sz ∧ bw_P D cl L U.heap ∧ va_K D cl tys U ∧ bw_N (fun _ => True) (bw_ad L) ∧ X U
/-- the end of a method that only reads -/
def bw_QR (v : Option Value) : Array Value → State → Outcome → State → Prop := fun _ st oc t => oc = .returned v ∧ t.heap = st.heap
def bw_Q (D : va_G) (cl : List vw_C) (v : Option Value) (L : List va_W) (A : Nat → Prop) : Array Value → State → Outcome → State → Prop := fun _ st oc t => oc = .returned v ∧ bw_P D cl L t.heap ∧ va_F A st t
section BWR
variable {p : Program} {l : Launch} {e : Env} {R : Room} {s : State} {m : MethodId} {args : Array Value} {below : List Frame} {meth : Method} {c : Code} {H : Heap} {locs : List Loc} {cells slots : Nat} {Q : State → Prop}
variable {cc : ByteArray} {pc : Nat} {ls : Array Slot} {rest : List Value} {D : va_G} {cl : List vw_C} {A : Nat → Prop} {a : Nat} {tys : List (ClassId × FieldType)} {L : List va_W} {H0 : Heap}
theorem bw_put (hexec : p.tables.exec = Jvm.exec) (hb : c.code = cc) {own ref C : String} {T : u_T} {N ci index : Nat} {Ts : List Cond} (hts : ∀ w ∈ Ts, w.before args s = true) (hin : ∀ w ∈ u_ws C T N, w ∈ Ts) (ty0 : Nat → FieldType) (hty : ∀ k, k < N → parseFieldDescriptor (T k).2.2.1 = some (ty0 k)) (hnm : ∀ a, a < N → ∀ b, b < N → a ≠ b → (T a).2.1 ≠ (T b).2.1) (hown : s.vm.findClass own = some m.cls) (hK : va_K D cl tys s) (hP : bw_P D cl L H) (hN : bw_N A (bw_ad L)) (hS0 : va_S A H0 H locs) (i0 q0 : Nat) {B : va_W} (hB : L[i0]? = some B) {fs : List Value} (he : B[q0]? = some (a, .inr (ci, fs))) (hc : cl[ci]? = some (C, T, N)) (k : Nat) (hk : k < N) (hlink : (Cond.fieldLink own index ref (T k).2.1 (T k).2.2.1).before args s = true) (hsame : ∀ x, s.fieldFound? (T k).1 (T k).2.1 (T k).2.2.1 = some x → s.fieldFound? ref (T k).2.1 (T k).2.2.1 = some x) (hfin : (T k).2.2.2 = false) {ty : FieldType} {v : Value} (hd : parseFieldDescriptor (T k).2.2.1 = some ty) (hn : narrow ty v = v) (hfit : fits ty v = true) (hl : k < fs.length)
    (hdg : decode cc pc = .ok (.putfield index, 3)) (kk : ∀ (H1 : Heap) (locs1 : List Loc), bw_P D cl (L.set i0 (B.set q0 (a, .inr (ci, fs.set k v)))) H1 → va_S A H0 H1 locs1 → W p l e R s m args below meth c H1 locs1 cells slots Q (F0 m (pc + 3) ls rest)) : W p l e R s m args below meth c H locs cells slots Q (F0 m pc ls (v :: .ref a :: rest)) := by
  have hap := va_apart (own := own) hts hin ty0 hty hnm hK hc
  obtain ⟨r, h1, cell, q1, q2, q3, q4⟩ := hP i0 B hB q0 _ he
  have hr : r = (C, T, N) := Option.some.inj (h1.symm.trans hc)
  subst hr
  obtain ⟨hS, hfc, kC, hkC, hkind⟩ := hK.1 ci _ hc
  obtain ⟨cf, kf, fi, f, hi, hsl⟩ := hS k hk
  have hlay := hts _ (hin _ (u_in_lay hk))
  unfold u_lay at hlay
  rw [if_neg (by rw [hfin]; decide)] at hlay
  have hst := (u_facts hfc hkC (u_lays hts hin hk) hi).1
  have h6 := u_store hfc hkC hkind hlay hi hd hn hfit
  refine W.putK hexec hb (f := f) ⟨hown, hlink, ⟨_, _, _, hsame _ hi⟩, hst⟩ (by rw [q2]; exact h6) q1 q3 (by rw [hsl]; exact k2_hasslot (q4 k hk)) rfl rfl hdg fun H' e1 e2 e3 => ?_
  rw [hsl] at e1 ⊢
  exact kk H' _ (hP.set hN hB he ⟨_, hc, t_OB.to (V := updV (vp_V fs) k v) ⟨_, e1, q2, q3, t_set q4 hap hk v⟩ (fun j _ => vp_updV_set hl v j)⟩ e3) (hS0.put e2 e3 ((hN.D hB).2 q0 _ he))
theorem bw_iast (hexec : p.tables.exec = Jvm.exec) (hb : c.code = cc) (hK : va_K D cl tys s) (hP : bw_P D cl L H) (hN : bw_N A (bw_ad L)) (hS : va_S A H0 H locs) (i0 q0 t0 : Nat) {B : va_W} (hB : L[i0]? = some B) {cA : ClassId} {n : Nat} {f : Nat → Int32} (ha : B[q0]? = some (a, .inl (cA, n, .inl f))) (ht : tys[t0]? = some (cA, .int)) {i : Int32} {x : Int32} (hin : vp_in i n) (hdg : decode cc pc = .ok (.iastore, 1))
    (kk : ∀ (H1 : Heap) (locs1 : List Loc), bw_P D cl (L.set i0 (B.set q0 (a, .inl (cA, n, .inl (upd f i.toNatClampNeg x))))) H1 → va_S A H0 H1 locs1 → W p l e R s m args below meth c H1 locs1 cells slots Q (F0 m (pc + 1) ls rest)) : W p l e R s m args below meth c H locs cells slots Q (F0 m pc ls (.int x :: .int i :: .ref a :: rest)) := by
  refine W.iast hexec hb (hP i0 B hB q0 _ ha) ((hK.2 t0 _ ht).1 n (fun j => .int (f j))) (fun q => by cases q) (by show ¬ (i < 0 ∨ (arrV _ _ _).slots.size ≤ _); rw [arrV_size]; exact hin) rfl rfl hdg fun H1 e z oq => ?_
  refine kk H1 _ (hP.set hN hB ha ?_ oq) (hS.put z oq ((hN.D hB).2 q0 _ ha))
  show H1[a]? = some (vp_cell _ _)
  rw [e, vp_cell_i, vp_cell_i, arrV_store]
  congr 2
  funext q
  by_cases hq : q = i.toNatClampNeg
  · subst hq
    simp [updV, upd]
  · simp [updV, upd, hq]
theorem bw_cast (hexec : p.tables.exec = Jvm.exec) (hb : c.code = cc) (hK : va_K D cl tys s) (hP : bw_P D cl L H) (hN : bw_N A (bw_ad L)) (hS : va_S A H0 H locs) (i0 q0 t0 : Nat) {B : va_W} (hB : L[i0]? = some B) {cA : ClassId} {n : Nat} {f : Nat → Int32} (ha : B[q0]? = some (a, .inl (cA, n, .inl f))) (ht : tys[t0]? = some (cA, .char)) {i : Int32} {x : Int32} (hin : vp_in i n) (hdg : decode cc pc = .ok (.castore, 1))
    (kk : ∀ (H1 : Heap) (locs1 : List Loc), bw_P D cl (L.set i0 (B.set q0 (a, .inl (cA, n, .inl (upd f i.toNatClampNeg (vp_nar .char x)))))) H1 → va_S A H0 H1 locs1 → W p l e R s m args below meth c H1 locs1 cells slots Q (F0 m (pc + 1) ls rest)) : W p l e R s m args below meth c H locs cells slots Q (F0 m pc ls (.int x :: .int i :: .ref a :: rest)) := by
  refine W.cast hexec hb (hP i0 B hB q0 _ ha) ((hK.2 t0 _ ht).1 n (fun j => .int (f j))) (fun q => by cases q) (by show ¬ (i < 0 ∨ (arrV _ _ _).slots.size ≤ _); rw [arrV_size]; exact hin) rfl rfl hdg fun H1 e z oq => ?_
  refine kk H1 _ (hP.set hN hB ha ?_ oq) (hS.put z oq ((hN.D hB).2 q0 _ ha))
  show H1[a]? = some (vp_cell _ _)
  rw [e, vp_cell_i, vp_cell_i, arrV_store]
  congr 2
  funext q
  by_cases hq : q = i.toNatClampNeg
  · subst hq
    simp [updV, upd, vp_nar]
    try rfl
  · simp [updV, upd, hq]
theorem bw_zast (hexec : p.tables.exec = Jvm.exec) (hb : c.code = cc) (hK : va_K D cl tys s) (hP : bw_P D cl L H) (hN : bw_N A (bw_ad L)) (hS : va_S A H0 H locs) (i0 q0 t0 : Nat) {B : va_W} (hB : L[i0]? = some B) {cA : ClassId} {n : Nat} {f : Nat → Int32} (ha : B[q0]? = some (a, .inl (cA, n, .inl f))) (ht : tys[t0]? = some (cA, .boolean)) {i : Int32} {x : Int32} (hin : vp_in i n) (hdg : decode cc pc = .ok (.bastore, 1))
    (kk : ∀ (H1 : Heap) (locs1 : List Loc), bw_P D cl (L.set i0 (B.set q0 (a, .inl (cA, n, .inl (upd f i.toNatClampNeg (vp_nar .boolean x)))))) H1 → va_S A H0 H1 locs1 → W p l e R s m args below meth c H1 locs1 cells slots Q (F0 m (pc + 1) ls rest)) : W p l e R s m args below meth c H locs cells slots Q (F0 m pc ls (.int x :: .int i :: .ref a :: rest)) := by
  refine W.zast hexec hb (hP i0 B hB q0 _ ha) ((hK.2 t0 _ ht).1 n (fun j => .int (f j))) (fun q => by cases q) (by show ¬ (i < 0 ∨ (arrV _ _ _).slots.size ≤ _); rw [arrV_size]; exact hin) rfl rfl hdg fun H1 e z oq => ?_
  refine kk H1 _ (hP.set hN hB ha ?_ oq) (hS.put z oq ((hN.D hB).2 q0 _ ha))
  show H1[a]? = some (vp_cell _ _)
  rw [e, vp_cell_i, vp_cell_i, arrV_store]
  congr 2
  funext q
  by_cases hq : q = i.toNatClampNeg
  · subst hq
    simp [updV, upd, vp_nar]
    try rfl
  · simp [updV, upd, hq]
theorem bw_last (hexec : p.tables.exec = Jvm.exec) (hb : c.code = cc) (hK : va_K D cl tys s) (hP : bw_P D cl L H) (hN : bw_N A (bw_ad L)) (hS : va_S A H0 H locs) (i0 q0 t0 : Nat) {B : va_W} (hB : L[i0]? = some B) {cA : ClassId} {n : Nat} {f : Nat → Int64} (ha : B[q0]? = some (a, .inl (cA, n, .inr (.inl f)))) (ht : tys[t0]? = some (cA, .long)) {i : Int32} {x : Int64} (hin : vp_in i n) (hdg : decode cc pc = .ok (.lastore, 1))
    (kk : ∀ (H1 : Heap) (locs1 : List Loc), bw_P D cl (L.set i0 (B.set q0 (a, .inl (cA, n, .inr (.inl (vp_updL f i.toNatClampNeg x)))))) H1 → va_S A H0 H1 locs1 → W p l e R s m args below meth c H1 locs1 cells slots Q (F0 m (pc + 1) ls rest)) : W p l e R s m args below meth c H locs cells slots Q (F0 m pc ls (.long x :: .int i :: .ref a :: rest)) := by
  refine W.last hexec hb (hP i0 B hB q0 _ ha) ((hK.2 t0 _ ht).1 n (fun j => .long (f j))) (fun q => by cases q) (by show ¬ (i < 0 ∨ (arrV _ _ _).slots.size ≤ _); rw [arrV_size]; exact hin) rfl rfl hdg fun H1 e z oq => ?_
  refine kk H1 _ (hP.set hN hB ha ?_ oq) (hS.put z oq ((hN.D hB).2 q0 _ ha))
  show H1[a]? = some (vp_cell _ _)
  rw [e, vp_cell_l, vp_cell_l, arrV_store]
  congr 2
  funext q
  by_cases hq : q = i.toNatClampNeg
  · subst hq
    simp [updV, vp_updL]
  · simp [updV, vp_updL, hq]
/-- a call that returns: the callee's blocks (places isC) come back as Lc' -/
theorem bw_call {st0 : List Value} {v : Option Value} {Lc Lc' L' : List va_W} {a : Array Value} {mc ms : Nat} (isC : List Nat) (hr : va_Run p l e R s m args below meth c H locs cells slots mc ms (F0 m pc ls st0) rest (bw_Q D cl v Lc' (bw_A (bw_ad Lc) H.size) a) (bw_A (bw_ad Lc) H.size))
    (hP : bw_P D cl L H) (hN : bw_N A (bw_ad L)) (hS : va_S A H0 H locs) (hA : ∀ q, H0.size ≤ q → A q) (hC : isC.map (fun i => L[i]?) = Lc.map some) (hlen : Lc.length = Lc'.length) (hL' : bw_mg L isC Lc' = L')
    (kk : ∀ (H1 : Heap) (locs1 : List Loc), bw_P D cl L' H1 → va_S A H0 H1 locs1 → W p l e R s m args below meth c H1 locs1 (cells + mc) (slots + ms) Q (F0 m (pc + 3) ls (v.toList ++ rest))) : W p l e R s m args below meth c H locs cells slots Q (F0 m pc ls st0) := by
  have hfree : ∀ q, bw_A (bw_ad Lc) H.size q → A q := by
    intro q hq
    rcases hq with ⟨i, k, X, hX, hk⟩ | hq
    · obtain ⟨B, hB, rfl⟩ := bw_at_ad hX
      have h3 : (isC.map (fun i => L[i]?))[i]? = some (some B) := by rw [hC, List.getElem?_map, hB]; rfl
      rw [List.getElem?_map] at h3
      cases hi : isC[i]? with
      | none => rw [hi] at h3; cases h3
      | some i' =>
        rw [hi] at h3
        exact hN.2 i' k _ q (bw_ad_at (Option.some.inj h3)) hk
    · exact hA q (Nat.le_trans hS.1 hq)
  intro T hT X
  obtain ⟨v', st₀, t, T', Lo, h0, X', hL, e1, e2, ⟨hv, hP1, hz, hk⟩, st⟩ := hr T hT X
  cases hv
  rw [h0] at hz hk
  subst hL'
  obtain ⟨t2, a1, b1⟩ := kk T'.heap (locs ++ Lo) (by rw [e1]; exact bw_join hP hN isC hC hlen (fun q h1 h2 => hk q h1 h2) hP1)
    ⟨Nat.le_trans hS.1 (by rw [e1]; exact hz), fun q h1 h2 => by rw [e1, hk q (Nat.lt_of_lt_of_le h1 hS.1) (fun z => h2 (hfree q z))]; exact hS.2.1 q h1 h2, fun q hq => by
      rcases List.mem_append.mp hq with h | h
      · exact hS.2.2 q h
      · exact hfree _ (hL q h)⟩ T' rfl X'
  exact ⟨t2, st t2 a1, b1⟩
/-- a call of a method that only reads -/
theorem bw_callR {st0 : List Value} {v : Option Value} {a : Array Value} (hr : va_Run p l e R s m args below meth c H locs cells slots 0 0 (F0 m pc ls st0) rest (bw_QR v a) (fun _ => False))
    (kk : W p l e R s m args below meth c H locs cells slots Q (F0 m (pc + 3) ls (v.toList ++ rest))) : W p l e R s m args below meth c H locs cells slots Q (F0 m pc ls st0) := by
  intro T hT X
  obtain ⟨v', st₀, t, T', Lo, h0, X', hL, e1, e2, ⟨hv, hh⟩, st⟩ := hr T hT X
  cases hv
  cases Lo with
  | cons q r => exact (hL q List.mem_cons_self).elim
  | nil =>
    rw [List.append_nil] at X'
    obtain ⟨t2, a1, b1⟩ := kk T' (e1.trans (hh.trans h0)) X'
    exact ⟨t2, st t2 a1, b1⟩
end BWR
theorem bw_blind {av : List Value} {D : va_G} {cl : List vw_C} {tys : List (ClassId × FieldType)} {L : List va_W} {sz : Nat} {X : State → Prop} (hX : ∀ (a : Array Value) (U : State) (g : JFrame) (mk : MethodId), X U → X (U.calling g mk a)) : FrameBlind (bw_Pc av D cl tys L sz X) := by
  intro a U g mk h
  obtain ⟨h1, h2, h3, h4, h5, h6⟩ := h
  exact ⟨h1, h2, h3, va_K.moved (u := U) (U := U.calling g mk a) (Vm.Alike.refl U.vm) h4, h5, hX a U g mk h6⟩
/-- what a method's rows stand on -/
def cx (wsA : List Cond) (cl : List vw_C) (X : State → Prop) (p : Program) (s : State) (m : MethodId) (args : Array Value) (meth : Method) (c : Code) (D : va_G) (tys : List (ClassId × FieldType)) (cc : ByteArray) (nL : Nat) (ret : Option FieldType) (own : String) (A : Nat → Prop) (AL : List (List Nat)) : Prop :=
  p.tables.exec = Jvm.exec ∧ c.code = cc ∧ meth.sig.returnType = ret ∧ c.maxLocals = nL ∧ s.vm.findClass own = some m.cls ∧ meth.locks = false ∧ (∀ w ∈ wsA, w.before args s = true) ∧ va_K D cl tys s ∧ bw_N A AL ∧ (∀ q : Nat, s.heap.size ≤ q → A q) ∧ X s
theorem ite_t {α : Type} {c : Prop} [Decidable c] {x y r : α} (hc : c) (h : (if c then x else y) = r) : x = r := by rw [if_pos hc] at h; exact h
theorem ite_f {α : Type} {c : Prop} [Decidable c] {x y r : α} (hc : ¬ c) (h : (if c then x else y) = r) : y = r := by rw [if_neg hc] at h; exact h
def bind0 {β : Type} (x : Option Unit) (f : Unit → Option β) : Option β := x.bind f
def bind1 {α β : Type} (x : Option α) (f : α → Option β) : Option β := x.bind f
def bind2 {α γ β : Type} (x : Option (α × γ)) (f : α → γ → Option β) : Option β := x.bind (fun y => f y.1 y.2)
def bind3 {α γ δ β : Type} (x : Option (α × γ × δ)) (f : α → γ → δ → Option β) : Option β := x.bind (fun y => f y.1 y.2.1 y.2.2)
def bind4 {α γ δ ε β : Type} (x : Option (α × γ × δ × ε)) (f : α → γ → δ → ε → Option β) : Option β := x.bind (fun y => f y.1 y.2.1 y.2.2.1 y.2.2.2)
theorem bind0_some {β : Type} {x : Option Unit} {f : Unit → Option β} {r : β} (h : bind0 x f = some r) : x = some () ∧ f () = some r := by
  obtain ⟨y, h1, h2⟩ := bind_some h
  exact ⟨h1, h2⟩
theorem bind1_some {α β : Type} {x : Option α} {f : α → Option β} {r : β} (h : bind1 x f = some r) : ∃ a, x = some a ∧ f a = some r := bind_some h
theorem bind2_some {α γ β : Type} {x : Option (α × γ)} {f : α → γ → Option β} {r : β} (h : bind2 x f = some r) : ∃ a b, x = some (a, b) ∧ f a b = some r := by
  obtain ⟨⟨a, b⟩, h1, h2⟩ := bind_some h
  exact ⟨a, b, h1, h2⟩
theorem bind3_some {α γ δ β : Type} {x : Option (α × γ × δ)} {f : α → γ → δ → Option β} {r : β} (h : bind3 x f = some r) : ∃ a b c, x = some (a, b, c) ∧ f a b c = some r := by
  obtain ⟨⟨a, b, c⟩, h1, h2⟩ := bind_some h
  exact ⟨a, b, c, h1, h2⟩
theorem bind4_some {α γ δ ε β : Type} {x : Option (α × γ × δ × ε)} {f : α → γ → δ → ε → Option β} {r : β} (h : bind4 x f = some r) : ∃ a b c d, x = some (a, b, c, d) ∧ f a b c d = some r := by
  obtain ⟨⟨a, b, c, d⟩, h1, h2⟩ := bind_some h
  exact ⟨a, b, c, d, h1, h2⟩
/-- enough turns for every loop -/
def fuel : Nat := 1000000
def iushr (x y : Int32) : Int32 := (x.toUInt32 >>> (y.toUInt32 &&& Int32.toUInt32 31)).toInt32
def lushr (x : Int64) (y : Int32) : Int64 := (x.toUInt64 >>> (y.toInt64.toUInt64 &&& Int64.toUInt64 63)).toInt64
def lshl (x : Int64) (y : Int32) : Int64 := x <<< (y.toInt64 &&& 63)
def lshr (x : Int64) (y : Int32) : Int64 := x >>> (y.toInt64 &&& 63)
def i2c (x : Int32) : Int32 := (x.toUInt32 % 65536).toInt32
def i2b (x : Int32) : Int32 := x.toInt8.toInt32
def i2s (x : Int32) : Int32 := x.toInt16.toInt32
def isB (x : Int32) : Bool := decide (x = 0) || decide (x = 1)
theorem isB_of {x : Int32} (h : isB x = true) : x = b2i (decide (¬ x = 0)) := by
  simp only [isB, Bool.or_eq_true, decide_eq_true_eq] at h
  rcases h with rfl | rfl <;> decide
def isC (x : Int32) : Bool := decide (narrow .char (.int x) = .int x)
theorem isC_nar {x : Int32} (h : isC x = true) : narrow .char (.int x) = .int x := of_decide_eq_true h
theorem bw_nil {locs : List Loc} (h : locs = []) : ∀ q ∈ locs, (fun _ : Addr => False) q.base := by
  subst h
  intro q hq
  cases hq
theorem res1 {α : Type} {a c : α} (h : some a = some c) : c = a := (Option.some.inj h).symm
theorem res2 {α β : Type} {a c : α} {b d : β} (h : some (a, b) = some (c, d)) : c = a ∧ d = b := by
  have q := Option.some.inj h
  exact ⟨(congrArg Prod.fst q).symm, (congrArg Prod.snd q).symm⟩
theorem res3 {α β γ : Type} {a c : α} {b d : β} {e f : γ} (h : some (a, b, e) = some (c, d, f)) : c = a ∧ d = b ∧ f = e := by
  have q := Option.some.inj h
  exact ⟨(congrArg Prod.fst q).symm, (congrArg (fun z => z.2.1) q).symm, (congrArg (fun z => z.2.2) q).symm⟩
theorem res4 {α β γ δ : Type} {a c : α} {b d : β} {e f : γ} {g i : δ} (h : some (a, b, e, g) = some (c, d, f, i)) : c = a ∧ d = b ∧ f = e ∧ i = g := by
  have q := Option.some.inj h
  exact ⟨(congrArg Prod.fst q).symm, (congrArg (fun z => z.2.1) q).symm, (congrArg (fun z => z.2.2.1) q).symm, (congrArg (fun z => z.2.2.2) q).symm⟩
