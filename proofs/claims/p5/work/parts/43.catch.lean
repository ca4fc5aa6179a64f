/-! CATCH: a callee's exception meets the rows of our own table -/
/-- a row covers the place and names a class of the tables, to which the exception's class t can be assigned (b), or not -/
def ct_Row (own : String) (args : Array Value) (s : State) (pc : Nat) (t : ClassId) (b : Bool) (y : ExceptionTableEntry) : Prop :=
  covers y pc = true ∧ y.catchType ≠ 0 ∧ ∃ (name : String) (c : ClassId), (Cond.classLink own y.catchType name).before args s = true ∧ s.vm.findClass name = some c ∧ s.vm.assignable t c = b
theorem ct_step {e : Env} (hpl : e.platform.magicAccessors = ({} : Platform).magicAccessors) {s S : State} {args : Array Value} {own : String} {f : JFrame} {a : Addr} {cell : Cell} {b : Bool} {y : ExceptionTableEntry} (ys : List ExceptionTableEntry) (hown : s.vm.findClass own = some f.method.cls) (hW : s.WarmedH S.vm)
    (hR : ct_Row own args s f.pc cell.cls b y) (hcell : S.heap[a]? = some cell) (hobj : ∀ k, cell.vm ≠ .statics k) (hk : ∃ k, s.vm.classes[cell.cls]? = some k) :
    ∃ vm', s.WarmedH vm' ∧ ∀ (Q : Handler → Pre) (E : CtlPost) (d : Bool) (acts : List Action), wp (findHandler.go f a (y :: ys)) Q E e d acts S ↔ (bif b then Q (.found y.handlerPc) d acts (S.setVm vm') else wp (findHandler.go f a ys) Q E e d acts (S.setVm vm')) := by
  obtain ⟨hx, h0, name, c, hlink, hc, hf⟩ := hR
  obtain ⟨c', hc', hl⟩ := Cond.classLink_spec hown hlink e.platform hpl
  cases hc.symm.trans hc'
  obtain ⟨dk, _, _, kt, hd, _, _, _, _, hkt, _, hopen⟩ := hl.here
  obtain ⟨k0, hk0⟩ := hk
  obtain ⟨ha, ht⟩ := (resolveClass_links e.toSetting (hW.classLinks hl)).op (op := VmOp.resolveClass f.method.cls y.catchType) rfl
  have hW' : s.WarmedH (S.vm.noted f.method.cls y.catchType (.cls c)) := hW.noted hd hopen (State.rightAt_cls hl)
  obtain ⟨k1, hk1, -⟩ := hW'.alike.2.2 _ _ hk0
  obtain ⟨k2, hk2, -⟩ := hW'.alike.2.2 _ _ hkt
  have hf' : (S.vm.noted f.method.cls y.catchType (.cls c)).assignable cell.cls c = b := by rw [hW'.alike.assignable]; exact hf
  simp only [covers] at hx
  refine ⟨_, hW', fun Q E d acts => ?_⟩
  cases b <;> simp [findHandler.go, hx, h0, ha, ht, hcell, hobj, hk1, hk2, hf', VmOp.dirties, VmOp.acts]
theorem ct_go {e : Env} (hpl : e.platform.magicAccessors = ({} : Platform).magicAccessors) {s : State} {args : Array Value} {own : String} {f : JFrame} {a : Addr} {cell : Cell} (hown : s.vm.findClass own = some f.method.cls) (hobj : ∀ k, cell.vm ≠ .statics k) (hk : ∃ k, s.vm.classes[cell.cls]? = some k)
    {x : ExceptionTableEntry} (rest : List ExceptionTableEntry) (hx : ct_Row own args s f.pc cell.cls true x) :
    ∀ (pre : List ExceptionTableEntry) (S : State), s.WarmedH S.vm → S.heap[a]? = some cell → (∀ y ∈ pre, ct_Row own args s f.pc cell.cls false y) →
      ∃ vm', s.WarmedH vm' ∧ ∀ (Q : Handler → Pre) (E : CtlPost) (d : Bool) (acts : List Action), wp (findHandler.go f a (pre ++ x :: rest)) Q E e d acts S ↔ Q (.found x.handlerPc) d acts (S.setVm vm')
  | [], S, hW, hcell, _ => by
    obtain ⟨vm', hW', hq⟩ := ct_step hpl rest hown hW hx hcell hobj hk
    exact ⟨vm', hW', fun Q E d acts => hq Q E d acts⟩
  | y :: ys, S, hW, hcell, hp => by
    obtain ⟨vm1, hW1, hq1⟩ := ct_step hpl (ys ++ x :: rest) hown hW (hp y List.mem_cons_self) hcell hobj hk
    obtain ⟨vm2, hW2, hq2⟩ := ct_go hpl hown hobj hk rest hx ys (S.setVm vm1) hW1 hcell (fun z hz => hp z (List.mem_cons_of_mem _ hz))
    exact ⟨vm2, hW2, fun Q E d acts => (hq1 Q E d acts).trans (hq2 Q E d acts)⟩
section CT1
variable {p : Program} {l : Launch} {e : Env} {R : Room} {s : State} {m : MethodId} {args : Array Value} {below : List Frame} {meth : Method} {c : Code} {T : State} {locs : List Loc} {cells slots : Nat}
theorem ct_catch (X : Stand p l e R s m args below meth c T locs cells slots) (a : Addr) {g : JFrame} (hg : g.method = m) {own : String} (hown : s.vm.findClass own = some m.cls) {cell : Cell} (hcell : T.heap[a]? = some cell) (hobj : cell.vm = .none) (hk : ∃ k, s.vm.classes[cell.cls]? = some k)
    (pre : List ExceptionTableEntry) (x : ExceptionTableEntry) (rest : List ExceptionTableEntry) (hsplit : c.exceptionTable.toList = pre ++ x :: rest) (hpre : ∀ y ∈ pre, ct_Row own args s g.pc cell.cls false y) (hx : ct_Row own args s g.pc cell.cls true x) :
    ∃ vm', Stand p l e R s m args below meth c (T.setVm vm') locs cells slots ∧
      ∀ target, Steps p.tables e below ((T.setVm vm').setTop { g with pc := x.handlerPc, stack := [.ref a] }) target → Steps p.tables e below ((T.setTop g).pushFrame (.throwing a)) target := by
  subst hg
  have hpl : e.platform.magicAccessors = ({} : Platform).magicAccessors := by rw [X.admits.platform]
  have hob : ∀ k, cell.vm ≠ .statics k := fun k h => by rw [hobj] at h; cases h
  obtain ⟨vm', hW', hq⟩ := ct_go hpl hown hob hk rest hx pre ((T.setTop g).pushFrame (.throwing a)) X.warmed hcell hpre
  have hfind : ∀ (Q : Handler → Pre) (E : CtlPost) (d : Bool) (acts : List Action), wp (findHandler g a) Q E e d acts ((T.setTop g).pushFrame (.throwing a)) ↔ Q (.found x.handlerPc) d acts (((T.setTop g).pushFrame (.throwing a)).setVm vm') := by
    intro Q E d acts
    rw [W.findHandler_eq (s := (T.setTop g).pushFrame (.throwing a)) (meth := meth) (code := c) X.method' X.code, hsplit]
    exact hq Q E d acts
  have hIs : ∀ r : List Frame, (stepThrowing e ((T.setTop g).pushFrame (.throwing a)) a (.java g :: r)).Is ((((T.setTop g).pushFrame (.throwing a)).setVm vm').setFrames (.java { g with pc := x.handlerPc, stack := [.ref a] } :: r)) [] := by
    intro r
    simp only [stepThrowing, searchFrame, vmDo]
    generalize hr : Sem.go _ e false [] ((T.setTop g).pushFrame (.throwing a)) = res
    obtain ⟨as, rfl, ha⟩ := Sem.eq_ok_of hr (a := Handler.found x.handlerPc) (s' := ((T.setTop g).pushFrame (.throwing a)).setVm vm') (acts' := []) (by simp [hfind _ _ _ _])
    exact ⟨rfl, ha⟩
  refine ⟨vm', X.noted hW', fun target hrest => ?_⟩
  obtain ⟨hgo, hw⟩ := X.here.throwing a
  refine Steps.head hgo hw ?_
  rw [stepThread_throwing (frames_entered X.here.top _), (hIs _).1]
  obtain ⟨g₀, hg⟩ := Option.isSome_iff_exists.mp X.here.top
  obtain ⟨r, hr⟩ := State.topJava?_eq_some.mp hg
  have hr' : (T.setVm vm').frames = .java g₀ :: r := hr
  have e1 : ∀ (u : State) (F G : List Frame), ((u.setFrames F).setVm vm').setFrames G = (u.setVm vm').setFrames G := fun u F G => by
    rw [show (u.setFrames F).setVm vm' = (u.setVm vm').setFrames F from rfl, State.setFrames_setFrames]
  rw [State.setTop_of_frames _ hr'] at hrest
  rw [hr, List.tail_cons, State.pushFrame, e1, State.setTop_of_frames _ hr, e1]
  exact hrest
end CT1
theorem ct_table {p : Program} {l : Launch} {y : MethodName} {ws : List Cond} {rm : Room} {cc : ByteArray} {maxL : Nat} {ret : Option FieldType} {e : Env} {s : State} {m : MethodId} {args : Array Value} {below : List Frame} {meth : Method} {c : Code} {s₁ : State} {hh : List (Nat × Nat × Nat × Nat)}
    (B : BodyLoose p l y (headSpec ws rm) cc maxL ret e s m args below meth c s₁) (hw : Cond.codeWith y cc maxL ret hh ∈ ws) : c.exceptionTable.toList.map (fun h => (h.startPc, h.endPc, h.handlerPc, h.catchType)) = hh := by
  obtain ⟨m9, meth9, c9, hn9, h1, h2, -, -, h5, -⟩ := Cond.codeWith_spec (atoms_spec (ws := ws) B.pre _ hw)
  cases B.named.symm.trans hn9
  cases B.method.symm.trans h1
  cases (Stand.of_body B).code.symm.trans h2
  exact h5
/-- the three exceptions are three classes, none under another -/
def exX (U : State) : Prop := ∃ c1 c2 c3 : ClassId, (U.vm.findClass (exN 1) = some c1 ∧ U.vm.findClass (exN 2) = some c2 ∧ U.vm.findClass (exN 3) = some c3) ∧
  (U.vm.assignable c1 c2 = false ∧ U.vm.assignable c1 c3 = false ∧ U.vm.assignable c2 c1 = false ∧ U.vm.assignable c2 c3 = false ∧ U.vm.assignable c3 c1 = false ∧ U.vm.assignable c3 c2 = false) ∧
  ((∃ k, U.vm.classes[c1]? = some k) ∧ (∃ k, U.vm.classes[c2]? = some k) ∧ (∃ k, U.vm.classes[c3]? = some k))
theorem exX.moved {u U : State} (hvm : u.vm.Alike U.vm) (h : exX u) : exX U := by
  obtain ⟨c1, c2, c3, ⟨f1, f2, f3⟩, ⟨a1, a2, a3, a4, a5, a6⟩, ⟨⟨k1, q1⟩, ⟨k2, q2⟩, ⟨k3, q3⟩⟩⟩ := h
  obtain ⟨k1', q1', -⟩ := hvm.2.2 _ _ q1
  obtain ⟨k2', q2', -⟩ := hvm.2.2 _ _ q2
  obtain ⟨k3', q3', -⟩ := hvm.2.2 _ _ q3
  refine ⟨c1, c2, c3, ⟨?_, ?_, ?_⟩, ⟨?_, ?_, ?_, ?_, ?_, ?_⟩, ⟨⟨k1', q1'⟩, ⟨k2', q2'⟩, ⟨k3', q3'⟩⟩⟩
  · rw [hvm.findClass]; exact f1
  · rw [hvm.findClass]; exact f2
  · rw [hvm.findClass]; exact f3
  · rw [hvm.assignable]; exact a1
  · rw [hvm.assignable]; exact a2
  · rw [hvm.assignable]; exact a3
  · rw [hvm.assignable]; exact a4
  · rw [hvm.assignable]; exact a5
  · rw [hvm.assignable]; exact a6
theorem ct_self (vm : Vm) (c : ClassId) : vm.assignable c c = true := by
  show vm.assignableAux (255 + 1) c c = true
  rw [Vm.assignableAux]
  simp only [beq_self_eq_true, Bool.true_or]
/-- what a row that names the j-th class does with the i-th exception -/
theorem exX.row {U : State} (h : exX U) (i j : Nat) (hi : i = 1 ∨ i = 2 ∨ i = 3) (hj : j = 1 ∨ j = 2 ∨ j = 3) : ∃ t c : ClassId, U.vm.findClass (exN i) = some t ∧ U.vm.findClass (exN j) = some c ∧ U.vm.assignable t c = decide (i = j) := by
  obtain ⟨c1, c2, c3, ⟨f1, f2, f3⟩, ⟨a1, a2, a3, a4, a5, a6⟩, -⟩ := h
  rcases hi with rfl | rfl | rfl <;> rcases hj with rfl | rfl | rfl
  · exact ⟨c1, c1, f1, f1, ct_self _ _⟩
  · exact ⟨c1, c2, f1, f2, a1⟩
  · exact ⟨c1, c3, f1, f3, a2⟩
  · exact ⟨c2, c1, f2, f1, a3⟩
  · exact ⟨c2, c2, f2, f2, ct_self _ _⟩
  · exact ⟨c2, c3, f2, f3, a4⟩
  · exact ⟨c3, c1, f3, f1, a5⟩
  · exact ⟨c3, c2, f3, f2, a6⟩
  · exact ⟨c3, c3, f3, f3, ct_self _ _⟩
theorem exX.at {U : State} (h : exX U) (i : Nat) (hi : i = 1 ∨ i = 2 ∨ i = 3) {t : ClassId} (ht : U.vm.findClass (exN i) = some t) : ∃ k, U.vm.classes[t]? = some k := by
  obtain ⟨c1, c2, c3, ⟨f1, f2, f3⟩, -, ⟨q1, q2, q3⟩⟩ := h
  rcases hi with rfl | rfl | rfl
  · cases f1.symm.trans ht; exact q1
  · cases f2.symm.trans ht; exact q2
  · cases f3.symm.trans ht; exact q3
/-- a row of the table, by its four numbers -/
theorem ct_row {own : String} {args : Array Value} {s : State} {pc i j f t h k : Nat} {y : ExceptionTableEntry} (hX : exX s) (hi : i = 1 ∨ i = 2 ∨ i = 3) (hj : j = 1 ∨ j = 2 ∨ j = 3) (hy : (y.startPc, y.endPc, y.handlerPc, y.catchType) = (f, t, h, k)) (hp : (decide (f ≤ pc) && decide (pc < t)) = true) (h0 : k ≠ 0) (hl : (Cond.classLink own k (exN j)).before args s = true) {z : ClassId} (hz : s.vm.findClass (exN i) = some z) : ct_Row own args s pc z (decide (i = j)) y := by
  have e1 : y.startPc = f := congrArg Prod.fst hy
  have e2 : y.endPc = t := congrArg (fun q => q.2.1) hy
  have e4 : y.catchType = k := congrArg (fun q => q.2.2.2) hy
  obtain ⟨z', c, h1, h2, h3⟩ := hX.row i j hi hj
  cases hz.symm.trans h1
  refine ⟨?_, by rw [e4]; exact h0, exN j, c, by rw [e4]; exact hl, h2, h3⟩
  show (decide (y.startPc ≤ pc) && decide (pc < y.endPc)) = true
  rw [e1, e2]
  exact hp
section CT2
variable {p : Program} {l : Launch} {e : Env} {R : Room} {s : State} {m : MethodId} {args : Array Value} {below : List Frame} {meth : Method} {c : Code} {cc : ByteArray} {pc : Nat} {ls : Array Slot} {st0 rest As : List Value} {H : Heap} {locs : List Loc} {cells slots : Nat} {Q : State → Prop}
/-- the callee throws, and a row of ours takes it -/
theorem bt_catV {own C : String} {index n maxL hd : Nat} {y : MethodName} {bytes : ByteArray} {ret : Option FieldType} {ws : List Cond} {rm : Room} {Pc : Array Value → State → Prop} {E : String} {b : Addr} {nL : Nat} {Ts : List Cond} (S : CallFix p m c cc nL s args Ts own) (hM : MetT l y ws rm Pc (bt_Q E) 1 6) (cw : CallW R s args own C index y bytes maxL ret ws rm 1 6 n) (hp : PreV s H C b Pc As)
    (hn : As.length = n) (hsize : ls.size = nL) (hstack : st0 = As.reverse ++ .ref b :: rest) (hWk : 2 * (F0 m pc ls rest).monitorRoom + (rest.map fun v => v.category).sum ≤ 8) (hdg : decode cc pc = .ok (.invokevirtual index, 3)) (hf : cells + 1 ≤ R.cells ∧ slots + 6 ≤ R.slots)
    (hk : ∀ t, s.vm.findClass E = some t → ∃ k, s.vm.classes[t]? = some k)
    (hrows : ∀ t, s.vm.findClass E = some t → ∃ (pre : List ExceptionTableEntry) (x : ExceptionTableEntry) (more : List ExceptionTableEntry), c.exceptionTable.toList = pre ++ x :: more ∧ (∀ y ∈ pre, ct_Row own args s pc t false y) ∧ ct_Row own args s pc t true x ∧ x.handlerPc = hd)
    (kk : ∀ (x : Addr) (H1 : Heap), (∀ q : Nat, q < H.size → H1[q]? = H[q]?) → H.size ≤ H1.size → W p l e R s m args below meth c H1 locs (cells + 1) (slots + 6) Q (F0 m hd ls [.ref x])) :
    W p l e R s m args below meth c H locs cells slots Q (F0 m pc ls st0) := by
  obtain ⟨⟨hrc, hrs, hfr, hlo, hws, hcw, hcode, hini, hy, hlen, hl⟩, hin, hse⟩ := cw
  obtain ⟨hx, hb, hml, ho, -⟩ := S
  obtain ⟨hbl, ⟨cellB, hcB, hoB, hclB⟩, hPc⟩ := hp
  intro T hT X
  obtain ⟨mk, methM, hnamed, hmethM, hstM, habM⟩ := Cond.instanceMethod_spec hin
  obtain ⟨methM', cM, hmethM', -, -, -, -, -, -, hsigM⟩ := Cond.code_spec hnamed hcode
  cases hmethM.symm.trans hmethM'
  obtain ⟨c2, r2, m2, q1, q2, q3, q4, kP, hkP, hkPi⟩ := Cond.selects_spec hse
  cases hclB.symm.trans q1
  cases (State.methodFound?_of_named hnamed hy).symm.trans q2
  cases hnamed.symm.trans q3
  have hselP : selectMethod e.platform s.vm cellB.cls mk = .method mk := by rw [Launch.admits_selectMethod X.admits]; exact q4
  obtain ⟨vm₁, X₁, hstep₁⟩ := X.invokevirtual hx ho hl hnamed hmethM hstM hkP hkPi hy (a := b) (cell := cellB) (by rw [hT]; exact hcB)
    (fun z h => by rw [h] at hoB; cases hoB) hselP hmethM habM hkP hkPi (g := F0 m pc ls st0) rfl (argsL := As) (rest := rest) (hn.trans (hlen _ hsigM)) hstack (by rw [hb]; exact hdg)
  obtain ⟨x, T', X', ⟨ce, hce1, hce2, hce3, -⟩, hold, hsz, hsteps⟩ := bt_back X₁ (bytes := bytes) (maxL := maxL) (ret := ret) hM hbl hrc hrs hfr hlo hws hcw (fun a' U hW => word_at hW (Or.inl (by first | rfl | simp [Cond.onTables, Cond.keeps, Cond.steady])) hini)
    (g := F0 m pc ls rest) rfl (hsize.trans hml.symm) (by rw [hb]; exact hdg) hWk (X₁.named hnamed) (a := (Value.ref b :: As).toArray) (hPc (T.setVm vm₁) hT X₁.warmed) hf.1 hf.2
  obtain ⟨pre, xe, more, hsplit, hpre, hxe, hhd⟩ := hrows ce.cls hce2
  obtain ⟨vm', X2, hgo⟩ := ct_catch X' x (g := F0 m pc ls rest) rfl ho hce1 hce3 (hk _ hce2) pre xe more hsplit hpre hxe
  have hTH : (T.setVm vm₁).heap = H := hT
  rw [hTH] at hold hsz
  obtain ⟨t, a1, b1⟩ := kk x T'.heap hold hsz (T'.setVm vm') rfl X2
  refine ⟨t, (hstep₁ _ fun acts => by rw [doInvoke_state]; exact hsteps).trans (hgo t ?_), b1⟩
  rw [hhd]
  exact a1
end CT2
/-- behind a caught throw: the blocks are as they were -/
theorem bw_P.old {D : va_G} {cl : List vw_C} {L : List va_W} {H H1 : Heap} (hP : bw_P D cl L H) (ho : ∀ q : Nat, q < H.size → H1[q]? = H[q]?) : bw_P D cl L H1 := fun k X hX => (hP k X hX).kept (fun j q hq => ho q.1 ((hP k X hX) j q hq).lt)
theorem va_S.old {A : Nat → Prop} {H0 H H1 : Heap} {locs : List Loc} (hS : va_S A H0 H locs) (ho : ∀ q : Nat, q < H.size → H1[q]? = H[q]?) (hz : H.size ≤ H1.size) : va_S A H0 H1 locs := ⟨Nat.le_trans hS.1 hz, fun q h1 h2 => (ho q (Nat.lt_of_lt_of_le h1 hS.1)).trans (hS.2.1 q h1 h2), hS.2.2⟩
theorem ct_rows1 {α β : Type} {f : α → β} {l : List α} {b1 : β} (h : l.map f = [b1]) : ∃ x1, l = [x1] ∧ f x1 = b1 := by
  rcases l with _ | ⟨x1, _ | ⟨x2, l⟩⟩
  · cases h
  · exact ⟨x1, rfl, (List.cons.inj h).1⟩
  · cases (List.cons.inj h).2
theorem ct_rows2 {α β : Type} {f : α → β} {l : List α} {b1 b2 : β} (h : l.map f = [b1, b2]) : ∃ x1 x2, l = [x1, x2] ∧ f x1 = b1 ∧ f x2 = b2 := by
  rcases l with _ | ⟨x1, l⟩
  · cases h
  · obtain ⟨h1, h2⟩ := List.cons.inj h
    obtain ⟨x2, rfl, h3⟩ := ct_rows1 h2
    exact ⟨x1, x2, rfl, h1, h3⟩
theorem ct_rows3 {α β : Type} {f : α → β} {l : List α} {b1 b2 b3 : β} (h : l.map f = [b1, b2, b3]) : ∃ x1 x2 x3, l = [x1, x2, x3] ∧ f x1 = b1 ∧ f x2 = b2 ∧ f x3 = b3 := by
  rcases l with _ | ⟨x1, l⟩
  · cases h
  · obtain ⟨h1, h2⟩ := List.cons.inj h
    obtain ⟨x2, x3, rfl, h3, h4⟩ := ct_rows2 h2
    exact ⟨x1, x2, x3, rfl, h1, h3, h4⟩
/-- the law's long[1] -/
def wOut (ct : Nat → ClassId) (a : Nat → Nat) (o : Ob) : va_W := [(a 0, .inl (ct 1, 1, .inr (.inl (g64 o 0))))]
def adOut (a : Nat → Nat) : List Nat := [a 0]
theorem st_Out_0 {p : Program} {l : Launch} {e : Env} {R : Room} {s : State} {m : MethodId} {args : Array Value} {below : List Frame} {meth : Method} {c : Code} {H : Heap} {locs : List Loc} {cells slots : Nat} {Q : State → Prop} {cc : ByteArray} {pc : Nat} {ls : Array Slot} {rest : List Value} {ct dC : Nat → ClassId} {dI : Nat → Nat → Nat} {A : Nat → Prop} {L : List va_W} {H0 : Heap}
    {a : Nat → Nat} {o : Ob} (hx : p.tables.exec = Jvm.exec) (hb : c.code = cc) (hK : va_K (dC, dI) vwCl (tyA ct) s) (hP : bw_P (dC, dI) vwCl L H) (hN : bw_N A (bw_ad L)) (hS : va_S A H0 H locs) (i0 : Nat) (hB : L[i0]? = some (wOut ct a o)) {i : Int32} {x : Int64} (hin : vp_in i 1) (hdg : decode cc pc = .ok (.lastore, 1)) (kk : ∀ (H1 : Heap) (locs1 : List Loc), bw_P (dC, dI) vwCl (L.set i0 (wOut ct a (s64 o 0 i.toNatClampNeg x))) H1 → va_S A H0 H1 locs1 → W p l e R s m args below meth c H1 locs1 cells slots Q (F0 m (pc + 1) ls rest)) : W p l e R s m args below meth c H locs cells slots Q (F0 m pc ls (.long x :: .int i :: .ref (a 0) :: rest)) := bw_last hx hb hK hP hN hS i0 0 1 hB rfl rfl hin hdg kk
/-- what the law's helpers stand on -/
def thh (U : State) : Prop := nx U ∧ thx U ∧ exX U
theorem thh_call (a : Array Value) (U : State) (g : JFrame) (mk : MethodId) (h : thh U) : thh (U.calling g mk a) := ⟨nx_call a U g mk h.1, fun u h1 h2 => h.2.1 u h1 h2, exX.moved (u := U) (U := U.calling g mk a) (Vm.Alike.refl U.vm) h.2.2⟩
theorem gd_any {w : Cond} (h5 : w ∈ wsAll) : GoodIn wsAll (w :: wsAll) := gd_in fun v hw => (List.mem_cons.mp hw).elim (fun e => by rw [e]; exact h5) id
section CT3
variable {p : Program} {l : Launch} {e : Env} {R : Room} {s : State} {m : MethodId} {args : Array Value} {below : List Frame} {meth : Method} {c : Code} {H : Heap} {locs : List Loc} {cells slots : Nat}
/-- a call of a static method that has handlers -/
theorem bt_runSW {y : MethodName} {bytes cc : ByteArray} {maxL nL mc ms n index : Nat} {ret : Option FieldType} {hh : List (Nat × Nat × Nat × Nat)} {ws ws' : List Cond} {rm : Room} {Pc : Array Value → State → Prop} {Qc : Array Value → State → Outcome → State → Prop} {free : Addr → Prop} {Ts : List Cond} {own : String} {As rest : List Value} {g : JFrame}
    (S : CallFix p m c cc nL s args Ts own) (hM : Met l y ws rm Pc Qc mc ms free) (hG : GoodIn Ts ws) (hw : ws = Cond.codeWith y bytes maxL ret hh :: ws') (hrc : rm.cells = mc) (hrs : rm.slots = ms) (hini : (Cond.initialized y.cls).before args s = true) (hlk : (Cond.methodLink own index y).before args s = true) (hst : (Cond.static y).before args s = true)
    (hd : y.cls ≠ "java/lang/invoke/MethodHandle" ∧ y.cls ≠ "java/lang/invoke/VarHandle" ∧ (parseMethodDescriptor y.desc).map (fun d => d.parameters.length) = some n) (hR : rm.frames + 1 ≤ R.frames ∧ 8 + (maxL + 11) + rm.locals ≤ R.locals) (hp : PreS s H Pc As)
    (hg : g.method = m) (hn : As.length = n) (hsize : g.locals.size = nL) (hstack : g.stack = As.reverse ++ rest) (hW : 2 * g.monitorRoom + (rest.map fun v => v.category).sum ≤ 8) (hdg : decode cc g.pc = .ok (.invokestatic index, 3)) (hf : cells + mc ≤ R.cells ∧ slots + ms ≤ R.slots) :
    va_Run p l e R s m args below meth c H locs cells slots mc ms g rest (Qc As.toArray) (free) := by
  obtain ⟨hx, hb, hml, ho, ht⟩ := S
  have hcw : Cond.codeWith y bytes maxL ret hh ∈ ws := by rw [hw]; exact List.mem_cons_self
  have hK : Back l R p e below s args y 3 8 (PreOf R mc ms Pc) (PostOf Qc mc ms free) := va_backW (hh := hh) (bytes := bytes) (maxL := maxL) (ret := ret) hM hp.1 hrc hrs hR.1 hR.2 (pay_in ht hG) hcw (fun a' U hW => word_at hW (Or.inl (by first | rfl | simp [Cond.onTables, Cond.keeps, Cond.steady])) hini)
  intro T hT X
  have hcode := ht _ (hG _ hcw).1
  obtain ⟨mk, methM, cM, hnamed, hmethM, -, -, -, -, -, -, hsigM⟩ := Cond.codeWith_spec hcode
  have hstatic : methM.isStatic = true := Cond.static_spec hnamed hmethM hst
  obtain ⟨kP, hkP, -⟩ := className_of_methodNamed hnamed
  have hinitP : kP.init = .initialized := Cond.initialized_spec (findClass_of_methodNamed hnamed) hkP hini
  have hlen : As.length = methM.sig.parameters.length := by
    have h2 := hd.2.2
    rw [hsigM] at h2
    exact hn.trans (Option.some.inj h2).symm
  obtain ⟨vm₁, X₁, hstep₁⟩ := X.invokestatic hx ho hlk hnamed hmethM hstatic hkP hinitP ⟨hd.1, hd.2.1⟩ (g := g) hg (argsL := As) (rest := rest) hlen hstack (by rw [hb]; exact hdg)
  obtain ⟨v, ⟨U', l2, c2, s2⟩, X', ⟨g', mk', t, L, e1, e2, hq, h1, hL, h2, h3⟩, hsteps⟩ := hK m meth c ⟨T.setVm vm₁, locs, cells, slots⟩ { g with stack := rest } (.invokestatic index) mk As.toArray X₁ hg (hsize.trans hml.symm) (by rw [hb]; exact hdg) hW (X₁.named hnamed) ⟨hf.1, hf.2, hp.2 (T.setVm vm₁) hT X₁.warmed⟩
  dsimp only [Pt.U, Pt.locs, Pt.cells, Pt.slots] at X' e1 e2 h1 h2 h3 hsteps
  subst h1; subst h2; subst h3
  exact ⟨v, (T.setVm vm₁).calling g' mk' As.toArray, t, U', L, hT, X', hL, e1, e2, hq, fun target h => hstep₁ _ fun acts => by rw [doInvoke_state]; exact hsteps.trans h⟩
end CT3
def bind5 {α γ δ ε ζ β : Type} (x : Option (α × γ × δ × ε × ζ)) (f : α → γ → δ → ε → ζ → Option β) : Option β := x.bind (fun y => f y.1 y.2.1 y.2.2.1 y.2.2.2.1 y.2.2.2.2)
theorem bind5_some {α γ δ ε ζ β : Type} {x : Option (α × γ × δ × ε × ζ)} {f : α → γ → δ → ε → ζ → Option β} {r : β} (h : bind5 x f = some r) : ∃ a b c d e, x = some (a, b, c, d, e) ∧ f a b c d e = some r := by
  obtain ⟨⟨a, b, c, d, e⟩, h1, h2⟩ := bind_some h
  exact ⟨a, b, c, d, e, h1, h2⟩
theorem res5 {α β γ δ ε : Type} {a c : α} {b d : β} {e f : γ} {g i : δ} {j k : ε} (h : some (a, b, e, g, j) = some (c, d, f, i, k)) : c = a ∧ d = b ∧ f = e ∧ i = g ∧ k = j := by
  have q := Option.some.inj h
  exact ⟨(congrArg Prod.fst q).symm, (congrArg (fun z => z.2.1) q).symm, (congrArg (fun z => z.2.2.1) q).symm, (congrArg (fun z => z.2.2.2.1) q).symm, (congrArg (fun z => z.2.2.2.2) q).symm⟩
