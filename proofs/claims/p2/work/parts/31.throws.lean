/-! THROWS: contracts of methods that throw (nothing old was written), the throw itself, a call that throws: on, or into a handler -/
def bt_End (first : State) (o : Outcome) (t : State) (k n : Nat) : Prop := (∃ x, o = .threw x) ∧ first.WarmedH t.vm ∧ first.sameButNew ({ t with vm := first.vm } : State) [] k n
/-- a method's contract on a start from which it throws, having written nothing old -/
def MetT (l : Launch) (y : MethodName) (ws : List Cond) (rm : Room) (Pc : Array Value → State → Prop) (Qc : Array Value → State → Outcome → State → Prop) (mc ms : Nat) : Prop :=
  MetFree l y (headSpec ws rm) Pc (fun _ _ _ _ _ => True) (fun a st o t => Qc a st o t ∧ bt_End st o t mc ms)
def bt_MQ (below : List Frame) (Qc : Array Value → State → Outcome → State → Prop) (a : Array Value) (s : State) (mc ms : Nat) : State → Prop := fun t =>
  ∃ o, t.status = .running ∧ Ended t below o ∧ Qc a s o t ∧ bt_End s o t mc ms
/-- the exception of class E lies at x, a new object of the tables' class -/
def bt_Ex (E : String) (x : Addr) (s t : State) : Prop := ∃ ce : Cell, t.heap[x]? = some ce ∧ s.vm.findClass E = some ce.cls ∧ ce.vm = .none ∧ s.heap.size ≤ x
/-- it threw an E; every old cell is as it was -/
def bt_Q (E : String) : Array Value → State → Outcome → State → Prop := fun _ st oc t => ∃ x : Addr, oc = .threw x ∧ bt_Ex E x st t ∧ ∀ q : Nat, q < st.heap.size → t.heap[q]? = st.heap[q]?
section BT1
variable {l : Launch}
theorem MetT.ofW {y : MethodName} {ws ws' : List Cond} {rm : Room} {Pc : Array Value → State → Prop} {Qc : Array Value → State → Outcome → State → Prop} {mc ms : Nat} {cc : ByteArray} {maxL : Nat} {ret : Option FieldType}
    (hy : plainName y.cls = true) (hw : ws = Cond.code y cc maxL ret :: ws')
    (body : ∀ p e s m args below meth c s₁, BodyLoose p l y (headSpec ws rm) cc maxL ret e s m args below meth c s₁ → c.maxLocals = maxL → Pc args s →
      W p l e (headSpec ws rm).room s m args below meth c s.heap [] 0 0 (bt_MQ below Qc args s mc ms) (entryFrame m args maxL)) : MetT l y ws rm Pc Qc mc ms := by
  refine MetFree.of_bodyS (code := cc) (maxLocals := maxL) (ret := ret) hy ?_ ?_
  · intro args s m h hn
    obtain ⟨meth, c, h1, h2, h3, h4, h5, h6, -, -⟩ := Cond.code_spec hn (atoms_spec (ws := ws) h _ (by rw [hw]; exact List.mem_cons_self))
    exact ⟨meth, c, h1, h2, h3, h4, h5, h6⟩
  · intro p e s m args below meth c s₁ B hml hP _
    have hh0 : s₁.heap = s.heap := by rw [B.state]; rfl
    obtain ⟨t, a1, o, b1, b2, b3⟩ := body p e s m args below meth c s₁ B hml hP s₁ hh0 (Stand.of_body B)
    exact ⟨t, o, a1, b1, b2, ⟨b3.1, b3.2⟩⟩
end BT1
theorem bt_same {s t : State} {k n : Nat} (h : s.sameButNew ({ t with vm := s.vm } : State) [] k n) : ∀ q : Nat, q < s.heap.size → t.heap[q]? = s.heap[q]? := by
  intro q hq
  have hc : s.heap[q]? = some s.heap[q] := Array.getElem?_eq_getElem hq
  obtain ⟨c', h1, h2, h3, h4⟩ := h.2.2.2.2.2 q _ hc
  have h5 : c'.slots = s.heap[q].slots := by
    apply Array.ext_getElem?
    intro i
    exact h4 i (by simp)
  have h6 : c' = s.heap[q] := by rw [h2, h5]
  rw [hc, ← h6]
  exact h1
section BT2
variable {p : Program} {l : Launch} {e : Env} {R : Room} {s : State} {m : MethodId} {args : Array Value} {below : List Frame} {meth : Method} {c : Code} {cc : ByteArray} {pc : Nat} {ls : Array Slot} {rest : List Value}
/-- new E("text") and athrow, at the very start's heap -/
theorem bt_throw (hexec : p.tables.exec = Jvm.exec) (hb : c.code = cc) (hl : l.stackTraces = false) {own cls tx : String} {names : List String} {ik is ic q : Nat} (hown : s.vm.findClass own = some m.cls)
    (hcls : Bundle.fit cls = true) (hnames : ∀ n ∈ names, Bundle.fit n = true) (hat : ∀ a ∈ Bundle.ownAtoms own ic cls names, a.before args s = true)
    (hclink : (Cond.classLink own ik cls).before args s = true) (hins : (Cond.instantiable cls 6).before args s = true) (hini : (Cond.initialized cls).before args s = true) (hZ : vk_R own is tx q s)
    (d0 : decode cc pc = .ok (.new ik, 3)) (d3 : decode cc (pc + 3) = .ok (.dup, 1)) (d4 : decode cc (pc + 4) = .ok (.ldc is, 2)) (d6 : decode cc (pc + 6) = .ok (.invokespecial ic, 3)) (d9 : decode cc (pc + 9) = .ok (.athrow, 1))
    (hex : c.exceptionTable.isEmpty = true) (hsize : ls.size = c.maxLocals) (hlocks : meth.locks = false) (hf : names.length + 3 < R.frames) (hlo : ((Value.ref s.heap.size :: rest).map fun v => v.category).sum + (13 * (names.length + 1) + 42) ≤ R.locals) (hcells : 1 ≤ R.cells) (hslots : 6 ≤ R.slots) :
    W p l e R s m args below meth c s.heap [] 0 0 (bt_MQ below (bt_Q cls) args s 1 6) (F0 m pc ls rest) := by
  refine W.newc hexec hb hown hclink hins hini rfl d0 (by simpa using hcells) (by simpa using hslots) (fun cC kC hfc hk hord hsz => ?_)
  refine lv_dup hexec hb d3 rfl ?_
  refine va_ldcS hexec hb hown hZ d4 ?_
  intro T hT X
  have htr : e.platform.stackTraces = false := (show e.platform.stackTraces = l.stackTraces by rw [X.admits.platform]).trans hl
  have hout : ∀ (x : ExceptionTableEntry), x ∈ c.exceptionTable.toList → covers x (pc + 6 + 3) = false := by
    intro x hx
    have h0 : c.exceptionTable.size = 0 := by simpa [Array.isEmpty] using hex
    have h1 : c.exceptionTable.toList = [] := List.eq_nil_of_length_eq_zero (by simpa using h0)
    rw [h1] at hx
    cases hx
  obtain ⟨U, st, hrun, hend, hW, hsame, ce, hce, hO⟩ := X.ctorThrowS hexec htr hown hcls hnames hat (fun x hx => by cases hx) hfc hk (a := s.heap.size) (by rw [hT]; simp [freshCell]) (Nat.le_refl _) (msg := .ref q) rfl
    (g := F0 m (pc + 6) ls (.ref q :: .ref s.heap.size :: .ref s.heap.size :: rest)) rfl hsize rfl rfl (rest := rest) rfl (by rw [hb]; exact d6) (by rw [hb]; exact d9) hout hf (by show 2 * 0 + _ + _ ≤ _; omega) hlocks
  exact ⟨U, st, .threw s.heap.size, hrun, hend, ⟨_, rfl, ⟨ce, hce, hO.cls, hO.vm, Nat.le_refl _⟩, bt_same hsame⟩, ⟨⟨_, rfl⟩, hW, hsame⟩⟩
end BT2
section BT3
variable {p : Program} {l : Launch} {e : Env} {R : Room} {s : State} {m : MethodId} {args : Array Value} {below : List Frame} {meth : Method} {c : Code} {T : State} {locs : List Loc} {cells slots : Nat}
/-- the callee throws: the caller stands again, with the note over its frame -/
theorem bt_back (X : Stand p l e R s m args below meth c T locs cells slots) {y : MethodName} {ws : List Cond} {rm : Room} {Pc : Array Value → State → Prop} {E : String} {mc ms : Nat} {bytes : ByteArray} {maxL : Nat} {ret : Option FieldType}
    (hM : MetT l y ws rm Pc (bt_Q E) mc ms) (hblind : FrameBlind Pc) (hrc : rm.cells = mc) (hrs : rm.slots = ms) (hframes : rm.frames + 1 ≤ R.frames) (hlocals : 8 + (maxL + 11) + rm.locals ≤ R.locals)
    (hws : ∀ w ∈ ws, ∀ (a' : Array Value) (U : State), s.WarmedH U.vm → w.before a' U = true) (hcode : Cond.code y bytes maxL ret ∈ ws) (hinit : ∀ (a' : Array Value) (U : State), s.WarmedH U.vm → (Cond.initialized y.cls).before a' U = true)
    {g : JFrame} (hg : g.method = m) (hsize : g.locals.size = c.maxLocals) {ig : Instr} {len : Nat} (hdg : decode c.code g.pc = .ok (ig, len)) (hW : 2 * g.monitorRoom + (g.stack.map fun v => v.category).sum ≤ 8)
    {mk : MethodId} (hn : T.methodNamed? y = some mk) {a : Array Value} (hPc : Pc a T) (hc : cells + mc ≤ R.cells) (hs : slots + ms ≤ R.slots) :
    ∃ (x : Addr) (T' : State), Stand p l e R s m args below meth c T' locs (cells + mc) (slots + ms) ∧ (∃ ce : Cell, T'.heap[x]? = some ce ∧ s.vm.findClass E = some ce.cls ∧ ce.vm = .none ∧ T.heap.size ≤ x) ∧ (∀ q : Nat, q < T.heap.size → T'.heap[q]? = T.heap[q]?) ∧ T.heap.size ≤ T'.heap.size ∧
      Steps p.tables e below (doInvoke e (T.setTop g) [] mk a).1 ((T'.setTop g).pushFrame (.throwing x)) := by
  have h1 : (headSpec ws rm).pre.before a T = true := atoms_intro fun w hw => hws w hw _ _ X.warmed
  have h2 := hws _ hcode a T X.warmed
  have h3 := hinit a T X.warmed
  obtain ⟨methY, cY, hmY, hcY, -, hlY, -, -, -, -⟩ := Cond.code_spec hn h2
  obtain ⟨kY, hkY, -⟩ := className_of_methodNamed hn
  have hinitY : kY.init = .initialized := Cond.initialized_spec (findClass_of_methodNamed hn) hkY h3
  have h : At T g.method c below := by rw [hg]; exact X.here
  have hl9 : (headSpec ws rm).room.locals = rm.locals := rfl
  have happ : (headSpec ws rm).appliesLoose y e.platform (T.calling g mk a) = true :=
    Spec.appliesLoose_calling (g := g) h hdg hn hkY hinitY
      (X.room_calling (g := g) (R' := (headSpec ws rm).room) hsize hmY hcY hframes (by rw [hlY, hl9]; omega) (by rw [show (headSpec ws rm).room.cells = mc from hrc]; exact hc) (by rw [show (headSpec ws rm).room.slots = ms from hrs]; exact hs)) h1
  obtain ⟨mid, hmid⟩ := h.above
  have hfr : (T.setTop g).frames = (.java g :: mid) ++ below := by rw [State.frames_setTop' g h.top, hmid]; rfl
  obtain ⟨o, s₂, hsteps, -, hend, hq⟩ := Steps.callFree hM p X.admits X.cas X.clock (acts := []) hfr happ (hblind _ _ _ _ hPc) trivial
  obtain ⟨⟨x, ho, ⟨ce, hx1, hx2, hx3, hx4⟩, hold⟩, -, hWt, hsm⟩ := hq
  subst ho
  rw [State.frames_setTop' g h.top, X.tail] at hend
  obtain ⟨T', X', hW', hB, ht⟩ := X.outOfThrown hg hend hWt hsm
  have hheap : s₂.heap = T'.heap := by rw [ht]; rfl
  rw [List.append_nil] at X'
  refine ⟨x, T', X', ⟨ce, by rw [← hheap]; exact hx1, ?_, hx3, hx4⟩, fun q hq => by rw [← hheap]; exact hold q hq, by rw [← hheap]; exact hsm.2.1, ?_⟩
  · have h9 : T.vm.findClass E = some ce.cls := hx2
    rw [X.warmed.alike.findClass] at h9
    exact h9
  · rw [← ht]
    exact hsteps
end BT3
section BT4
variable {p : Program} {l : Launch} {e : Env} {R : Room} {s : State} {m : MethodId} {args : Array Value} {below : List Frame} {meth : Method} {c : Code} {cc : ByteArray} {pc : Nat} {ls : Array Slot} {st0 rest As : List Value}
theorem bt_noTable (hex : c.exceptionTable.isEmpty = true) (n : Nat) : ∀ (x : ExceptionTableEntry), x ∈ c.exceptionTable.toList → covers x n = false := by
  intro x hx
  have h0 : c.exceptionTable.size = 0 := by simpa [Array.isEmpty] using hex
  have h1 : c.exceptionTable.toList = [] := List.eq_nil_of_length_eq_zero (by simpa using h0)
  rw [h1] at hx
  cases hx
/-- the callee throws, and nothing here takes it: the method throws -/
theorem bt_leave {H : Heap} {T' : State} {E : String} {x : Addr} {k n : Nat} (X' : Stand p l e R s m args below meth c T' [] k n) (hex : c.exceptionTable.isEmpty = true) (hlocks : meth.locks = false)
    (hH : H = s.heap) (hce : ∃ ce : Cell, T'.heap[x]? = some ce ∧ s.vm.findClass E = some ce.cls ∧ ce.vm = .none ∧ H.size ≤ x) (hold : ∀ q : Nat, q < H.size → T'.heap[q]? = H[q]?) :
    ∃ t, Steps p.tables e below ((T'.setTop (F0 m pc ls rest)).pushFrame (.throwing x)) t ∧ bt_MQ below (bt_Q E) args s k n t := by
  subst hH
  obtain ⟨st1, hrun, hend, hWx, hsm⟩ := X'.leaveThrown x (g := F0 m pc ls rest) rfl rfl rfl (bt_noTable hex pc) hlocks
  exact ⟨_, st1, .threw x, hrun, hend, ⟨x, rfl, hce, hold⟩, ⟨⟨_, rfl⟩, hWx, hsm⟩⟩
theorem bt_outV {own C : String} {index n maxL : Nat} {y : MethodName} {bytes : ByteArray} {ret : Option FieldType} {ws : List Cond} {rm : Room} {Pc : Array Value → State → Prop} {E : String} {b : Addr} {nL : Nat} {Ts : List Cond} (S : CallFix p m c cc nL s args Ts own) (hM : MetT l y ws rm Pc (bt_Q E) 1 6) (cw : CallW R s args own C index y bytes maxL ret ws rm 1 6 n) (hp : PreV s s.heap C b Pc As)
    (hn : As.length = n) (hsize : ls.size = nL) (hstack : st0 = As.reverse ++ .ref b :: rest) (hWk : 2 * (F0 m pc ls rest).monitorRoom + (rest.map fun v => v.category).sum ≤ 8) (hdg : decode cc pc = .ok (.invokevirtual index, 3)) (hex : c.exceptionTable.isEmpty = true) (hlocks : meth.locks = false) (hf : 1 ≤ R.cells ∧ 6 ≤ R.slots) :
    W p l e R s m args below meth c s.heap [] 0 0 (bt_MQ below (bt_Q E) args s 1 6) (F0 m pc ls st0) := by
  obtain ⟨⟨hrc, hrs, hfr, hlo, hws, hcw, hcode, hini, hy, hlen, hl⟩, hin, hse⟩ := cw
  obtain ⟨hx, hb, hml, ho, -⟩ := S
  obtain ⟨hbl, ⟨cellB, hcB, hoB, hclB⟩, hPc⟩ := hp
  intro T hT X
  obtain ⟨mk, methM, hnamed, hmethM, hstM, habM⟩ := Cond.instanceMethod_spec hin
  obtain ⟨methM', cM, hmethM', -, -, -, -, -, -, hsigM⟩ := Cond.code_spec hnamed hcode
  cases hmethM.symm.trans hmethM'
  obtain ⟨c2, r2, m2, q1, q2, q3, q4, kP, hkP, hkPi⟩ := Cond.selects_spec hse
  cases hclB.symm.trans q1
  cases (State.methodFound?_of_named hnamed hy).symm.trans q2
  cases hnamed.symm.trans q3
  have hselP : selectMethod e.platform s.vm cellB.cls mk = .method mk := by rw [Launch.admits_selectMethod X.admits]; exact q4
  obtain ⟨vm₁, X₁, hstep₁⟩ := X.invokevirtual hx ho hl hnamed hmethM hstM hkP hkPi hy (a := b) (cell := cellB) (by rw [hT]; exact hcB)
    (fun z h => by rw [h] at hoB; cases hoB) hselP hmethM habM hkP hkPi (g := F0 m pc ls st0) rfl (argsL := As) (rest := rest) (hn.trans (hlen _ hsigM)) hstack (by rw [hb]; exact hdg)
  obtain ⟨x, T', X', hce, hold, -, hsteps⟩ := bt_back X₁ (bytes := bytes) (maxL := maxL) (ret := ret) hM hbl hrc hrs hfr hlo hws hcw (fun a' U hW => word_at hW (Or.inl (by first | rfl | simp [Cond.onTables, Cond.keeps, Cond.steady])) hini)
    (g := F0 m pc ls rest) rfl (hsize.trans hml.symm) (by rw [hb]; exact hdg) hWk (X₁.named hnamed) (a := (Value.ref b :: As).toArray) (hPc (T.setVm vm₁) hT X₁.warmed) (by simpa using hf.1) (by simpa using hf.2)
  obtain ⟨t, st1, hQ⟩ := bt_leave (pc := pc) (ls := ls) (rest := rest) X' hex hlocks (H := (T.setVm vm₁).heap) hT hce hold
  exact ⟨t, (hstep₁ _ fun acts => by rw [doInvoke_state]; exact hsteps).trans st1, by simpa using hQ⟩
theorem bt_outS {own : String} {index n maxL : Nat} {y : MethodName} {bytes : ByteArray} {ret : Option FieldType} {ws : List Cond} {rm : Room} {Pc : Array Value → State → Prop} {E : String} {nL : Nat} {Ts : List Cond} (S : CallFix p m c cc nL s args Ts own) (hM : MetT l y ws rm Pc (bt_Q E) 1 6) (cw : CallB R s args own index y bytes maxL ret ws rm 1 6 n ∧ (Cond.static y).before args s = true) (hp : PreS s s.heap Pc As)
    (hn : As.length = n) (hsize : ls.size = nL) (hstack : st0 = As.reverse ++ rest) (hWk : 2 * (F0 m pc ls rest).monitorRoom + (rest.map fun v => v.category).sum ≤ 8) (hdg : decode cc pc = .ok (.invokestatic index, 3)) (hex : c.exceptionTable.isEmpty = true) (hlocks : meth.locks = false) (hf : 1 ≤ R.cells ∧ 6 ≤ R.slots) :
    W p l e R s m args below meth c s.heap [] 0 0 (bt_MQ below (bt_Q E) args s 1 6) (F0 m pc ls st0) := by
  obtain ⟨⟨hrc, hrs, hfr, hlo, hws, hcw, hcode, hini, hy, hlen, hl⟩, hstt⟩ := cw
  obtain ⟨hx, hb, hml, ho, -⟩ := S
  obtain ⟨hbl, hPc⟩ := hp
  intro T hT X
  obtain ⟨mk, hnamed⟩ := Cond.code_named hcode
  obtain ⟨methM, cM, hmethM, -, -, -, -, -, -, hsigM⟩ := Cond.code_spec hnamed hcode
  have hstatic : methM.isStatic = true := Cond.static_spec hnamed hmethM hstt
  obtain ⟨kP, hkP, -⟩ := className_of_methodNamed hnamed
  have hinitP : kP.init = .initialized := Cond.initialized_spec (findClass_of_methodNamed hnamed) hkP hini
  obtain ⟨vm₁, X₁, hstep₁⟩ := X.invokestatic hx ho hl hnamed hmethM hstatic hkP hinitP hy (g := F0 m pc ls st0) rfl (argsL := As) (rest := rest) (hn.trans (hlen _ hsigM)) hstack (by rw [hb]; exact hdg)
  obtain ⟨x, T', X', hce, hold, -, hsteps⟩ := bt_back X₁ (bytes := bytes) (maxL := maxL) (ret := ret) hM hbl hrc hrs hfr hlo hws hcw (fun a' U hW => word_at hW (Or.inl (by first | rfl | simp [Cond.onTables, Cond.keeps, Cond.steady])) hini)
    (g := F0 m pc ls rest) rfl (hsize.trans hml.symm) (by rw [hb]; exact hdg) hWk (X₁.named hnamed) (a := As.toArray) (hPc (T.setVm vm₁) hT X₁.warmed) (by simpa using hf.1) (by simpa using hf.2)
  obtain ⟨t, st1, hQ⟩ := bt_leave (pc := pc) (ls := ls) (rest := rest) X' hex hlocks (H := (T.setVm vm₁).heap) hT hce hold
  exact ⟨t, (hstep₁ _ fun acts => by rw [doInvoke_state]; exact hsteps).trans st1, by simpa using hQ⟩
end BT4
