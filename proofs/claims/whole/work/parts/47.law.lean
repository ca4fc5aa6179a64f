/-! THE CLAIM OUT OF ONE WALK OF THE LAW'S BODY. Your part is whole_start (and what it stands on); all else here is the same for every law, but numbers. -/
def R_law : String := "PartFormulasLaw"
def lw_P (b : Addr) (xs : List Int32) (args : Array Value) (s : State) : Prop := args = #[.ref b] ∧ s.IntsAt b xs ∧ xs.length ≤ 3072 ∧ (Jvm.Cond.and given_1 narrow_1).before args s = true
def lw_Q (_ : Array Value) (s : State) (o : Outcome) (t : State) : Prop := o = .returned (some (.int 1)) ∧ Framed s o t [] 601024 7293034
def lw_Z (below : List Frame) (a : Array Value) (s : State) : State → Prop := fun t => ∃ o, t.status = .running ∧ Ended t below o ∧ lw_Q a s o t
/-- the law's own end, with 1 on the stack, nothing written that was there before, its room as the claim has it -/
theorem lw_ret {p : Program} {l : Launch} {e : Env} {s : State} {m : MethodId} {below : List Frame} {meth : Method} {c : Code} {b : Nat} (hx : p.tables.exec = Jvm.exec) (hb : c.code = code) (hr : meth.sig.returnType = ret) (hlocks : meth.locks = false) {pc : Nat} {H : Heap} {ls : Array Slot} (hdg : decode code pc = .ok (.ireturn, 1)) : W p l e room_1 s m #[Value.ref b] below meth c H [] 601024 7293034 (lw_Z below #[Value.ref b] s) (F0 m pc ls [.int 1]) := by
  intro T hT X
  obtain ⟨fs, hret, hrun, hended, hW, hframe⟩ := X.leave (v := some (.int 1)) (hlocks := hlocks) (fun h => by rw [hr] at h; cases h)
  have hmeth' : T.vm.method? m = some meth := X.method'
  refine ⟨T.setFrames fs, ?_, .returned (some (.int 1)), hrun, hended, rfl, ⟨_, rfl⟩, hW, hframe⟩
  jvm_step X.here [X.here.top, hx, hb, hdg, hmeth', hr, ret, narrow_b1]
  (try refine ⟨rfl, ?_⟩); (try refine ⟨rfl, ?_⟩)
  first | (intro acts; rw [hret _ acts rfl rfl rfl]) | rw [hret _ _ rfl rfl rfl]
  exact Steps.refl _
/-- what holds at the law's entry: the machine, the code, the tables' words (any of lw_tbl by 'hts w (by decide +kernel)'), the script of L ints xs at the cell b, what the Statement gives of the start (any of its parts by flat_of_before) -/
def lw_At (p : Program) (s : State) (m : MethodId) (meth : Method) (c : Code) (b L : Nat) (xs : Nat → Int32) : Prop :=
  p.tables.exec = Jvm.exec ∧ c.code = code ∧ meth.sig.returnType = ret ∧ c.maxLocals = 8 ∧ s.vm.findClass R_law = some m.cls ∧ (∀ w ∈ lw_tbl, w.before #[Value.ref b] s = true) ∧ va_X b L xs s s.heap ∧ b < s.heap.size ∧ meth.locks = false ∧ (Jvm.Cond.and given_1 narrow_1).before #[Value.ref b] s = true
def lcx (p : Program) (s : State) (m : MethodId) (meth : Method) (c : Code) (b L : Nat) (xs : Nat → Int32) (A : Nat → Prop) (ct dC : Nat → ClassId) (dI : Nat → Nat → Nat) : Prop :=
  p.tables.exec = Jvm.exec ∧ c.code = code ∧ meth.sig.returnType = ret ∧ c.maxLocals = 8 ∧ s.vm.findClass R_Law = some m.cls ∧ meth.locks = false ∧ (∀ w ∈ wsAll, w.before #[Value.ref b] s = true) ∧ va_K (dC, dI) vwCl (tyA ct) s ∧ (∀ q : Nat, s.heap.size ≤ q → A q) ∧ (∀ q : Nat, A q → s.heap.size ≤ q) ∧ va_X b L xs s s.heap ∧ b < s.heap.size ∧ nx s ∧ thy s ∧ exX s ∧ sx A s
theorem room_c : room_1.cells = 601024 := rfl
theorem room_s : room_1.slots = 7293034 := rfl
/-! THE LAW: its loop -/
abbrev b_Law_law : ByteArray := code
theorem cd_PF_unit : Cond.code ⟨"PartFormulas", "unit", "(I)Z"⟩ prog_1_method_2_code 2 (some .boolean) ∈ wsAll := wa_of 336 (by decide +kernel) (by decide +kernel)
theorem ml_Law_68 : Cond.methodLink "PartFormulasLaw" 68 ⟨"PartFormulas", "unit", "(I)Z"⟩ ∈ wsAll := wa_of 333 (by decide +kernel) (by decide +kernel)
theorem im_PF_unit : Cond.instanceMethod ⟨"PartFormulas", "unit", "(I)Z"⟩ ∈ wsAll := wa_of 334 (by decide +kernel) (by decide +kernel)
theorem se_PF_unit : Cond.selects "PartFormulas" ⟨"PartFormulas", "unit", "(I)Z"⟩ ⟨"PartFormulas", "unit", "(I)Z"⟩ ∈ wsAll := wa_of 335 (by decide +kernel) (by decide +kernel)
theorem cd_Mod_unit : Cond.code ⟨"PartFormulasModel", "unit", "(I)Z"⟩ prog_8_method_3_code 3 (some .boolean) ∈ wsAll := wa_of 1031 (by decide +kernel) (by decide +kernel)
theorem ml_Law_72 : Cond.methodLink "PartFormulasLaw" 72 ⟨"PartFormulasModel", "unit", "(I)Z"⟩ ∈ wsAll := wa_of 1028 (by decide +kernel) (by decide +kernel)
theorem im_Mod_unit : Cond.instanceMethod ⟨"PartFormulasModel", "unit", "(I)Z"⟩ ∈ wsAll := wa_of 1029 (by decide +kernel) (by decide +kernel)
theorem se_Mod_unit : Cond.selects "PartFormulasModel" ⟨"PartFormulasModel", "unit", "(I)Z"⟩ ⟨"PartFormulasModel", "unit", "(I)Z"⟩ ∈ wsAll := wa_of 1030 (by decide +kernel) (by decide +kernel)
theorem cd_PF_read : Cond.code ⟨"PartFormulas", "read", "()I"⟩ prog_1_method_3_code 2 (some .int) ∈ wsAll := wa_of 344 (by decide +kernel) (by decide +kernel)
theorem ml_Law_73 : Cond.methodLink "PartFormulasLaw" 73 ⟨"PartFormulas", "read", "()I"⟩ ∈ wsAll := wa_of 341 (by decide +kernel) (by decide +kernel)
theorem im_PF_read : Cond.instanceMethod ⟨"PartFormulas", "read", "()I"⟩ ∈ wsAll := wa_of 342 (by decide +kernel) (by decide +kernel)
theorem se_PF_read : Cond.selects "PartFormulas" ⟨"PartFormulas", "read", "()I"⟩ ⟨"PartFormulas", "read", "()I"⟩ ∈ wsAll := wa_of 343 (by decide +kernel) (by decide +kernel)
theorem cd_Mod_read : Cond.code ⟨"PartFormulasModel", "read", "()I"⟩ prog_8_method_26_code 1 (some .int) ∈ wsAll := wa_of 1035 (by decide +kernel) (by decide +kernel)
theorem ml_Law_76 : Cond.methodLink "PartFormulasLaw" 76 ⟨"PartFormulasModel", "read", "()I"⟩ ∈ wsAll := wa_of 1032 (by decide +kernel) (by decide +kernel)
theorem im_Mod_read : Cond.instanceMethod ⟨"PartFormulasModel", "read", "()I"⟩ ∈ wsAll := wa_of 1033 (by decide +kernel) (by decide +kernel)
theorem se_Mod_read : Cond.selects "PartFormulasModel" ⟨"PartFormulasModel", "read", "()I"⟩ ⟨"PartFormulasModel", "read", "()I"⟩ ∈ wsAll := wa_of 1034 (by decide +kernel) (by decide +kernel)
theorem cd_Law_write : Cond.codeWith ⟨"PartFormulasLaw", "write", "(LPartFormulas;I[J)I"⟩ method_3_code 4 (some .int) [(0, 9, 12, 13), (0, 9, 15, 15)] ∈ wsAll := wa_of 595 (by decide +kernel) (by decide +kernel)
theorem ml_Law_77 : Cond.methodLink "PartFormulasLaw" 77 ⟨"PartFormulasLaw", "write", "(LPartFormulas;I[J)I"⟩ ∈ wsAll := wa_of 593 (by decide +kernel) (by decide +kernel)
theorem st_Law_write : Cond.static ⟨"PartFormulasLaw", "write", "(LPartFormulas;I[J)I"⟩ ∈ wsAll := wa_of 594 (by decide +kernel) (by decide +kernel)
theorem ini_Law : Cond.initialized "PartFormulasLaw" ∈ wsAll := wa_of 73 (by decide +kernel) (by decide +kernel)
theorem cd_Mod_write : Cond.code ⟨"PartFormulasModel", "write", "(I)I"⟩ prog_8_method_67_code 3 (some .int) ∈ wsAll := wa_of 1250 (by decide +kernel) (by decide +kernel)
theorem ml_Law_82 : Cond.methodLink "PartFormulasLaw" 82 ⟨"PartFormulasModel", "write", "(I)I"⟩ ∈ wsAll := wa_of 1247 (by decide +kernel) (by decide +kernel)
theorem im_Mod_write : Cond.instanceMethod ⟨"PartFormulasModel", "write", "(I)I"⟩ ∈ wsAll := wa_of 1248 (by decide +kernel) (by decide +kernel)
theorem se_Mod_write : Cond.selects "PartFormulasModel" ⟨"PartFormulasModel", "write", "(I)I"⟩ ⟨"PartFormulasModel", "write", "(I)I"⟩ ∈ wsAll := wa_of 1249 (by decide +kernel) (by decide +kernel)
theorem cd_Mod_thrown : Cond.code ⟨"PartFormulasModel", "thrown", "()I"⟩ prog_8_method_2_code 1 (some .int) ∈ wsAll := wa_of 1027 (by decide +kernel) (by decide +kernel)
theorem ml_Law_83 : Cond.methodLink "PartFormulasLaw" 83 ⟨"PartFormulasModel", "thrown", "()I"⟩ ∈ wsAll := wa_of 1024 (by decide +kernel) (by decide +kernel)
theorem im_Mod_thrown : Cond.instanceMethod ⟨"PartFormulasModel", "thrown", "()I"⟩ ∈ wsAll := wa_of 1025 (by decide +kernel) (by decide +kernel)
theorem se_Mod_thrown : Cond.selects "PartFormulasModel" ⟨"PartFormulasModel", "thrown", "()I"⟩ ⟨"PartFormulasModel", "thrown", "()I"⟩ ∈ wsAll := wa_of 1026 (by decide +kernel) (by decide +kernel)
theorem cn_Law_86 : Cond.constantLong "PartFormulasLaw" 86 4294967295 ∈ wsAll := wa_of 1286 (by decide +kernel) (by decide +kernel)
theorem cd_Law_set : Cond.codeWith ⟨"PartFormulasLaw", "set", "(LPartFormulas;IJJ[J)I"⟩ method_4_code 8 (some .int) [(0, 20, 23, 21), (0, 20, 27, 15)] ∈ wsAll := wa_of 694 (by decide +kernel) (by decide +kernel)
theorem ml_Law_88 : Cond.methodLink "PartFormulasLaw" 88 ⟨"PartFormulasLaw", "set", "(LPartFormulas;IJJ[J)I"⟩ ∈ wsAll := wa_of 692 (by decide +kernel) (by decide +kernel)
theorem st_Law_set : Cond.static ⟨"PartFormulasLaw", "set", "(LPartFormulas;IJJ[J)I"⟩ ∈ wsAll := wa_of 693 (by decide +kernel) (by decide +kernel)
theorem cd_Mod_set : Cond.code ⟨"PartFormulasModel", "set", "(IJJ)Z"⟩ prog_8_method_41_code 13 (some .boolean) ∈ wsAll := wa_of 1175 (by decide +kernel) (by decide +kernel)
theorem ml_Law_91 : Cond.methodLink "PartFormulasLaw" 91 ⟨"PartFormulasModel", "set", "(IJJ)Z"⟩ ∈ wsAll := wa_of 1172 (by decide +kernel) (by decide +kernel)
theorem im_Mod_set : Cond.instanceMethod ⟨"PartFormulasModel", "set", "(IJJ)Z"⟩ ∈ wsAll := wa_of 1173 (by decide +kernel) (by decide +kernel)
theorem se_Mod_set : Cond.selects "PartFormulasModel" ⟨"PartFormulasModel", "set", "(IJJ)Z"⟩ ⟨"PartFormulasModel", "set", "(IJJ)Z"⟩ ∈ wsAll := wa_of 1174 (by decide +kernel) (by decide +kernel)
theorem cd_Law_run : Cond.codeWith ⟨"PartFormulasLaw", "run", "(LPartFormulas;[J)I"⟩ method_5_code 3 (some .int) [(0, 8, 11, 13)] ∈ wsAll := wa_of 784 (by decide +kernel) (by decide +kernel)
theorem ml_Law_92 : Cond.methodLink "PartFormulasLaw" 92 ⟨"PartFormulasLaw", "run", "(LPartFormulas;[J)I"⟩ ∈ wsAll := wa_of 782 (by decide +kernel) (by decide +kernel)
theorem st_Law_run : Cond.static ⟨"PartFormulasLaw", "run", "(LPartFormulas;[J)I"⟩ ∈ wsAll := wa_of 783 (by decide +kernel) (by decide +kernel)
theorem cd_Mod_run : Cond.code ⟨"PartFormulasModel", "run", "()I"⟩ prog_8_method_40_code 3 (some .int) ∈ wsAll := wa_of 1128 (by decide +kernel) (by decide +kernel)
theorem ml_Law_95 : Cond.methodLink "PartFormulasLaw" 95 ⟨"PartFormulasModel", "run", "()I"⟩ ∈ wsAll := wa_of 1125 (by decide +kernel) (by decide +kernel)
theorem im_Mod_run : Cond.instanceMethod ⟨"PartFormulasModel", "run", "()I"⟩ ∈ wsAll := wa_of 1126 (by decide +kernel) (by decide +kernel)
theorem se_Mod_run : Cond.selects "PartFormulasModel" ⟨"PartFormulasModel", "run", "()I"⟩ ⟨"PartFormulasModel", "run", "()I"⟩ ∈ wsAll := wa_of 1127 (by decide +kernel) (by decide +kernel)
theorem cd_Law_state : Cond.codeWith ⟨"PartFormulasLaw", "state", "(LPartFormulas;II[J)I"⟩ method_6_code 5 (some .int) [(0, 10, 13, 13), (0, 10, 17, 21)] ∈ wsAll := wa_of 796 (by decide +kernel) (by decide +kernel)
theorem ml_Law_96 : Cond.methodLink "PartFormulasLaw" 96 ⟨"PartFormulasLaw", "state", "(LPartFormulas;II[J)I"⟩ ∈ wsAll := wa_of 794 (by decide +kernel) (by decide +kernel)
theorem st_Law_state : Cond.static ⟨"PartFormulasLaw", "state", "(LPartFormulas;II[J)I"⟩ ∈ wsAll := wa_of 795 (by decide +kernel) (by decide +kernel)
theorem cd_Mod_state : Cond.code ⟨"PartFormulasModel", "state", "(II)I"⟩ prog_8_method_44_code 3 (some .int) ∈ wsAll := wa_of 1187 (by decide +kernel) (by decide +kernel)
theorem ml_Law_99 : Cond.methodLink "PartFormulasLaw" 99 ⟨"PartFormulasModel", "state", "(II)I"⟩ ∈ wsAll := wa_of 1184 (by decide +kernel) (by decide +kernel)
theorem im_Mod_state : Cond.instanceMethod ⟨"PartFormulasModel", "state", "(II)I"⟩ ∈ wsAll := wa_of 1185 (by decide +kernel) (by decide +kernel)
theorem se_Mod_state : Cond.selects "PartFormulasModel" ⟨"PartFormulasModel", "state", "(II)I"⟩ ⟨"PartFormulasModel", "state", "(II)I"⟩ ∈ wsAll := wa_of 1186 (by decide +kernel) (by decide +kernel)
theorem cd_Law_size : Cond.codeWith ⟨"PartFormulasLaw", "size", "(LPartFormulas;III[J)I"⟩ method_7_code 6 (some .int) [(0, 11, 14, 21), (0, 11, 18, 15), (0, 11, 22, 13)] ∈ wsAll := wa_of 811 (by decide +kernel) (by decide +kernel)
theorem ml_Law_100 : Cond.methodLink "PartFormulasLaw" 100 ⟨"PartFormulasLaw", "size", "(LPartFormulas;III[J)I"⟩ ∈ wsAll := wa_of 809 (by decide +kernel) (by decide +kernel)
theorem st_Law_size : Cond.static ⟨"PartFormulasLaw", "size", "(LPartFormulas;III[J)I"⟩ ∈ wsAll := wa_of 810 (by decide +kernel) (by decide +kernel)
theorem cd_Mod_size : Cond.code ⟨"PartFormulasModel", "size", "(III)J"⟩ prog_8_method_45_code 4 (some .long) ∈ wsAll := wa_of 1194 (by decide +kernel) (by decide +kernel)
theorem ml_Law_103 : Cond.methodLink "PartFormulasLaw" 103 ⟨"PartFormulasModel", "size", "(III)J"⟩ ∈ wsAll := wa_of 1191 (by decide +kernel) (by decide +kernel)
theorem im_Mod_size : Cond.instanceMethod ⟨"PartFormulasModel", "size", "(III)J"⟩ ∈ wsAll := wa_of 1192 (by decide +kernel) (by decide +kernel)
theorem se_Mod_size : Cond.selects "PartFormulasModel" ⟨"PartFormulasModel", "size", "(III)J"⟩ ⟨"PartFormulasModel", "size", "(III)J"⟩ ∈ wsAll := wa_of 1193 (by decide +kernel) (by decide +kernel)
theorem cd_Law_ring : Cond.codeWith ⟨"PartFormulasLaw", "ring", "(LPartFormulas;I[J)I"⟩ method_8_code 4 (some .int) [(0, 9, 12, 13), (0, 9, 15, 15)] ∈ wsAll := wa_of 823 (by decide +kernel) (by decide +kernel)
theorem ml_Law_104 : Cond.methodLink "PartFormulasLaw" 104 ⟨"PartFormulasLaw", "ring", "(LPartFormulas;I[J)I"⟩ ∈ wsAll := wa_of 821 (by decide +kernel) (by decide +kernel)
theorem st_Law_ring : Cond.static ⟨"PartFormulasLaw", "ring", "(LPartFormulas;I[J)I"⟩ ∈ wsAll := wa_of 822 (by decide +kernel) (by decide +kernel)
theorem cd_Mod_ring : Cond.code ⟨"PartFormulasModel", "ring", "(I)I"⟩ prog_8_method_46_code 4 (some .int) ∈ wsAll := wa_of 1198 (by decide +kernel) (by decide +kernel)
theorem ml_Law_106 : Cond.methodLink "PartFormulasLaw" 106 ⟨"PartFormulasModel", "ring", "(I)I"⟩ ∈ wsAll := wa_of 1195 (by decide +kernel) (by decide +kernel)
theorem im_Mod_ring : Cond.instanceMethod ⟨"PartFormulasModel", "ring", "(I)I"⟩ ∈ wsAll := wa_of 1196 (by decide +kernel) (by decide +kernel)
theorem se_Mod_ring : Cond.selects "PartFormulasModel" ⟨"PartFormulasModel", "ring", "(I)I"⟩ ⟨"PartFormulasModel", "ring", "(I)I"⟩ ∈ wsAll := wa_of 1197 (by decide +kernel) (by decide +kernel)
theorem cd_Law_condition : Cond.codeWith ⟨"PartFormulasLaw", "condition", "(LPartFormulas;II[J)I"⟩ method_9_code 5 (some .int) [(0, 10, 13, 13), (0, 10, 17, 21)] ∈ wsAll := wa_of 831 (by decide +kernel) (by decide +kernel)
theorem ml_Law_107 : Cond.methodLink "PartFormulasLaw" 107 ⟨"PartFormulasLaw", "condition", "(LPartFormulas;II[J)I"⟩ ∈ wsAll := wa_of 829 (by decide +kernel) (by decide +kernel)
theorem st_Law_condition : Cond.static ⟨"PartFormulasLaw", "condition", "(LPartFormulas;II[J)I"⟩ ∈ wsAll := wa_of 830 (by decide +kernel) (by decide +kernel)
theorem cd_Mod_condition : Cond.code ⟨"PartFormulasModel", "condition", "(II)I"⟩ prog_8_method_47_code 3 (some .int) ∈ wsAll := wa_of 1202 (by decide +kernel) (by decide +kernel)
theorem ml_Law_109 : Cond.methodLink "PartFormulasLaw" 109 ⟨"PartFormulasModel", "condition", "(II)I"⟩ ∈ wsAll := wa_of 1199 (by decide +kernel) (by decide +kernel)
theorem im_Mod_condition : Cond.instanceMethod ⟨"PartFormulasModel", "condition", "(II)I"⟩ ∈ wsAll := wa_of 1200 (by decide +kernel) (by decide +kernel)
theorem se_Mod_condition : Cond.selects "PartFormulasModel" ⟨"PartFormulasModel", "condition", "(II)I"⟩ ⟨"PartFormulasModel", "condition", "(II)I"⟩ ∈ wsAll := wa_of 1201 (by decide +kernel) (by decide +kernel)
theorem cd_Law_line : Cond.codeWith ⟨"PartFormulasLaw", "line", "(LPartFormulas;II[J)I"⟩ method_10_code 5 (some .int) [(0, 10, 13, 13), (0, 10, 17, 21)] ∈ wsAll := wa_of 838 (by decide +kernel) (by decide +kernel)
theorem ml_Law_110 : Cond.methodLink "PartFormulasLaw" 110 ⟨"PartFormulasLaw", "line", "(LPartFormulas;II[J)I"⟩ ∈ wsAll := wa_of 836 (by decide +kernel) (by decide +kernel)
theorem st_Law_line : Cond.static ⟨"PartFormulasLaw", "line", "(LPartFormulas;II[J)I"⟩ ∈ wsAll := wa_of 837 (by decide +kernel) (by decide +kernel)
theorem cd_Mod_line : Cond.code ⟨"PartFormulasModel", "line", "(II)I"⟩ prog_8_method_48_code 3 (some .int) ∈ wsAll := wa_of 1206 (by decide +kernel) (by decide +kernel)
theorem ml_Law_112 : Cond.methodLink "PartFormulasLaw" 112 ⟨"PartFormulasModel", "line", "(II)I"⟩ ∈ wsAll := wa_of 1203 (by decide +kernel) (by decide +kernel)
theorem im_Mod_line : Cond.instanceMethod ⟨"PartFormulasModel", "line", "(II)I"⟩ ∈ wsAll := wa_of 1204 (by decide +kernel) (by decide +kernel)
theorem se_Mod_line : Cond.selects "PartFormulasModel" ⟨"PartFormulasModel", "line", "(II)I"⟩ ⟨"PartFormulasModel", "line", "(II)I"⟩ ∈ wsAll := wa_of 1205 (by decide +kernel) (by decide +kernel)
theorem cd_Law_needs : Cond.codeWith ⟨"PartFormulasLaw", "needs", "(LPartFormulas;II[J)I"⟩ method_11_code 5 (some .int) [(0, 17, 20, 13), (0, 17, 24, 21)] ∈ wsAll := wa_of 845 (by decide +kernel) (by decide +kernel)
theorem ml_Law_113 : Cond.methodLink "PartFormulasLaw" 113 ⟨"PartFormulasLaw", "needs", "(LPartFormulas;II[J)I"⟩ ∈ wsAll := wa_of 843 (by decide +kernel) (by decide +kernel)
theorem st_Law_needs : Cond.static ⟨"PartFormulasLaw", "needs", "(LPartFormulas;II[J)I"⟩ ∈ wsAll := wa_of 844 (by decide +kernel) (by decide +kernel)
theorem cd_Mod_needs : Cond.code ⟨"PartFormulasModel", "needs", "(II)Z"⟩ prog_8_method_49_code 4 (some .boolean) ∈ wsAll := wa_of 1210 (by decide +kernel) (by decide +kernel)
theorem ml_Law_115 : Cond.methodLink "PartFormulasLaw" 115 ⟨"PartFormulasModel", "needs", "(II)Z"⟩ ∈ wsAll := wa_of 1207 (by decide +kernel) (by decide +kernel)
theorem im_Mod_needs : Cond.instanceMethod ⟨"PartFormulasModel", "needs", "(II)Z"⟩ ∈ wsAll := wa_of 1208 (by decide +kernel) (by decide +kernel)
theorem se_Mod_needs : Cond.selects "PartFormulasModel" ⟨"PartFormulasModel", "needs", "(II)Z"⟩ ⟨"PartFormulasModel", "needs", "(II)Z"⟩ ∈ wsAll := wa_of 1209 (by decide +kernel) (by decide +kernel)
theorem cd_Law_limit : Cond.codeWith ⟨"PartFormulasLaw", "limit", "(LPartFormulas;II[J)I"⟩ method_12_code 5 (some .int) [(0, 10, 13, 13), (0, 10, 17, 15)] ∈ wsAll := wa_of 853 (by decide +kernel) (by decide +kernel)
theorem ml_Law_116 : Cond.methodLink "PartFormulasLaw" 116 ⟨"PartFormulasLaw", "limit", "(LPartFormulas;II[J)I"⟩ ∈ wsAll := wa_of 851 (by decide +kernel) (by decide +kernel)
theorem st_Law_limit : Cond.static ⟨"PartFormulasLaw", "limit", "(LPartFormulas;II[J)I"⟩ ∈ wsAll := wa_of 852 (by decide +kernel) (by decide +kernel)
theorem cd_Mod_limit : Cond.code ⟨"PartFormulasModel", "limit", "(II)I"⟩ prog_8_method_52_code 5 (some .int) ∈ wsAll := wa_of 1214 (by decide +kernel) (by decide +kernel)
theorem ml_Law_118 : Cond.methodLink "PartFormulasLaw" 118 ⟨"PartFormulasModel", "limit", "(II)I"⟩ ∈ wsAll := wa_of 1211 (by decide +kernel) (by decide +kernel)
theorem im_Mod_limit : Cond.instanceMethod ⟨"PartFormulasModel", "limit", "(II)I"⟩ ∈ wsAll := wa_of 1212 (by decide +kernel) (by decide +kernel)
theorem se_Mod_limit : Cond.selects "PartFormulasModel" ⟨"PartFormulasModel", "limit", "(II)I"⟩ ⟨"PartFormulasModel", "limit", "(II)I"⟩ ∈ wsAll := wa_of 1213 (by decide +kernel) (by decide +kernel)
theorem cd_Law_check : Cond.codeWith ⟨"PartFormulasLaw", "check", "(LPartFormulas;I[J)I"⟩ method_13_code 4 (some .int) [(0, 9, 12, 13), (0, 9, 15, 15)] ∈ wsAll := wa_of 865 (by decide +kernel) (by decide +kernel)
theorem ml_Law_119 : Cond.methodLink "PartFormulasLaw" 119 ⟨"PartFormulasLaw", "check", "(LPartFormulas;I[J)I"⟩ ∈ wsAll := wa_of 863 (by decide +kernel) (by decide +kernel)
theorem st_Law_check : Cond.static ⟨"PartFormulasLaw", "check", "(LPartFormulas;I[J)I"⟩ ∈ wsAll := wa_of 864 (by decide +kernel) (by decide +kernel)
theorem cd_Mod_check : Cond.code ⟨"PartFormulasModel", "check", "(I)I"⟩ prog_8_method_53_code 11 (some .int) ∈ wsAll := wa_of 1222 (by decide +kernel) (by decide +kernel)
theorem ml_Law_121 : Cond.methodLink "PartFormulasLaw" 121 ⟨"PartFormulasModel", "check", "(I)I"⟩ ∈ wsAll := wa_of 1219 (by decide +kernel) (by decide +kernel)
theorem im_Mod_check : Cond.instanceMethod ⟨"PartFormulasModel", "check", "(I)I"⟩ ∈ wsAll := wa_of 1220 (by decide +kernel) (by decide +kernel)
theorem se_Mod_check : Cond.selects "PartFormulasModel" ⟨"PartFormulasModel", "check", "(I)I"⟩ ⟨"PartFormulasModel", "check", "(I)I"⟩ ∈ wsAll := wa_of 1221 (by decide +kernel) (by decide +kernel)
theorem cd_Law_version : Cond.codeWith ⟨"PartFormulasLaw", "version", "(LPartFormulas;[J)I"⟩ method_14_code 3 (some .int) [(0, 8, 11, 13)] ∈ wsAll := wa_of 885 (by decide +kernel) (by decide +kernel)
theorem ml_Law_122 : Cond.methodLink "PartFormulasLaw" 122 ⟨"PartFormulasLaw", "version", "(LPartFormulas;[J)I"⟩ ∈ wsAll := wa_of 883 (by decide +kernel) (by decide +kernel)
theorem st_Law_version : Cond.static ⟨"PartFormulasLaw", "version", "(LPartFormulas;[J)I"⟩ ∈ wsAll := wa_of 884 (by decide +kernel) (by decide +kernel)
theorem cd_Mod_version : Cond.code ⟨"PartFormulasModel", "version", "()I"⟩ prog_8_method_54_code 2 (some .int) ∈ wsAll := wa_of 1230 (by decide +kernel) (by decide +kernel)
theorem ml_Law_124 : Cond.methodLink "PartFormulasLaw" 124 ⟨"PartFormulasModel", "version", "()I"⟩ ∈ wsAll := wa_of 1227 (by decide +kernel) (by decide +kernel)
theorem im_Mod_version : Cond.instanceMethod ⟨"PartFormulasModel", "version", "()I"⟩ ∈ wsAll := wa_of 1228 (by decide +kernel) (by decide +kernel)
theorem se_Mod_version : Cond.selects "PartFormulasModel" ⟨"PartFormulasModel", "version", "()I"⟩ ⟨"PartFormulasModel", "version", "()I"⟩ ∈ wsAll := wa_of 1229 (by decide +kernel) (by decide +kernel)
theorem cd_Law_differs : Cond.codeWith ⟨"PartFormulasLaw", "differs", "(LPartFormulas;II[J)I"⟩ method_15_code 5 (some .int) [(0, 10, 13, 13), (0, 10, 17, 21), (0, 10, 21, 15)] ∈ wsAll := wa_of 893 (by decide +kernel) (by decide +kernel)
theorem ml_Law_125 : Cond.methodLink "PartFormulasLaw" 125 ⟨"PartFormulasLaw", "differs", "(LPartFormulas;II[J)I"⟩ ∈ wsAll := wa_of 891 (by decide +kernel) (by decide +kernel)
theorem st_Law_differs : Cond.static ⟨"PartFormulasLaw", "differs", "(LPartFormulas;II[J)I"⟩ ∈ wsAll := wa_of 892 (by decide +kernel) (by decide +kernel)
theorem cd_Mod_differs : Cond.code ⟨"PartFormulasModel", "differs", "(II)I"⟩ prog_8_method_55_code 6 (some .int) ∈ wsAll := wa_of 1234 (by decide +kernel) (by decide +kernel)
theorem ml_Law_127 : Cond.methodLink "PartFormulasLaw" 127 ⟨"PartFormulasModel", "differs", "(II)I"⟩ ∈ wsAll := wa_of 1231 (by decide +kernel) (by decide +kernel)
theorem im_Mod_differs : Cond.instanceMethod ⟨"PartFormulasModel", "differs", "(II)I"⟩ ∈ wsAll := wa_of 1232 (by decide +kernel) (by decide +kernel)
theorem se_Mod_differs : Cond.selects "PartFormulasModel" ⟨"PartFormulasModel", "differs", "(II)I"⟩ ⟨"PartFormulasModel", "differs", "(II)I"⟩ ∈ wsAll := wa_of 1233 (by decide +kernel) (by decide +kernel)
theorem cd_Law_same : Cond.codeWith ⟨"PartFormulasLaw", "same", "(LPartFormulas;[J)I"⟩ method_16_code 3 (some .int) [(0, 15, 18, 13)] ∈ wsAll := wa_of 904 (by decide +kernel) (by decide +kernel)
theorem ml_Law_128 : Cond.methodLink "PartFormulasLaw" 128 ⟨"PartFormulasLaw", "same", "(LPartFormulas;[J)I"⟩ ∈ wsAll := wa_of 902 (by decide +kernel) (by decide +kernel)
theorem st_Law_same : Cond.static ⟨"PartFormulasLaw", "same", "(LPartFormulas;[J)I"⟩ ∈ wsAll := wa_of 903 (by decide +kernel) (by decide +kernel)
theorem cd_Mod_same : Cond.code ⟨"PartFormulasModel", "same", "()Z"⟩ prog_8_method_56_code 1 (some .boolean) ∈ wsAll := wa_of 1238 (by decide +kernel) (by decide +kernel)
theorem ml_Law_130 : Cond.methodLink "PartFormulasLaw" 130 ⟨"PartFormulasModel", "same", "()Z"⟩ ∈ wsAll := wa_of 1235 (by decide +kernel) (by decide +kernel)
theorem im_Mod_same : Cond.instanceMethod ⟨"PartFormulasModel", "same", "()Z"⟩ ∈ wsAll := wa_of 1236 (by decide +kernel) (by decide +kernel)
theorem se_Mod_same : Cond.selects "PartFormulasModel" ⟨"PartFormulasModel", "same", "()Z"⟩ ⟨"PartFormulasModel", "same", "()Z"⟩ ∈ wsAll := wa_of 1237 (by decide +kernel) (by decide +kernel)
theorem cd_PF_reckoned : Cond.code ⟨"PartFormulas", "reckoned", "()J"⟩ prog_1_method_18_code 1 (some .long) ∈ wsAll := wa_of 592 (by decide +kernel) (by decide +kernel)
theorem ml_Law_131 : Cond.methodLink "PartFormulasLaw" 131 ⟨"PartFormulas", "reckoned", "()J"⟩ ∈ wsAll := wa_of 589 (by decide +kernel) (by decide +kernel)
theorem im_PF_reckoned : Cond.instanceMethod ⟨"PartFormulas", "reckoned", "()J"⟩ ∈ wsAll := wa_of 590 (by decide +kernel) (by decide +kernel)
theorem se_PF_reckoned : Cond.selects "PartFormulas" ⟨"PartFormulas", "reckoned", "()J"⟩ ⟨"PartFormulas", "reckoned", "()J"⟩ ∈ wsAll := wa_of 591 (by decide +kernel) (by decide +kernel)
theorem cd_Mod_reckoned : Cond.code ⟨"PartFormulasModel", "reckoned", "()J"⟩ prog_8_method_57_code 1 (some .long) ∈ wsAll := wa_of 1246 (by decide +kernel) (by decide +kernel)
theorem ml_Law_135 : Cond.methodLink "PartFormulasLaw" 135 ⟨"PartFormulasModel", "reckoned", "()J"⟩ ∈ wsAll := wa_of 1243 (by decide +kernel) (by decide +kernel)
theorem im_Mod_reckoned : Cond.instanceMethod ⟨"PartFormulasModel", "reckoned", "()J"⟩ ∈ wsAll := wa_of 1244 (by decide +kernel) (by decide +kernel)
theorem se_Mod_reckoned : Cond.selects "PartFormulasModel" ⟨"PartFormulasModel", "reckoned", "()J"⟩ ⟨"PartFormulasModel", "reckoned", "()J"⟩ ∈ wsAll := wa_of 1245 (by decide +kernel) (by decide +kernel)
theorem d_Law_law_23 : decode b_Law_law 23 = .ok (.iload 4, 2) := by decide +kernel
theorem d_Law_law_25 : decode b_Law_law 25 = .ok (.aload_n 0, 1) := by decide +kernel
theorem d_Law_law_26 : decode b_Law_law 26 = .ok (.arraylength, 1) := by decide +kernel
theorem d_Law_law_27 : decode b_Law_law 27 = .ok (.bipush 6, 2) := by decide +kernel
theorem d_Law_law_29 : decode b_Law_law 29 = .ok (.isub, 1) := by decide +kernel
theorem d_Law_law_30 : decode b_Law_law 30 = .ok (.if_icmp .gt 1104, 3) := by decide +kernel
theorem d_Law_law_33 : decode b_Law_law 33 = .ok (.aload_n 0, 1) := by decide +kernel
theorem d_Law_law_34 : decode b_Law_law 34 = .ok (.iload 4, 2) := by decide +kernel
theorem d_Law_law_36 : decode b_Law_law 36 = .ok (.iaload, 1) := by decide +kernel
theorem d_Law_law_37 : decode b_Law_law 37 = .ok (.bipush 31, 2) := by decide +kernel
theorem d_Law_law_39 : decode b_Law_law 39 = .ok (.iand, 1) := by decide +kernel
theorem d_Law_law_40 : decode b_Law_law 40 = .ok (.tableswitch 1088 0 16 #[84, 109, 122, 178, 329, 373, 441, 520, 576, 644, 712, 787, 855, 911, 955, 1023, 1074], 84) := by decide +kernel
theorem d_Law_law_124 : decode b_Law_law 124 = .ok (.aload_n 1, 1) := by decide +kernel
theorem d_Law_law_125 : decode b_Law_law 125 = .ok (.aload_n 0, 1) := by decide +kernel
theorem d_Law_law_126 : decode b_Law_law 126 = .ok (.iload 4, 2) := by decide +kernel
theorem d_Law_law_128 : decode b_Law_law 128 = .ok (.iconst 1, 1) := by decide +kernel
theorem d_Law_law_129 : decode b_Law_law 129 = .ok (.iadd, 1) := by decide +kernel
theorem d_Law_law_130 : decode b_Law_law 130 = .ok (.iaload, 1) := by decide +kernel
theorem d_Law_law_131 : decode b_Law_law 131 = .ok (.invokevirtual 68, 3) := by decide +kernel
theorem d_Law_law_134 : decode b_Law_law 134 = .ok (.aload_n 2, 1) := by decide +kernel
theorem d_Law_law_135 : decode b_Law_law 135 = .ok (.aload_n 0, 1) := by decide +kernel
theorem d_Law_law_136 : decode b_Law_law 136 = .ok (.iload 4, 2) := by decide +kernel
theorem d_Law_law_138 : decode b_Law_law 138 = .ok (.iconst 1, 1) := by decide +kernel
theorem d_Law_law_139 : decode b_Law_law 139 = .ok (.iadd, 1) := by decide +kernel
theorem d_Law_law_140 : decode b_Law_law 140 = .ok (.iaload, 1) := by decide +kernel
theorem d_Law_law_141 : decode b_Law_law 141 = .ok (.invokevirtual 72, 3) := by decide +kernel
theorem d_Law_law_144 : decode b_Law_law 144 = .ok (.if_icmp .eq 984, 3) := by decide +kernel
theorem d_Law_law_147 : decode b_Law_law 147 = .ok (.iconst 0, 1) := by decide +kernel
theorem d_Law_law_148 : decode b_Law_law 148 = .ok (.ireturn, 1) := by decide +kernel
theorem d_Law_law_149 : decode b_Law_law 149 = .ok (.aload_n 1, 1) := by decide +kernel
theorem d_Law_law_150 : decode b_Law_law 150 = .ok (.invokevirtual 73, 3) := by decide +kernel
theorem d_Law_law_153 : decode b_Law_law 153 = .ok (.aload_n 2, 1) := by decide +kernel
theorem d_Law_law_154 : decode b_Law_law 154 = .ok (.invokevirtual 76, 3) := by decide +kernel
theorem d_Law_law_157 : decode b_Law_law 157 = .ok (.if_icmp .eq 971, 3) := by decide +kernel
theorem d_Law_law_160 : decode b_Law_law 160 = .ok (.iconst 0, 1) := by decide +kernel
theorem d_Law_law_161 : decode b_Law_law 161 = .ok (.ireturn, 1) := by decide +kernel
theorem d_Law_law_162 : decode b_Law_law 162 = .ok (.aload_n 1, 1) := by decide +kernel
theorem d_Law_law_163 : decode b_Law_law 163 = .ok (.aload_n 0, 1) := by decide +kernel
theorem d_Law_law_164 : decode b_Law_law 164 = .ok (.iload 4, 2) := by decide +kernel
theorem d_Law_law_166 : decode b_Law_law 166 = .ok (.iconst 1, 1) := by decide +kernel
theorem d_Law_law_167 : decode b_Law_law 167 = .ok (.iadd, 1) := by decide +kernel
theorem d_Law_law_168 : decode b_Law_law 168 = .ok (.iaload, 1) := by decide +kernel
theorem d_Law_law_169 : decode b_Law_law 169 = .ok (.aload_n 3, 1) := by decide +kernel
theorem d_Law_law_170 : decode b_Law_law 170 = .ok (.invokestatic 77, 3) := by decide +kernel
theorem d_Law_law_173 : decode b_Law_law 173 = .ok (.istore 5, 2) := by decide +kernel
theorem d_Law_law_175 : decode b_Law_law 175 = .ok (.aload_n 2, 1) := by decide +kernel
theorem d_Law_law_176 : decode b_Law_law 176 = .ok (.aload_n 0, 1) := by decide +kernel
theorem d_Law_law_177 : decode b_Law_law 177 = .ok (.iload 4, 2) := by decide +kernel
theorem d_Law_law_179 : decode b_Law_law 179 = .ok (.iconst 1, 1) := by decide +kernel
theorem d_Law_law_180 : decode b_Law_law 180 = .ok (.iadd, 1) := by decide +kernel
theorem d_Law_law_181 : decode b_Law_law 181 = .ok (.iaload, 1) := by decide +kernel
theorem d_Law_law_182 : decode b_Law_law 182 = .ok (.invokevirtual 82, 3) := by decide +kernel
theorem d_Law_law_185 : decode b_Law_law 185 = .ok (.istore 6, 2) := by decide +kernel
theorem d_Law_law_187 : decode b_Law_law 187 = .ok (.aload_n 2, 1) := by decide +kernel
theorem d_Law_law_188 : decode b_Law_law 188 = .ok (.invokevirtual 83, 3) := by decide +kernel
theorem d_Law_law_191 : decode b_Law_law 191 = .ok (.iload 5, 2) := by decide +kernel
theorem d_Law_law_193 : decode b_Law_law 193 = .ok (.if_icmp .eq 5, 3) := by decide +kernel
theorem d_Law_law_196 : decode b_Law_law 196 = .ok (.iconst 0, 1) := by decide +kernel
theorem d_Law_law_197 : decode b_Law_law 197 = .ok (.ireturn, 1) := by decide +kernel
theorem d_Law_law_198 : decode b_Law_law 198 = .ok (.iload 5, 2) := by decide +kernel
theorem d_Law_law_200 : decode b_Law_law 200 = .ok (.ifCond .ne 15, 3) := by decide +kernel
theorem d_Law_law_203 : decode b_Law_law 203 = .ok (.aload_n 3, 1) := by decide +kernel
theorem d_Law_law_204 : decode b_Law_law 204 = .ok (.iconst 0, 1) := by decide +kernel
theorem d_Law_law_205 : decode b_Law_law 205 = .ok (.laload, 1) := by decide +kernel
theorem d_Law_law_206 : decode b_Law_law 206 = .ok (.iload 6, 2) := by decide +kernel
theorem d_Law_law_208 : decode b_Law_law 208 = .ok (.i2l, 1) := by decide +kernel
theorem d_Law_law_209 : decode b_Law_law 209 = .ok (.lcmp, 1) := by decide +kernel
theorem d_Law_law_210 : decode b_Law_law 210 = .ok (.ifCond .eq 5, 3) := by decide +kernel
theorem d_Law_law_213 : decode b_Law_law 213 = .ok (.iconst 0, 1) := by decide +kernel
theorem d_Law_law_214 : decode b_Law_law 214 = .ok (.ireturn, 1) := by decide +kernel
theorem d_Law_law_215 : decode b_Law_law 215 = .ok (.goto 913, 3) := by decide +kernel
theorem d_Law_law_218 : decode b_Law_law 218 = .ok (.aload_n 1, 1) := by decide +kernel
theorem d_Law_law_219 : decode b_Law_law 219 = .ok (.aload_n 0, 1) := by decide +kernel
theorem d_Law_law_220 : decode b_Law_law 220 = .ok (.iload 4, 2) := by decide +kernel
theorem d_Law_law_222 : decode b_Law_law 222 = .ok (.iconst 1, 1) := by decide +kernel
theorem d_Law_law_223 : decode b_Law_law 223 = .ok (.iadd, 1) := by decide +kernel
theorem d_Law_law_224 : decode b_Law_law 224 = .ok (.iaload, 1) := by decide +kernel
theorem d_Law_law_225 : decode b_Law_law 225 = .ok (.aload_n 0, 1) := by decide +kernel
theorem d_Law_law_226 : decode b_Law_law 226 = .ok (.iload 4, 2) := by decide +kernel
theorem d_Law_law_228 : decode b_Law_law 228 = .ok (.iconst 2, 1) := by decide +kernel
theorem d_Law_law_229 : decode b_Law_law 229 = .ok (.iadd, 1) := by decide +kernel
theorem d_Law_law_230 : decode b_Law_law 230 = .ok (.iaload, 1) := by decide +kernel
theorem d_Law_law_231 : decode b_Law_law 231 = .ok (.i2l, 1) := by decide +kernel
theorem d_Law_law_232 : decode b_Law_law 232 = .ok (.bipush 32, 2) := by decide +kernel
theorem d_Law_law_234 : decode b_Law_law 234 = .ok (.lshl, 1) := by decide +kernel
theorem d_Law_law_235 : decode b_Law_law 235 = .ok (.aload_n 0, 1) := by decide +kernel
theorem d_Law_law_236 : decode b_Law_law 236 = .ok (.iload 4, 2) := by decide +kernel
theorem d_Law_law_238 : decode b_Law_law 238 = .ok (.iconst 3, 1) := by decide +kernel
theorem d_Law_law_239 : decode b_Law_law 239 = .ok (.iadd, 1) := by decide +kernel
theorem d_Law_law_240 : decode b_Law_law 240 = .ok (.iaload, 1) := by decide +kernel
theorem d_Law_law_241 : decode b_Law_law 241 = .ok (.i2l, 1) := by decide +kernel
theorem d_Law_law_242 : decode b_Law_law 242 = .ok (.ldc2_w 86, 3) := by decide +kernel
theorem d_Law_law_245 : decode b_Law_law 245 = .ok (.land, 1) := by decide +kernel
theorem d_Law_law_246 : decode b_Law_law 246 = .ok (.lor, 1) := by decide +kernel
theorem d_Law_law_247 : decode b_Law_law 247 = .ok (.aload_n 0, 1) := by decide +kernel
theorem d_Law_law_248 : decode b_Law_law 248 = .ok (.iload 4, 2) := by decide +kernel
theorem d_Law_law_250 : decode b_Law_law 250 = .ok (.iconst 4, 1) := by decide +kernel
theorem d_Law_law_251 : decode b_Law_law 251 = .ok (.iadd, 1) := by decide +kernel
theorem d_Law_law_252 : decode b_Law_law 252 = .ok (.iaload, 1) := by decide +kernel
theorem d_Law_law_253 : decode b_Law_law 253 = .ok (.i2l, 1) := by decide +kernel
theorem d_Law_law_254 : decode b_Law_law 254 = .ok (.bipush 32, 2) := by decide +kernel
theorem d_Law_law_256 : decode b_Law_law 256 = .ok (.lshl, 1) := by decide +kernel
theorem d_Law_law_257 : decode b_Law_law 257 = .ok (.aload_n 0, 1) := by decide +kernel
theorem d_Law_law_258 : decode b_Law_law 258 = .ok (.iload 4, 2) := by decide +kernel
theorem d_Law_law_260 : decode b_Law_law 260 = .ok (.iconst 5, 1) := by decide +kernel
theorem d_Law_law_261 : decode b_Law_law 261 = .ok (.iadd, 1) := by decide +kernel
theorem d_Law_law_262 : decode b_Law_law 262 = .ok (.iaload, 1) := by decide +kernel
theorem d_Law_law_263 : decode b_Law_law 263 = .ok (.i2l, 1) := by decide +kernel
theorem d_Law_law_264 : decode b_Law_law 264 = .ok (.ldc2_w 86, 3) := by decide +kernel
theorem d_Law_law_267 : decode b_Law_law 267 = .ok (.land, 1) := by decide +kernel
theorem d_Law_law_268 : decode b_Law_law 268 = .ok (.lor, 1) := by decide +kernel
theorem d_Law_law_269 : decode b_Law_law 269 = .ok (.aload_n 3, 1) := by decide +kernel
theorem d_Law_law_270 : decode b_Law_law 270 = .ok (.invokestatic 88, 3) := by decide +kernel
theorem d_Law_law_273 : decode b_Law_law 273 = .ok (.istore 5, 2) := by decide +kernel
theorem d_Law_law_275 : decode b_Law_law 275 = .ok (.aload_n 2, 1) := by decide +kernel
theorem d_Law_law_276 : decode b_Law_law 276 = .ok (.aload_n 0, 1) := by decide +kernel
theorem d_Law_law_277 : decode b_Law_law 277 = .ok (.iload 4, 2) := by decide +kernel
theorem d_Law_law_279 : decode b_Law_law 279 = .ok (.iconst 1, 1) := by decide +kernel
theorem d_Law_law_280 : decode b_Law_law 280 = .ok (.iadd, 1) := by decide +kernel
theorem d_Law_law_281 : decode b_Law_law 281 = .ok (.iaload, 1) := by decide +kernel
theorem d_Law_law_282 : decode b_Law_law 282 = .ok (.aload_n 0, 1) := by decide +kernel
theorem d_Law_law_283 : decode b_Law_law 283 = .ok (.iload 4, 2) := by decide +kernel
theorem d_Law_law_285 : decode b_Law_law 285 = .ok (.iconst 2, 1) := by decide +kernel
theorem d_Law_law_286 : decode b_Law_law 286 = .ok (.iadd, 1) := by decide +kernel
theorem d_Law_law_287 : decode b_Law_law 287 = .ok (.iaload, 1) := by decide +kernel
theorem d_Law_law_288 : decode b_Law_law 288 = .ok (.i2l, 1) := by decide +kernel
theorem d_Law_law_289 : decode b_Law_law 289 = .ok (.bipush 32, 2) := by decide +kernel
theorem d_Law_law_291 : decode b_Law_law 291 = .ok (.lshl, 1) := by decide +kernel
theorem d_Law_law_292 : decode b_Law_law 292 = .ok (.aload_n 0, 1) := by decide +kernel
theorem d_Law_law_293 : decode b_Law_law 293 = .ok (.iload 4, 2) := by decide +kernel
theorem d_Law_law_295 : decode b_Law_law 295 = .ok (.iconst 3, 1) := by decide +kernel
theorem d_Law_law_296 : decode b_Law_law 296 = .ok (.iadd, 1) := by decide +kernel
theorem d_Law_law_297 : decode b_Law_law 297 = .ok (.iaload, 1) := by decide +kernel
theorem d_Law_law_298 : decode b_Law_law 298 = .ok (.i2l, 1) := by decide +kernel
theorem d_Law_law_299 : decode b_Law_law 299 = .ok (.ldc2_w 86, 3) := by decide +kernel
theorem d_Law_law_302 : decode b_Law_law 302 = .ok (.land, 1) := by decide +kernel
theorem d_Law_law_303 : decode b_Law_law 303 = .ok (.lor, 1) := by decide +kernel
theorem d_Law_law_304 : decode b_Law_law 304 = .ok (.aload_n 0, 1) := by decide +kernel
theorem d_Law_law_305 : decode b_Law_law 305 = .ok (.iload 4, 2) := by decide +kernel
theorem d_Law_law_307 : decode b_Law_law 307 = .ok (.iconst 4, 1) := by decide +kernel
theorem d_Law_law_308 : decode b_Law_law 308 = .ok (.iadd, 1) := by decide +kernel
theorem d_Law_law_309 : decode b_Law_law 309 = .ok (.iaload, 1) := by decide +kernel
theorem d_Law_law_310 : decode b_Law_law 310 = .ok (.i2l, 1) := by decide +kernel
theorem d_Law_law_311 : decode b_Law_law 311 = .ok (.bipush 32, 2) := by decide +kernel
theorem d_Law_law_313 : decode b_Law_law 313 = .ok (.lshl, 1) := by decide +kernel
theorem d_Law_law_314 : decode b_Law_law 314 = .ok (.aload_n 0, 1) := by decide +kernel
theorem d_Law_law_315 : decode b_Law_law 315 = .ok (.iload 4, 2) := by decide +kernel
theorem d_Law_law_317 : decode b_Law_law 317 = .ok (.iconst 5, 1) := by decide +kernel
theorem d_Law_law_318 : decode b_Law_law 318 = .ok (.iadd, 1) := by decide +kernel
theorem d_Law_law_319 : decode b_Law_law 319 = .ok (.iaload, 1) := by decide +kernel
theorem d_Law_law_320 : decode b_Law_law 320 = .ok (.i2l, 1) := by decide +kernel
theorem d_Law_law_321 : decode b_Law_law 321 = .ok (.ldc2_w 86, 3) := by decide +kernel
theorem d_Law_law_324 : decode b_Law_law 324 = .ok (.land, 1) := by decide +kernel
theorem d_Law_law_325 : decode b_Law_law 325 = .ok (.lor, 1) := by decide +kernel
theorem d_Law_law_326 : decode b_Law_law 326 = .ok (.invokevirtual 91, 3) := by decide +kernel
theorem d_Law_law_329 : decode b_Law_law 329 = .ok (.istore 6, 2) := by decide +kernel
theorem d_Law_law_331 : decode b_Law_law 331 = .ok (.aload_n 2, 1) := by decide +kernel
theorem d_Law_law_332 : decode b_Law_law 332 = .ok (.invokevirtual 83, 3) := by decide +kernel
theorem d_Law_law_335 : decode b_Law_law 335 = .ok (.iload 5, 2) := by decide +kernel
theorem d_Law_law_337 : decode b_Law_law 337 = .ok (.if_icmp .eq 5, 3) := by decide +kernel
theorem d_Law_law_340 : decode b_Law_law 340 = .ok (.iconst 0, 1) := by decide +kernel
theorem d_Law_law_341 : decode b_Law_law 341 = .ok (.ireturn, 1) := by decide +kernel
theorem d_Law_law_342 : decode b_Law_law 342 = .ok (.iload 5, 2) := by decide +kernel
theorem d_Law_law_344 : decode b_Law_law 344 = .ok (.ifCond .ne 22, 3) := by decide +kernel
theorem d_Law_law_347 : decode b_Law_law 347 = .ok (.aload_n 3, 1) := by decide +kernel
theorem d_Law_law_348 : decode b_Law_law 348 = .ok (.iconst 0, 1) := by decide +kernel
theorem d_Law_law_349 : decode b_Law_law 349 = .ok (.laload, 1) := by decide +kernel
theorem d_Law_law_350 : decode b_Law_law 350 = .ok (.iload 6, 2) := by decide +kernel
theorem d_Law_law_352 : decode b_Law_law 352 = .ok (.ifCond .eq 7, 3) := by decide +kernel
theorem d_Law_law_355 : decode b_Law_law 355 = .ok (.lconst 1, 1) := by decide +kernel
theorem d_Law_law_356 : decode b_Law_law 356 = .ok (.goto 4, 3) := by decide +kernel
theorem d_Law_law_359 : decode b_Law_law 359 = .ok (.lconst 0, 1) := by decide +kernel
theorem d_Law_law_360 : decode b_Law_law 360 = .ok (.lcmp, 1) := by decide +kernel
theorem d_Law_law_361 : decode b_Law_law 361 = .ok (.ifCond .eq 5, 3) := by decide +kernel
theorem d_Law_law_364 : decode b_Law_law 364 = .ok (.iconst 0, 1) := by decide +kernel
theorem d_Law_law_365 : decode b_Law_law 365 = .ok (.ireturn, 1) := by decide +kernel
theorem d_Law_law_366 : decode b_Law_law 366 = .ok (.goto 762, 3) := by decide +kernel
theorem d_Law_law_369 : decode b_Law_law 369 = .ok (.aload_n 1, 1) := by decide +kernel
theorem d_Law_law_370 : decode b_Law_law 370 = .ok (.aload_n 3, 1) := by decide +kernel
theorem d_Law_law_371 : decode b_Law_law 371 = .ok (.invokestatic 92, 3) := by decide +kernel
theorem d_Law_law_374 : decode b_Law_law 374 = .ok (.istore 5, 2) := by decide +kernel
theorem d_Law_law_376 : decode b_Law_law 376 = .ok (.aload_n 2, 1) := by decide +kernel
theorem d_Law_law_377 : decode b_Law_law 377 = .ok (.invokevirtual 95, 3) := by decide +kernel
theorem d_Law_law_380 : decode b_Law_law 380 = .ok (.istore 6, 2) := by decide +kernel
theorem d_Law_law_382 : decode b_Law_law 382 = .ok (.aload_n 2, 1) := by decide +kernel
theorem d_Law_law_383 : decode b_Law_law 383 = .ok (.invokevirtual 83, 3) := by decide +kernel
theorem d_Law_law_386 : decode b_Law_law 386 = .ok (.iload 5, 2) := by decide +kernel
theorem d_Law_law_388 : decode b_Law_law 388 = .ok (.if_icmp .eq 5, 3) := by decide +kernel
theorem d_Law_law_391 : decode b_Law_law 391 = .ok (.iconst 0, 1) := by decide +kernel
theorem d_Law_law_392 : decode b_Law_law 392 = .ok (.ireturn, 1) := by decide +kernel
theorem d_Law_law_393 : decode b_Law_law 393 = .ok (.iload 5, 2) := by decide +kernel
theorem d_Law_law_395 : decode b_Law_law 395 = .ok (.ifCond .ne 15, 3) := by decide +kernel
theorem d_Law_law_398 : decode b_Law_law 398 = .ok (.aload_n 3, 1) := by decide +kernel
theorem d_Law_law_399 : decode b_Law_law 399 = .ok (.iconst 0, 1) := by decide +kernel
theorem d_Law_law_400 : decode b_Law_law 400 = .ok (.laload, 1) := by decide +kernel
theorem d_Law_law_401 : decode b_Law_law 401 = .ok (.iload 6, 2) := by decide +kernel
theorem d_Law_law_403 : decode b_Law_law 403 = .ok (.i2l, 1) := by decide +kernel
theorem d_Law_law_404 : decode b_Law_law 404 = .ok (.lcmp, 1) := by decide +kernel
theorem d_Law_law_405 : decode b_Law_law 405 = .ok (.ifCond .eq 5, 3) := by decide +kernel
theorem d_Law_law_408 : decode b_Law_law 408 = .ok (.iconst 0, 1) := by decide +kernel
theorem d_Law_law_409 : decode b_Law_law 409 = .ok (.ireturn, 1) := by decide +kernel
theorem d_Law_law_410 : decode b_Law_law 410 = .ok (.goto 718, 3) := by decide +kernel
theorem d_Law_law_413 : decode b_Law_law 413 = .ok (.aload_n 1, 1) := by decide +kernel
theorem d_Law_law_414 : decode b_Law_law 414 = .ok (.aload_n 0, 1) := by decide +kernel
theorem d_Law_law_415 : decode b_Law_law 415 = .ok (.iload 4, 2) := by decide +kernel
theorem d_Law_law_417 : decode b_Law_law 417 = .ok (.iconst 1, 1) := by decide +kernel
theorem d_Law_law_418 : decode b_Law_law 418 = .ok (.iadd, 1) := by decide +kernel
theorem d_Law_law_419 : decode b_Law_law 419 = .ok (.iaload, 1) := by decide +kernel
theorem d_Law_law_420 : decode b_Law_law 420 = .ok (.aload_n 0, 1) := by decide +kernel
theorem d_Law_law_421 : decode b_Law_law 421 = .ok (.iload 4, 2) := by decide +kernel
theorem d_Law_law_423 : decode b_Law_law 423 = .ok (.iconst 2, 1) := by decide +kernel
theorem d_Law_law_424 : decode b_Law_law 424 = .ok (.iadd, 1) := by decide +kernel
theorem d_Law_law_425 : decode b_Law_law 425 = .ok (.iaload, 1) := by decide +kernel
theorem d_Law_law_426 : decode b_Law_law 426 = .ok (.aload_n 3, 1) := by decide +kernel
theorem d_Law_law_427 : decode b_Law_law 427 = .ok (.invokestatic 96, 3) := by decide +kernel
theorem d_Law_law_430 : decode b_Law_law 430 = .ok (.istore 5, 2) := by decide +kernel
theorem d_Law_law_432 : decode b_Law_law 432 = .ok (.aload_n 2, 1) := by decide +kernel
theorem d_Law_law_433 : decode b_Law_law 433 = .ok (.aload_n 0, 1) := by decide +kernel
theorem d_Law_law_434 : decode b_Law_law 434 = .ok (.iload 4, 2) := by decide +kernel
theorem d_Law_law_436 : decode b_Law_law 436 = .ok (.iconst 1, 1) := by decide +kernel
theorem d_Law_law_437 : decode b_Law_law 437 = .ok (.iadd, 1) := by decide +kernel
theorem d_Law_law_438 : decode b_Law_law 438 = .ok (.iaload, 1) := by decide +kernel
theorem d_Law_law_439 : decode b_Law_law 439 = .ok (.aload_n 0, 1) := by decide +kernel
theorem d_Law_law_440 : decode b_Law_law 440 = .ok (.iload 4, 2) := by decide +kernel
theorem d_Law_law_442 : decode b_Law_law 442 = .ok (.iconst 2, 1) := by decide +kernel
theorem d_Law_law_443 : decode b_Law_law 443 = .ok (.iadd, 1) := by decide +kernel
theorem d_Law_law_444 : decode b_Law_law 444 = .ok (.iaload, 1) := by decide +kernel
theorem d_Law_law_445 : decode b_Law_law 445 = .ok (.invokevirtual 99, 3) := by decide +kernel
theorem d_Law_law_448 : decode b_Law_law 448 = .ok (.istore 6, 2) := by decide +kernel
theorem d_Law_law_450 : decode b_Law_law 450 = .ok (.aload_n 2, 1) := by decide +kernel
theorem d_Law_law_451 : decode b_Law_law 451 = .ok (.invokevirtual 83, 3) := by decide +kernel
theorem d_Law_law_454 : decode b_Law_law 454 = .ok (.iload 5, 2) := by decide +kernel
theorem d_Law_law_456 : decode b_Law_law 456 = .ok (.if_icmp .eq 5, 3) := by decide +kernel
theorem d_Law_law_459 : decode b_Law_law 459 = .ok (.iconst 0, 1) := by decide +kernel
theorem d_Law_law_460 : decode b_Law_law 460 = .ok (.ireturn, 1) := by decide +kernel
theorem d_Law_law_461 : decode b_Law_law 461 = .ok (.iload 5, 2) := by decide +kernel
theorem d_Law_law_463 : decode b_Law_law 463 = .ok (.ifCond .ne 15, 3) := by decide +kernel
theorem d_Law_law_466 : decode b_Law_law 466 = .ok (.aload_n 3, 1) := by decide +kernel
theorem d_Law_law_467 : decode b_Law_law 467 = .ok (.iconst 0, 1) := by decide +kernel
theorem d_Law_law_468 : decode b_Law_law 468 = .ok (.laload, 1) := by decide +kernel
theorem d_Law_law_469 : decode b_Law_law 469 = .ok (.iload 6, 2) := by decide +kernel
theorem d_Law_law_471 : decode b_Law_law 471 = .ok (.i2l, 1) := by decide +kernel
theorem d_Law_law_472 : decode b_Law_law 472 = .ok (.lcmp, 1) := by decide +kernel
theorem d_Law_law_473 : decode b_Law_law 473 = .ok (.ifCond .eq 5, 3) := by decide +kernel
theorem d_Law_law_476 : decode b_Law_law 476 = .ok (.iconst 0, 1) := by decide +kernel
theorem d_Law_law_477 : decode b_Law_law 477 = .ok (.ireturn, 1) := by decide +kernel
theorem d_Law_law_478 : decode b_Law_law 478 = .ok (.goto 650, 3) := by decide +kernel
theorem d_Law_law_481 : decode b_Law_law 481 = .ok (.aload_n 1, 1) := by decide +kernel
theorem d_Law_law_482 : decode b_Law_law 482 = .ok (.aload_n 0, 1) := by decide +kernel
theorem d_Law_law_483 : decode b_Law_law 483 = .ok (.iload 4, 2) := by decide +kernel
theorem d_Law_law_485 : decode b_Law_law 485 = .ok (.iconst 1, 1) := by decide +kernel
theorem d_Law_law_486 : decode b_Law_law 486 = .ok (.iadd, 1) := by decide +kernel
theorem d_Law_law_487 : decode b_Law_law 487 = .ok (.iaload, 1) := by decide +kernel
theorem d_Law_law_488 : decode b_Law_law 488 = .ok (.aload_n 0, 1) := by decide +kernel
theorem d_Law_law_489 : decode b_Law_law 489 = .ok (.iload 4, 2) := by decide +kernel
theorem d_Law_law_491 : decode b_Law_law 491 = .ok (.iconst 2, 1) := by decide +kernel
theorem d_Law_law_492 : decode b_Law_law 492 = .ok (.iadd, 1) := by decide +kernel
theorem d_Law_law_493 : decode b_Law_law 493 = .ok (.iaload, 1) := by decide +kernel
theorem d_Law_law_494 : decode b_Law_law 494 = .ok (.aload_n 0, 1) := by decide +kernel
theorem d_Law_law_495 : decode b_Law_law 495 = .ok (.iload 4, 2) := by decide +kernel
theorem d_Law_law_497 : decode b_Law_law 497 = .ok (.iconst 3, 1) := by decide +kernel
theorem d_Law_law_498 : decode b_Law_law 498 = .ok (.iadd, 1) := by decide +kernel
theorem d_Law_law_499 : decode b_Law_law 499 = .ok (.iaload, 1) := by decide +kernel
theorem d_Law_law_500 : decode b_Law_law 500 = .ok (.aload_n 3, 1) := by decide +kernel
theorem d_Law_law_501 : decode b_Law_law 501 = .ok (.invokestatic 100, 3) := by decide +kernel
theorem d_Law_law_504 : decode b_Law_law 504 = .ok (.istore 5, 2) := by decide +kernel
theorem d_Law_law_506 : decode b_Law_law 506 = .ok (.aload_n 2, 1) := by decide +kernel
theorem d_Law_law_507 : decode b_Law_law 507 = .ok (.aload_n 0, 1) := by decide +kernel
theorem d_Law_law_508 : decode b_Law_law 508 = .ok (.iload 4, 2) := by decide +kernel
theorem d_Law_law_510 : decode b_Law_law 510 = .ok (.iconst 1, 1) := by decide +kernel
theorem d_Law_law_511 : decode b_Law_law 511 = .ok (.iadd, 1) := by decide +kernel
theorem d_Law_law_512 : decode b_Law_law 512 = .ok (.iaload, 1) := by decide +kernel
theorem d_Law_law_513 : decode b_Law_law 513 = .ok (.aload_n 0, 1) := by decide +kernel
theorem d_Law_law_514 : decode b_Law_law 514 = .ok (.iload 4, 2) := by decide +kernel
theorem d_Law_law_516 : decode b_Law_law 516 = .ok (.iconst 2, 1) := by decide +kernel
theorem d_Law_law_517 : decode b_Law_law 517 = .ok (.iadd, 1) := by decide +kernel
theorem d_Law_law_518 : decode b_Law_law 518 = .ok (.iaload, 1) := by decide +kernel
theorem d_Law_law_519 : decode b_Law_law 519 = .ok (.aload_n 0, 1) := by decide +kernel
theorem d_Law_law_520 : decode b_Law_law 520 = .ok (.iload 4, 2) := by decide +kernel
theorem d_Law_law_522 : decode b_Law_law 522 = .ok (.iconst 3, 1) := by decide +kernel
theorem d_Law_law_523 : decode b_Law_law 523 = .ok (.iadd, 1) := by decide +kernel
theorem d_Law_law_524 : decode b_Law_law 524 = .ok (.iaload, 1) := by decide +kernel
theorem d_Law_law_525 : decode b_Law_law 525 = .ok (.invokevirtual 103, 3) := by decide +kernel
theorem d_Law_law_528 : decode b_Law_law 528 = .ok (.lstore 6, 2) := by decide +kernel
theorem d_Law_law_530 : decode b_Law_law 530 = .ok (.aload_n 2, 1) := by decide +kernel
theorem d_Law_law_531 : decode b_Law_law 531 = .ok (.invokevirtual 83, 3) := by decide +kernel
theorem d_Law_law_534 : decode b_Law_law 534 = .ok (.iload 5, 2) := by decide +kernel
theorem d_Law_law_536 : decode b_Law_law 536 = .ok (.if_icmp .eq 5, 3) := by decide +kernel
theorem d_Law_law_539 : decode b_Law_law 539 = .ok (.iconst 0, 1) := by decide +kernel
theorem d_Law_law_540 : decode b_Law_law 540 = .ok (.ireturn, 1) := by decide +kernel
theorem d_Law_law_541 : decode b_Law_law 541 = .ok (.iload 5, 2) := by decide +kernel
theorem d_Law_law_543 : decode b_Law_law 543 = .ok (.ifCond .ne 14, 3) := by decide +kernel
theorem d_Law_law_546 : decode b_Law_law 546 = .ok (.aload_n 3, 1) := by decide +kernel
theorem d_Law_law_547 : decode b_Law_law 547 = .ok (.iconst 0, 1) := by decide +kernel
theorem d_Law_law_548 : decode b_Law_law 548 = .ok (.laload, 1) := by decide +kernel
theorem d_Law_law_549 : decode b_Law_law 549 = .ok (.lload 6, 2) := by decide +kernel
theorem d_Law_law_551 : decode b_Law_law 551 = .ok (.lcmp, 1) := by decide +kernel
theorem d_Law_law_552 : decode b_Law_law 552 = .ok (.ifCond .eq 5, 3) := by decide +kernel
theorem d_Law_law_555 : decode b_Law_law 555 = .ok (.iconst 0, 1) := by decide +kernel
theorem d_Law_law_556 : decode b_Law_law 556 = .ok (.ireturn, 1) := by decide +kernel
theorem d_Law_law_557 : decode b_Law_law 557 = .ok (.goto 571, 3) := by decide +kernel
theorem d_Law_law_560 : decode b_Law_law 560 = .ok (.aload_n 1, 1) := by decide +kernel
theorem d_Law_law_561 : decode b_Law_law 561 = .ok (.aload_n 0, 1) := by decide +kernel
theorem d_Law_law_562 : decode b_Law_law 562 = .ok (.iload 4, 2) := by decide +kernel
theorem d_Law_law_564 : decode b_Law_law 564 = .ok (.iconst 1, 1) := by decide +kernel
theorem d_Law_law_565 : decode b_Law_law 565 = .ok (.iadd, 1) := by decide +kernel
theorem d_Law_law_566 : decode b_Law_law 566 = .ok (.iaload, 1) := by decide +kernel
theorem d_Law_law_567 : decode b_Law_law 567 = .ok (.aload_n 3, 1) := by decide +kernel
theorem d_Law_law_568 : decode b_Law_law 568 = .ok (.invokestatic 104, 3) := by decide +kernel
theorem d_Law_law_571 : decode b_Law_law 571 = .ok (.istore 5, 2) := by decide +kernel
theorem d_Law_law_573 : decode b_Law_law 573 = .ok (.aload_n 2, 1) := by decide +kernel
theorem d_Law_law_574 : decode b_Law_law 574 = .ok (.aload_n 0, 1) := by decide +kernel
theorem d_Law_law_575 : decode b_Law_law 575 = .ok (.iload 4, 2) := by decide +kernel
theorem d_Law_law_577 : decode b_Law_law 577 = .ok (.iconst 1, 1) := by decide +kernel
theorem d_Law_law_578 : decode b_Law_law 578 = .ok (.iadd, 1) := by decide +kernel
theorem d_Law_law_579 : decode b_Law_law 579 = .ok (.iaload, 1) := by decide +kernel
theorem d_Law_law_580 : decode b_Law_law 580 = .ok (.invokevirtual 106, 3) := by decide +kernel
theorem d_Law_law_583 : decode b_Law_law 583 = .ok (.istore 6, 2) := by decide +kernel
theorem d_Law_law_585 : decode b_Law_law 585 = .ok (.aload_n 2, 1) := by decide +kernel
theorem d_Law_law_586 : decode b_Law_law 586 = .ok (.invokevirtual 83, 3) := by decide +kernel
theorem d_Law_law_589 : decode b_Law_law 589 = .ok (.iload 5, 2) := by decide +kernel
theorem d_Law_law_591 : decode b_Law_law 591 = .ok (.if_icmp .eq 5, 3) := by decide +kernel
theorem d_Law_law_594 : decode b_Law_law 594 = .ok (.iconst 0, 1) := by decide +kernel
theorem d_Law_law_595 : decode b_Law_law 595 = .ok (.ireturn, 1) := by decide +kernel
theorem d_Law_law_596 : decode b_Law_law 596 = .ok (.iload 5, 2) := by decide +kernel
theorem d_Law_law_598 : decode b_Law_law 598 = .ok (.ifCond .ne 15, 3) := by decide +kernel
theorem d_Law_law_601 : decode b_Law_law 601 = .ok (.aload_n 3, 1) := by decide +kernel
theorem d_Law_law_602 : decode b_Law_law 602 = .ok (.iconst 0, 1) := by decide +kernel
theorem d_Law_law_603 : decode b_Law_law 603 = .ok (.laload, 1) := by decide +kernel
theorem d_Law_law_604 : decode b_Law_law 604 = .ok (.iload 6, 2) := by decide +kernel
theorem d_Law_law_606 : decode b_Law_law 606 = .ok (.i2l, 1) := by decide +kernel
theorem d_Law_law_607 : decode b_Law_law 607 = .ok (.lcmp, 1) := by decide +kernel
theorem d_Law_law_608 : decode b_Law_law 608 = .ok (.ifCond .eq 5, 3) := by decide +kernel
theorem d_Law_law_611 : decode b_Law_law 611 = .ok (.iconst 0, 1) := by decide +kernel
theorem d_Law_law_612 : decode b_Law_law 612 = .ok (.ireturn, 1) := by decide +kernel
theorem d_Law_law_613 : decode b_Law_law 613 = .ok (.goto 515, 3) := by decide +kernel
theorem d_Law_law_616 : decode b_Law_law 616 = .ok (.aload_n 1, 1) := by decide +kernel
theorem d_Law_law_617 : decode b_Law_law 617 = .ok (.aload_n 0, 1) := by decide +kernel
theorem d_Law_law_618 : decode b_Law_law 618 = .ok (.iload 4, 2) := by decide +kernel
theorem d_Law_law_620 : decode b_Law_law 620 = .ok (.iconst 1, 1) := by decide +kernel
theorem d_Law_law_621 : decode b_Law_law 621 = .ok (.iadd, 1) := by decide +kernel
theorem d_Law_law_622 : decode b_Law_law 622 = .ok (.iaload, 1) := by decide +kernel
theorem d_Law_law_623 : decode b_Law_law 623 = .ok (.aload_n 0, 1) := by decide +kernel
theorem d_Law_law_624 : decode b_Law_law 624 = .ok (.iload 4, 2) := by decide +kernel
theorem d_Law_law_626 : decode b_Law_law 626 = .ok (.iconst 2, 1) := by decide +kernel
theorem d_Law_law_627 : decode b_Law_law 627 = .ok (.iadd, 1) := by decide +kernel
theorem d_Law_law_628 : decode b_Law_law 628 = .ok (.iaload, 1) := by decide +kernel
theorem d_Law_law_629 : decode b_Law_law 629 = .ok (.aload_n 3, 1) := by decide +kernel
theorem d_Law_law_630 : decode b_Law_law 630 = .ok (.invokestatic 107, 3) := by decide +kernel
theorem d_Law_law_633 : decode b_Law_law 633 = .ok (.istore 5, 2) := by decide +kernel
theorem d_Law_law_635 : decode b_Law_law 635 = .ok (.aload_n 2, 1) := by decide +kernel
theorem d_Law_law_636 : decode b_Law_law 636 = .ok (.aload_n 0, 1) := by decide +kernel
theorem d_Law_law_637 : decode b_Law_law 637 = .ok (.iload 4, 2) := by decide +kernel
theorem d_Law_law_639 : decode b_Law_law 639 = .ok (.iconst 1, 1) := by decide +kernel
theorem d_Law_law_640 : decode b_Law_law 640 = .ok (.iadd, 1) := by decide +kernel
theorem d_Law_law_641 : decode b_Law_law 641 = .ok (.iaload, 1) := by decide +kernel
theorem d_Law_law_642 : decode b_Law_law 642 = .ok (.aload_n 0, 1) := by decide +kernel
theorem d_Law_law_643 : decode b_Law_law 643 = .ok (.iload 4, 2) := by decide +kernel
theorem d_Law_law_645 : decode b_Law_law 645 = .ok (.iconst 2, 1) := by decide +kernel
theorem d_Law_law_646 : decode b_Law_law 646 = .ok (.iadd, 1) := by decide +kernel
theorem d_Law_law_647 : decode b_Law_law 647 = .ok (.iaload, 1) := by decide +kernel
theorem d_Law_law_648 : decode b_Law_law 648 = .ok (.invokevirtual 109, 3) := by decide +kernel
theorem d_Law_law_651 : decode b_Law_law 651 = .ok (.istore 6, 2) := by decide +kernel
theorem d_Law_law_653 : decode b_Law_law 653 = .ok (.aload_n 2, 1) := by decide +kernel
theorem d_Law_law_654 : decode b_Law_law 654 = .ok (.invokevirtual 83, 3) := by decide +kernel
theorem d_Law_law_657 : decode b_Law_law 657 = .ok (.iload 5, 2) := by decide +kernel
theorem d_Law_law_659 : decode b_Law_law 659 = .ok (.if_icmp .eq 5, 3) := by decide +kernel
theorem d_Law_law_662 : decode b_Law_law 662 = .ok (.iconst 0, 1) := by decide +kernel
theorem d_Law_law_663 : decode b_Law_law 663 = .ok (.ireturn, 1) := by decide +kernel
theorem d_Law_law_664 : decode b_Law_law 664 = .ok (.iload 5, 2) := by decide +kernel
theorem d_Law_law_666 : decode b_Law_law 666 = .ok (.ifCond .ne 15, 3) := by decide +kernel
theorem d_Law_law_669 : decode b_Law_law 669 = .ok (.aload_n 3, 1) := by decide +kernel
theorem d_Law_law_670 : decode b_Law_law 670 = .ok (.iconst 0, 1) := by decide +kernel
theorem d_Law_law_671 : decode b_Law_law 671 = .ok (.laload, 1) := by decide +kernel
theorem d_Law_law_672 : decode b_Law_law 672 = .ok (.iload 6, 2) := by decide +kernel
theorem d_Law_law_674 : decode b_Law_law 674 = .ok (.i2l, 1) := by decide +kernel
theorem d_Law_law_675 : decode b_Law_law 675 = .ok (.lcmp, 1) := by decide +kernel
theorem d_Law_law_676 : decode b_Law_law 676 = .ok (.ifCond .eq 5, 3) := by decide +kernel
theorem d_Law_law_679 : decode b_Law_law 679 = .ok (.iconst 0, 1) := by decide +kernel
theorem d_Law_law_680 : decode b_Law_law 680 = .ok (.ireturn, 1) := by decide +kernel
theorem d_Law_law_681 : decode b_Law_law 681 = .ok (.goto 447, 3) := by decide +kernel
theorem d_Law_law_684 : decode b_Law_law 684 = .ok (.aload_n 1, 1) := by decide +kernel
theorem d_Law_law_685 : decode b_Law_law 685 = .ok (.aload_n 0, 1) := by decide +kernel
theorem d_Law_law_686 : decode b_Law_law 686 = .ok (.iload 4, 2) := by decide +kernel
theorem d_Law_law_688 : decode b_Law_law 688 = .ok (.iconst 1, 1) := by decide +kernel
theorem d_Law_law_689 : decode b_Law_law 689 = .ok (.iadd, 1) := by decide +kernel
theorem d_Law_law_690 : decode b_Law_law 690 = .ok (.iaload, 1) := by decide +kernel
theorem d_Law_law_691 : decode b_Law_law 691 = .ok (.aload_n 0, 1) := by decide +kernel
theorem d_Law_law_692 : decode b_Law_law 692 = .ok (.iload 4, 2) := by decide +kernel
theorem d_Law_law_694 : decode b_Law_law 694 = .ok (.iconst 2, 1) := by decide +kernel
theorem d_Law_law_695 : decode b_Law_law 695 = .ok (.iadd, 1) := by decide +kernel
theorem d_Law_law_696 : decode b_Law_law 696 = .ok (.iaload, 1) := by decide +kernel
theorem d_Law_law_697 : decode b_Law_law 697 = .ok (.aload_n 3, 1) := by decide +kernel
theorem d_Law_law_698 : decode b_Law_law 698 = .ok (.invokestatic 110, 3) := by decide +kernel
theorem d_Law_law_701 : decode b_Law_law 701 = .ok (.istore 5, 2) := by decide +kernel
theorem d_Law_law_703 : decode b_Law_law 703 = .ok (.aload_n 2, 1) := by decide +kernel
theorem d_Law_law_704 : decode b_Law_law 704 = .ok (.aload_n 0, 1) := by decide +kernel
theorem d_Law_law_705 : decode b_Law_law 705 = .ok (.iload 4, 2) := by decide +kernel
theorem d_Law_law_707 : decode b_Law_law 707 = .ok (.iconst 1, 1) := by decide +kernel
theorem d_Law_law_708 : decode b_Law_law 708 = .ok (.iadd, 1) := by decide +kernel
theorem d_Law_law_709 : decode b_Law_law 709 = .ok (.iaload, 1) := by decide +kernel
theorem d_Law_law_710 : decode b_Law_law 710 = .ok (.aload_n 0, 1) := by decide +kernel
theorem d_Law_law_711 : decode b_Law_law 711 = .ok (.iload 4, 2) := by decide +kernel
theorem d_Law_law_713 : decode b_Law_law 713 = .ok (.iconst 2, 1) := by decide +kernel
theorem d_Law_law_714 : decode b_Law_law 714 = .ok (.iadd, 1) := by decide +kernel
theorem d_Law_law_715 : decode b_Law_law 715 = .ok (.iaload, 1) := by decide +kernel
theorem d_Law_law_716 : decode b_Law_law 716 = .ok (.invokevirtual 112, 3) := by decide +kernel
theorem d_Law_law_719 : decode b_Law_law 719 = .ok (.istore 6, 2) := by decide +kernel
theorem d_Law_law_721 : decode b_Law_law 721 = .ok (.aload_n 2, 1) := by decide +kernel
theorem d_Law_law_722 : decode b_Law_law 722 = .ok (.invokevirtual 83, 3) := by decide +kernel
theorem d_Law_law_725 : decode b_Law_law 725 = .ok (.iload 5, 2) := by decide +kernel
theorem d_Law_law_727 : decode b_Law_law 727 = .ok (.if_icmp .eq 5, 3) := by decide +kernel
theorem d_Law_law_730 : decode b_Law_law 730 = .ok (.iconst 0, 1) := by decide +kernel
theorem d_Law_law_731 : decode b_Law_law 731 = .ok (.ireturn, 1) := by decide +kernel
theorem d_Law_law_732 : decode b_Law_law 732 = .ok (.iload 5, 2) := by decide +kernel
theorem d_Law_law_734 : decode b_Law_law 734 = .ok (.ifCond .ne 15, 3) := by decide +kernel
theorem d_Law_law_737 : decode b_Law_law 737 = .ok (.aload_n 3, 1) := by decide +kernel
theorem d_Law_law_738 : decode b_Law_law 738 = .ok (.iconst 0, 1) := by decide +kernel
theorem d_Law_law_739 : decode b_Law_law 739 = .ok (.laload, 1) := by decide +kernel
theorem d_Law_law_740 : decode b_Law_law 740 = .ok (.iload 6, 2) := by decide +kernel
theorem d_Law_law_742 : decode b_Law_law 742 = .ok (.i2l, 1) := by decide +kernel
theorem d_Law_law_743 : decode b_Law_law 743 = .ok (.lcmp, 1) := by decide +kernel
theorem d_Law_law_744 : decode b_Law_law 744 = .ok (.ifCond .eq 5, 3) := by decide +kernel
theorem d_Law_law_747 : decode b_Law_law 747 = .ok (.iconst 0, 1) := by decide +kernel
theorem d_Law_law_748 : decode b_Law_law 748 = .ok (.ireturn, 1) := by decide +kernel
theorem d_Law_law_749 : decode b_Law_law 749 = .ok (.goto 379, 3) := by decide +kernel
theorem d_Law_law_752 : decode b_Law_law 752 = .ok (.aload_n 1, 1) := by decide +kernel
theorem d_Law_law_753 : decode b_Law_law 753 = .ok (.aload_n 0, 1) := by decide +kernel
theorem d_Law_law_754 : decode b_Law_law 754 = .ok (.iload 4, 2) := by decide +kernel
theorem d_Law_law_756 : decode b_Law_law 756 = .ok (.iconst 1, 1) := by decide +kernel
theorem d_Law_law_757 : decode b_Law_law 757 = .ok (.iadd, 1) := by decide +kernel
theorem d_Law_law_758 : decode b_Law_law 758 = .ok (.iaload, 1) := by decide +kernel
theorem d_Law_law_759 : decode b_Law_law 759 = .ok (.aload_n 0, 1) := by decide +kernel
theorem d_Law_law_760 : decode b_Law_law 760 = .ok (.iload 4, 2) := by decide +kernel
theorem d_Law_law_762 : decode b_Law_law 762 = .ok (.iconst 2, 1) := by decide +kernel
theorem d_Law_law_763 : decode b_Law_law 763 = .ok (.iadd, 1) := by decide +kernel
theorem d_Law_law_764 : decode b_Law_law 764 = .ok (.iaload, 1) := by decide +kernel
theorem d_Law_law_765 : decode b_Law_law 765 = .ok (.aload_n 3, 1) := by decide +kernel
theorem d_Law_law_766 : decode b_Law_law 766 = .ok (.invokestatic 113, 3) := by decide +kernel
theorem d_Law_law_769 : decode b_Law_law 769 = .ok (.istore 5, 2) := by decide +kernel
theorem d_Law_law_771 : decode b_Law_law 771 = .ok (.aload_n 2, 1) := by decide +kernel
theorem d_Law_law_772 : decode b_Law_law 772 = .ok (.aload_n 0, 1) := by decide +kernel
theorem d_Law_law_773 : decode b_Law_law 773 = .ok (.iload 4, 2) := by decide +kernel
theorem d_Law_law_775 : decode b_Law_law 775 = .ok (.iconst 1, 1) := by decide +kernel
theorem d_Law_law_776 : decode b_Law_law 776 = .ok (.iadd, 1) := by decide +kernel
theorem d_Law_law_777 : decode b_Law_law 777 = .ok (.iaload, 1) := by decide +kernel
theorem d_Law_law_778 : decode b_Law_law 778 = .ok (.aload_n 0, 1) := by decide +kernel
theorem d_Law_law_779 : decode b_Law_law 779 = .ok (.iload 4, 2) := by decide +kernel
theorem d_Law_law_781 : decode b_Law_law 781 = .ok (.iconst 2, 1) := by decide +kernel
theorem d_Law_law_782 : decode b_Law_law 782 = .ok (.iadd, 1) := by decide +kernel
theorem d_Law_law_783 : decode b_Law_law 783 = .ok (.iaload, 1) := by decide +kernel
theorem d_Law_law_784 : decode b_Law_law 784 = .ok (.invokevirtual 115, 3) := by decide +kernel
theorem d_Law_law_787 : decode b_Law_law 787 = .ok (.istore 6, 2) := by decide +kernel
theorem d_Law_law_789 : decode b_Law_law 789 = .ok (.aload_n 2, 1) := by decide +kernel
theorem d_Law_law_790 : decode b_Law_law 790 = .ok (.invokevirtual 83, 3) := by decide +kernel
theorem d_Law_law_793 : decode b_Law_law 793 = .ok (.iload 5, 2) := by decide +kernel
theorem d_Law_law_795 : decode b_Law_law 795 = .ok (.if_icmp .eq 5, 3) := by decide +kernel
theorem d_Law_law_798 : decode b_Law_law 798 = .ok (.iconst 0, 1) := by decide +kernel
theorem d_Law_law_799 : decode b_Law_law 799 = .ok (.ireturn, 1) := by decide +kernel
theorem d_Law_law_800 : decode b_Law_law 800 = .ok (.iload 5, 2) := by decide +kernel
theorem d_Law_law_802 : decode b_Law_law 802 = .ok (.ifCond .ne 22, 3) := by decide +kernel
theorem d_Law_law_805 : decode b_Law_law 805 = .ok (.aload_n 3, 1) := by decide +kernel
theorem d_Law_law_806 : decode b_Law_law 806 = .ok (.iconst 0, 1) := by decide +kernel
theorem d_Law_law_807 : decode b_Law_law 807 = .ok (.laload, 1) := by decide +kernel
theorem d_Law_law_808 : decode b_Law_law 808 = .ok (.iload 6, 2) := by decide +kernel
theorem d_Law_law_810 : decode b_Law_law 810 = .ok (.ifCond .eq 7, 3) := by decide +kernel
theorem d_Law_law_813 : decode b_Law_law 813 = .ok (.lconst 1, 1) := by decide +kernel
theorem d_Law_law_814 : decode b_Law_law 814 = .ok (.goto 4, 3) := by decide +kernel
theorem d_Law_law_817 : decode b_Law_law 817 = .ok (.lconst 0, 1) := by decide +kernel
theorem d_Law_law_818 : decode b_Law_law 818 = .ok (.lcmp, 1) := by decide +kernel
theorem d_Law_law_819 : decode b_Law_law 819 = .ok (.ifCond .eq 5, 3) := by decide +kernel
theorem d_Law_law_822 : decode b_Law_law 822 = .ok (.iconst 0, 1) := by decide +kernel
theorem d_Law_law_823 : decode b_Law_law 823 = .ok (.ireturn, 1) := by decide +kernel
theorem d_Law_law_824 : decode b_Law_law 824 = .ok (.goto 304, 3) := by decide +kernel
theorem d_Law_law_827 : decode b_Law_law 827 = .ok (.aload_n 1, 1) := by decide +kernel
theorem d_Law_law_828 : decode b_Law_law 828 = .ok (.aload_n 0, 1) := by decide +kernel
theorem d_Law_law_829 : decode b_Law_law 829 = .ok (.iload 4, 2) := by decide +kernel
theorem d_Law_law_831 : decode b_Law_law 831 = .ok (.iconst 1, 1) := by decide +kernel
theorem d_Law_law_832 : decode b_Law_law 832 = .ok (.iadd, 1) := by decide +kernel
theorem d_Law_law_833 : decode b_Law_law 833 = .ok (.iaload, 1) := by decide +kernel
theorem d_Law_law_834 : decode b_Law_law 834 = .ok (.aload_n 0, 1) := by decide +kernel
theorem d_Law_law_835 : decode b_Law_law 835 = .ok (.iload 4, 2) := by decide +kernel
theorem d_Law_law_837 : decode b_Law_law 837 = .ok (.iconst 2, 1) := by decide +kernel
theorem d_Law_law_838 : decode b_Law_law 838 = .ok (.iadd, 1) := by decide +kernel
theorem d_Law_law_839 : decode b_Law_law 839 = .ok (.iaload, 1) := by decide +kernel
theorem d_Law_law_840 : decode b_Law_law 840 = .ok (.aload_n 3, 1) := by decide +kernel
theorem d_Law_law_841 : decode b_Law_law 841 = .ok (.invokestatic 116, 3) := by decide +kernel
theorem d_Law_law_844 : decode b_Law_law 844 = .ok (.istore 5, 2) := by decide +kernel
theorem d_Law_law_846 : decode b_Law_law 846 = .ok (.aload_n 2, 1) := by decide +kernel
theorem d_Law_law_847 : decode b_Law_law 847 = .ok (.aload_n 0, 1) := by decide +kernel
theorem d_Law_law_848 : decode b_Law_law 848 = .ok (.iload 4, 2) := by decide +kernel
theorem d_Law_law_850 : decode b_Law_law 850 = .ok (.iconst 1, 1) := by decide +kernel
theorem d_Law_law_851 : decode b_Law_law 851 = .ok (.iadd, 1) := by decide +kernel
theorem d_Law_law_852 : decode b_Law_law 852 = .ok (.iaload, 1) := by decide +kernel
theorem d_Law_law_853 : decode b_Law_law 853 = .ok (.aload_n 0, 1) := by decide +kernel
theorem d_Law_law_854 : decode b_Law_law 854 = .ok (.iload 4, 2) := by decide +kernel
theorem d_Law_law_856 : decode b_Law_law 856 = .ok (.iconst 2, 1) := by decide +kernel
theorem d_Law_law_857 : decode b_Law_law 857 = .ok (.iadd, 1) := by decide +kernel
theorem d_Law_law_858 : decode b_Law_law 858 = .ok (.iaload, 1) := by decide +kernel
theorem d_Law_law_859 : decode b_Law_law 859 = .ok (.invokevirtual 118, 3) := by decide +kernel
theorem d_Law_law_862 : decode b_Law_law 862 = .ok (.istore 6, 2) := by decide +kernel
theorem d_Law_law_864 : decode b_Law_law 864 = .ok (.aload_n 2, 1) := by decide +kernel
theorem d_Law_law_865 : decode b_Law_law 865 = .ok (.invokevirtual 83, 3) := by decide +kernel
theorem d_Law_law_868 : decode b_Law_law 868 = .ok (.iload 5, 2) := by decide +kernel
theorem d_Law_law_870 : decode b_Law_law 870 = .ok (.if_icmp .eq 5, 3) := by decide +kernel
theorem d_Law_law_873 : decode b_Law_law 873 = .ok (.iconst 0, 1) := by decide +kernel
theorem d_Law_law_874 : decode b_Law_law 874 = .ok (.ireturn, 1) := by decide +kernel
theorem d_Law_law_875 : decode b_Law_law 875 = .ok (.iload 5, 2) := by decide +kernel
theorem d_Law_law_877 : decode b_Law_law 877 = .ok (.ifCond .ne 15, 3) := by decide +kernel
theorem d_Law_law_880 : decode b_Law_law 880 = .ok (.aload_n 3, 1) := by decide +kernel
theorem d_Law_law_881 : decode b_Law_law 881 = .ok (.iconst 0, 1) := by decide +kernel
theorem d_Law_law_882 : decode b_Law_law 882 = .ok (.laload, 1) := by decide +kernel
theorem d_Law_law_883 : decode b_Law_law 883 = .ok (.iload 6, 2) := by decide +kernel
theorem d_Law_law_885 : decode b_Law_law 885 = .ok (.i2l, 1) := by decide +kernel
theorem d_Law_law_886 : decode b_Law_law 886 = .ok (.lcmp, 1) := by decide +kernel
theorem d_Law_law_887 : decode b_Law_law 887 = .ok (.ifCond .eq 5, 3) := by decide +kernel
theorem d_Law_law_890 : decode b_Law_law 890 = .ok (.iconst 0, 1) := by decide +kernel
theorem d_Law_law_891 : decode b_Law_law 891 = .ok (.ireturn, 1) := by decide +kernel
theorem d_Law_law_892 : decode b_Law_law 892 = .ok (.goto 236, 3) := by decide +kernel
theorem d_Law_law_895 : decode b_Law_law 895 = .ok (.aload_n 1, 1) := by decide +kernel
theorem d_Law_law_896 : decode b_Law_law 896 = .ok (.aload_n 0, 1) := by decide +kernel
theorem d_Law_law_897 : decode b_Law_law 897 = .ok (.iload 4, 2) := by decide +kernel
theorem d_Law_law_899 : decode b_Law_law 899 = .ok (.iconst 1, 1) := by decide +kernel
theorem d_Law_law_900 : decode b_Law_law 900 = .ok (.iadd, 1) := by decide +kernel
theorem d_Law_law_901 : decode b_Law_law 901 = .ok (.iaload, 1) := by decide +kernel
theorem d_Law_law_902 : decode b_Law_law 902 = .ok (.aload_n 3, 1) := by decide +kernel
theorem d_Law_law_903 : decode b_Law_law 903 = .ok (.invokestatic 119, 3) := by decide +kernel
theorem d_Law_law_906 : decode b_Law_law 906 = .ok (.istore 5, 2) := by decide +kernel
theorem d_Law_law_908 : decode b_Law_law 908 = .ok (.aload_n 2, 1) := by decide +kernel
theorem d_Law_law_909 : decode b_Law_law 909 = .ok (.aload_n 0, 1) := by decide +kernel
theorem d_Law_law_910 : decode b_Law_law 910 = .ok (.iload 4, 2) := by decide +kernel
theorem d_Law_law_912 : decode b_Law_law 912 = .ok (.iconst 1, 1) := by decide +kernel
theorem d_Law_law_913 : decode b_Law_law 913 = .ok (.iadd, 1) := by decide +kernel
theorem d_Law_law_914 : decode b_Law_law 914 = .ok (.iaload, 1) := by decide +kernel
theorem d_Law_law_915 : decode b_Law_law 915 = .ok (.invokevirtual 121, 3) := by decide +kernel
theorem d_Law_law_918 : decode b_Law_law 918 = .ok (.istore 6, 2) := by decide +kernel
theorem d_Law_law_920 : decode b_Law_law 920 = .ok (.aload_n 2, 1) := by decide +kernel
theorem d_Law_law_921 : decode b_Law_law 921 = .ok (.invokevirtual 83, 3) := by decide +kernel
theorem d_Law_law_924 : decode b_Law_law 924 = .ok (.iload 5, 2) := by decide +kernel
theorem d_Law_law_926 : decode b_Law_law 926 = .ok (.if_icmp .eq 5, 3) := by decide +kernel
theorem d_Law_law_929 : decode b_Law_law 929 = .ok (.iconst 0, 1) := by decide +kernel
theorem d_Law_law_930 : decode b_Law_law 930 = .ok (.ireturn, 1) := by decide +kernel
theorem d_Law_law_931 : decode b_Law_law 931 = .ok (.iload 5, 2) := by decide +kernel
theorem d_Law_law_933 : decode b_Law_law 933 = .ok (.ifCond .ne 15, 3) := by decide +kernel
theorem d_Law_law_936 : decode b_Law_law 936 = .ok (.aload_n 3, 1) := by decide +kernel
theorem d_Law_law_937 : decode b_Law_law 937 = .ok (.iconst 0, 1) := by decide +kernel
theorem d_Law_law_938 : decode b_Law_law 938 = .ok (.laload, 1) := by decide +kernel
theorem d_Law_law_939 : decode b_Law_law 939 = .ok (.iload 6, 2) := by decide +kernel
theorem d_Law_law_941 : decode b_Law_law 941 = .ok (.i2l, 1) := by decide +kernel
theorem d_Law_law_942 : decode b_Law_law 942 = .ok (.lcmp, 1) := by decide +kernel
theorem d_Law_law_943 : decode b_Law_law 943 = .ok (.ifCond .eq 5, 3) := by decide +kernel
theorem d_Law_law_946 : decode b_Law_law 946 = .ok (.iconst 0, 1) := by decide +kernel
theorem d_Law_law_947 : decode b_Law_law 947 = .ok (.ireturn, 1) := by decide +kernel
theorem d_Law_law_948 : decode b_Law_law 948 = .ok (.goto 180, 3) := by decide +kernel
theorem d_Law_law_951 : decode b_Law_law 951 = .ok (.aload_n 1, 1) := by decide +kernel
theorem d_Law_law_952 : decode b_Law_law 952 = .ok (.aload_n 3, 1) := by decide +kernel
theorem d_Law_law_953 : decode b_Law_law 953 = .ok (.invokestatic 122, 3) := by decide +kernel
theorem d_Law_law_956 : decode b_Law_law 956 = .ok (.istore 5, 2) := by decide +kernel
theorem d_Law_law_958 : decode b_Law_law 958 = .ok (.aload_n 2, 1) := by decide +kernel
theorem d_Law_law_959 : decode b_Law_law 959 = .ok (.invokevirtual 124, 3) := by decide +kernel
theorem d_Law_law_962 : decode b_Law_law 962 = .ok (.istore 6, 2) := by decide +kernel
theorem d_Law_law_964 : decode b_Law_law 964 = .ok (.aload_n 2, 1) := by decide +kernel
theorem d_Law_law_965 : decode b_Law_law 965 = .ok (.invokevirtual 83, 3) := by decide +kernel
theorem d_Law_law_968 : decode b_Law_law 968 = .ok (.iload 5, 2) := by decide +kernel
theorem d_Law_law_970 : decode b_Law_law 970 = .ok (.if_icmp .eq 5, 3) := by decide +kernel
theorem d_Law_law_973 : decode b_Law_law 973 = .ok (.iconst 0, 1) := by decide +kernel
theorem d_Law_law_974 : decode b_Law_law 974 = .ok (.ireturn, 1) := by decide +kernel
theorem d_Law_law_975 : decode b_Law_law 975 = .ok (.iload 5, 2) := by decide +kernel
theorem d_Law_law_977 : decode b_Law_law 977 = .ok (.ifCond .ne 15, 3) := by decide +kernel
theorem d_Law_law_980 : decode b_Law_law 980 = .ok (.aload_n 3, 1) := by decide +kernel
theorem d_Law_law_981 : decode b_Law_law 981 = .ok (.iconst 0, 1) := by decide +kernel
theorem d_Law_law_982 : decode b_Law_law 982 = .ok (.laload, 1) := by decide +kernel
theorem d_Law_law_983 : decode b_Law_law 983 = .ok (.iload 6, 2) := by decide +kernel
theorem d_Law_law_985 : decode b_Law_law 985 = .ok (.i2l, 1) := by decide +kernel
theorem d_Law_law_986 : decode b_Law_law 986 = .ok (.lcmp, 1) := by decide +kernel
theorem d_Law_law_987 : decode b_Law_law 987 = .ok (.ifCond .eq 5, 3) := by decide +kernel
theorem d_Law_law_990 : decode b_Law_law 990 = .ok (.iconst 0, 1) := by decide +kernel
theorem d_Law_law_991 : decode b_Law_law 991 = .ok (.ireturn, 1) := by decide +kernel
theorem d_Law_law_992 : decode b_Law_law 992 = .ok (.goto 136, 3) := by decide +kernel
theorem d_Law_law_995 : decode b_Law_law 995 = .ok (.aload_n 1, 1) := by decide +kernel
theorem d_Law_law_996 : decode b_Law_law 996 = .ok (.aload_n 0, 1) := by decide +kernel
theorem d_Law_law_997 : decode b_Law_law 997 = .ok (.iload 4, 2) := by decide +kernel
theorem d_Law_law_999 : decode b_Law_law 999 = .ok (.iconst 1, 1) := by decide +kernel
theorem d_Law_law_1000 : decode b_Law_law 1000 = .ok (.iadd, 1) := by decide +kernel
theorem d_Law_law_1001 : decode b_Law_law 1001 = .ok (.iaload, 1) := by decide +kernel
theorem d_Law_law_1002 : decode b_Law_law 1002 = .ok (.aload_n 0, 1) := by decide +kernel
theorem d_Law_law_1003 : decode b_Law_law 1003 = .ok (.iload 4, 2) := by decide +kernel
theorem d_Law_law_1005 : decode b_Law_law 1005 = .ok (.iconst 2, 1) := by decide +kernel
theorem d_Law_law_1006 : decode b_Law_law 1006 = .ok (.iadd, 1) := by decide +kernel
theorem d_Law_law_1007 : decode b_Law_law 1007 = .ok (.iaload, 1) := by decide +kernel
theorem d_Law_law_1008 : decode b_Law_law 1008 = .ok (.aload_n 3, 1) := by decide +kernel
theorem d_Law_law_1009 : decode b_Law_law 1009 = .ok (.invokestatic 125, 3) := by decide +kernel
theorem d_Law_law_1012 : decode b_Law_law 1012 = .ok (.istore 5, 2) := by decide +kernel
theorem d_Law_law_1014 : decode b_Law_law 1014 = .ok (.aload_n 2, 1) := by decide +kernel
theorem d_Law_law_1015 : decode b_Law_law 1015 = .ok (.aload_n 0, 1) := by decide +kernel
theorem d_Law_law_1016 : decode b_Law_law 1016 = .ok (.iload 4, 2) := by decide +kernel
theorem d_Law_law_1018 : decode b_Law_law 1018 = .ok (.iconst 1, 1) := by decide +kernel
theorem d_Law_law_1019 : decode b_Law_law 1019 = .ok (.iadd, 1) := by decide +kernel
theorem d_Law_law_1020 : decode b_Law_law 1020 = .ok (.iaload, 1) := by decide +kernel
theorem d_Law_law_1021 : decode b_Law_law 1021 = .ok (.aload_n 0, 1) := by decide +kernel
theorem d_Law_law_1022 : decode b_Law_law 1022 = .ok (.iload 4, 2) := by decide +kernel
theorem d_Law_law_1024 : decode b_Law_law 1024 = .ok (.iconst 2, 1) := by decide +kernel
theorem d_Law_law_1025 : decode b_Law_law 1025 = .ok (.iadd, 1) := by decide +kernel
theorem d_Law_law_1026 : decode b_Law_law 1026 = .ok (.iaload, 1) := by decide +kernel
theorem d_Law_law_1027 : decode b_Law_law 1027 = .ok (.invokevirtual 127, 3) := by decide +kernel
theorem d_Law_law_1030 : decode b_Law_law 1030 = .ok (.istore 6, 2) := by decide +kernel
theorem d_Law_law_1032 : decode b_Law_law 1032 = .ok (.aload_n 2, 1) := by decide +kernel
theorem d_Law_law_1033 : decode b_Law_law 1033 = .ok (.invokevirtual 83, 3) := by decide +kernel
theorem d_Law_law_1036 : decode b_Law_law 1036 = .ok (.iload 5, 2) := by decide +kernel
theorem d_Law_law_1038 : decode b_Law_law 1038 = .ok (.if_icmp .eq 5, 3) := by decide +kernel
theorem d_Law_law_1041 : decode b_Law_law 1041 = .ok (.iconst 0, 1) := by decide +kernel
theorem d_Law_law_1042 : decode b_Law_law 1042 = .ok (.ireturn, 1) := by decide +kernel
theorem d_Law_law_1043 : decode b_Law_law 1043 = .ok (.iload 5, 2) := by decide +kernel
theorem d_Law_law_1045 : decode b_Law_law 1045 = .ok (.ifCond .ne 15, 3) := by decide +kernel
theorem d_Law_law_1048 : decode b_Law_law 1048 = .ok (.aload_n 3, 1) := by decide +kernel
theorem d_Law_law_1049 : decode b_Law_law 1049 = .ok (.iconst 0, 1) := by decide +kernel
theorem d_Law_law_1050 : decode b_Law_law 1050 = .ok (.laload, 1) := by decide +kernel
theorem d_Law_law_1051 : decode b_Law_law 1051 = .ok (.iload 6, 2) := by decide +kernel
theorem d_Law_law_1053 : decode b_Law_law 1053 = .ok (.i2l, 1) := by decide +kernel
theorem d_Law_law_1054 : decode b_Law_law 1054 = .ok (.lcmp, 1) := by decide +kernel
theorem d_Law_law_1055 : decode b_Law_law 1055 = .ok (.ifCond .eq 5, 3) := by decide +kernel
theorem d_Law_law_1058 : decode b_Law_law 1058 = .ok (.iconst 0, 1) := by decide +kernel
theorem d_Law_law_1059 : decode b_Law_law 1059 = .ok (.ireturn, 1) := by decide +kernel
theorem d_Law_law_1060 : decode b_Law_law 1060 = .ok (.goto 68, 3) := by decide +kernel
theorem d_Law_law_1063 : decode b_Law_law 1063 = .ok (.aload_n 1, 1) := by decide +kernel
theorem d_Law_law_1064 : decode b_Law_law 1064 = .ok (.aload_n 3, 1) := by decide +kernel
theorem d_Law_law_1065 : decode b_Law_law 1065 = .ok (.invokestatic 128, 3) := by decide +kernel
theorem d_Law_law_1068 : decode b_Law_law 1068 = .ok (.istore 5, 2) := by decide +kernel
theorem d_Law_law_1070 : decode b_Law_law 1070 = .ok (.aload_n 2, 1) := by decide +kernel
theorem d_Law_law_1071 : decode b_Law_law 1071 = .ok (.invokevirtual 130, 3) := by decide +kernel
theorem d_Law_law_1074 : decode b_Law_law 1074 = .ok (.istore 6, 2) := by decide +kernel
theorem d_Law_law_1076 : decode b_Law_law 1076 = .ok (.aload_n 2, 1) := by decide +kernel
theorem d_Law_law_1077 : decode b_Law_law 1077 = .ok (.invokevirtual 83, 3) := by decide +kernel
theorem d_Law_law_1080 : decode b_Law_law 1080 = .ok (.iload 5, 2) := by decide +kernel
theorem d_Law_law_1082 : decode b_Law_law 1082 = .ok (.if_icmp .eq 5, 3) := by decide +kernel
theorem d_Law_law_1085 : decode b_Law_law 1085 = .ok (.iconst 0, 1) := by decide +kernel
theorem d_Law_law_1086 : decode b_Law_law 1086 = .ok (.ireturn, 1) := by decide +kernel
theorem d_Law_law_1087 : decode b_Law_law 1087 = .ok (.iload 5, 2) := by decide +kernel
theorem d_Law_law_1089 : decode b_Law_law 1089 = .ok (.ifCond .ne 22, 3) := by decide +kernel
theorem d_Law_law_1092 : decode b_Law_law 1092 = .ok (.aload_n 3, 1) := by decide +kernel
theorem d_Law_law_1093 : decode b_Law_law 1093 = .ok (.iconst 0, 1) := by decide +kernel
theorem d_Law_law_1094 : decode b_Law_law 1094 = .ok (.laload, 1) := by decide +kernel
theorem d_Law_law_1095 : decode b_Law_law 1095 = .ok (.iload 6, 2) := by decide +kernel
theorem d_Law_law_1097 : decode b_Law_law 1097 = .ok (.ifCond .eq 7, 3) := by decide +kernel
theorem d_Law_law_1100 : decode b_Law_law 1100 = .ok (.lconst 1, 1) := by decide +kernel
theorem d_Law_law_1101 : decode b_Law_law 1101 = .ok (.goto 4, 3) := by decide +kernel
theorem d_Law_law_1104 : decode b_Law_law 1104 = .ok (.lconst 0, 1) := by decide +kernel
theorem d_Law_law_1105 : decode b_Law_law 1105 = .ok (.lcmp, 1) := by decide +kernel
theorem d_Law_law_1106 : decode b_Law_law 1106 = .ok (.ifCond .eq 5, 3) := by decide +kernel
theorem d_Law_law_1109 : decode b_Law_law 1109 = .ok (.iconst 0, 1) := by decide +kernel
theorem d_Law_law_1110 : decode b_Law_law 1110 = .ok (.ireturn, 1) := by decide +kernel
theorem d_Law_law_1111 : decode b_Law_law 1111 = .ok (.goto 17, 3) := by decide +kernel
theorem d_Law_law_1114 : decode b_Law_law 1114 = .ok (.aload_n 1, 1) := by decide +kernel
theorem d_Law_law_1115 : decode b_Law_law 1115 = .ok (.invokevirtual 131, 3) := by decide +kernel
theorem d_Law_law_1118 : decode b_Law_law 1118 = .ok (.aload_n 2, 1) := by decide +kernel
theorem d_Law_law_1119 : decode b_Law_law 1119 = .ok (.invokevirtual 135, 3) := by decide +kernel
theorem d_Law_law_1122 : decode b_Law_law 1122 = .ok (.lcmp, 1) := by decide +kernel
theorem d_Law_law_1123 : decode b_Law_law 1123 = .ok (.ifCond .eq 5, 3) := by decide +kernel
theorem d_Law_law_1126 : decode b_Law_law 1126 = .ok (.iconst 0, 1) := by decide +kernel
theorem d_Law_law_1127 : decode b_Law_law 1127 = .ok (.ireturn, 1) := by decide +kernel
theorem d_Law_law_1128 : decode b_Law_law 1128 = .ok (.iinc 4 6, 3) := by decide +kernel
theorem d_Law_law_1131 : decode b_Law_law 1131 = .ok (.goto (-1108), 3) := by decide +kernel
theorem d_Law_law_1134 : decode b_Law_law 1134 = .ok (.iconst 1, 1) := by decide +kernel
theorem d_Law_law_1135 : decode b_Law_law 1135 = .ok (.ireturn, 1) := by decide +kernel
theorem g_Law_68 : GoodIn wsAll (wsV R_Law 68 R_PF y_PF_unit ws_PF_unit) := gd_V ml_Law_68 im_PF_unit se_PF_unit ini_PF cd_PF_unit
theorem g_Law_72 : GoodIn wsAll (wsV R_Law 72 R_Mod y_Mod_unit ws_Mod_unit) := gd_V ml_Law_72 im_Mod_unit se_Mod_unit ini_Mod cd_Mod_unit
theorem g_Law_73 : GoodIn wsAll (wsV R_Law 73 R_PF y_PF_read ws_PF_read) := gd_V ml_Law_73 im_PF_read se_PF_read ini_PF cd_PF_read
theorem g_Law_76 : GoodIn wsAll (wsV R_Law 76 R_Mod y_Mod_read ws_Mod_read) := gd_V ml_Law_76 im_Mod_read se_Mod_read ini_Mod cd_Mod_read
theorem g_Law_82 : GoodIn wsAll (wsV R_Law 82 R_Mod y_Mod_write ws_Mod_write) := gd_V ml_Law_82 im_Mod_write se_Mod_write ini_Mod cd_Mod_write
theorem g_Law_83 : GoodIn wsAll (wsV R_Law 83 R_Mod y_Mod_thrown ws_Mod_thrown) := gd_V ml_Law_83 im_Mod_thrown se_Mod_thrown ini_Mod cd_Mod_thrown
theorem g_Law_91 : GoodIn wsAll (wsV R_Law 91 R_Mod y_Mod_set ws_Mod_set) := gd_V ml_Law_91 im_Mod_set se_Mod_set ini_Mod cd_Mod_set
theorem g_Law_95 : GoodIn wsAll (wsV R_Law 95 R_Mod y_Mod_run ws_Mod_run) := gd_V ml_Law_95 im_Mod_run se_Mod_run ini_Mod cd_Mod_run
theorem g_Law_99 : GoodIn wsAll (wsV R_Law 99 R_Mod y_Mod_state ws_Mod_state) := gd_V ml_Law_99 im_Mod_state se_Mod_state ini_Mod cd_Mod_state
theorem g_Law_103 : GoodIn wsAll (wsV R_Law 103 R_Mod y_Mod_size ws_Mod_size) := gd_V ml_Law_103 im_Mod_size se_Mod_size ini_Mod cd_Mod_size
theorem g_Law_106 : GoodIn wsAll (wsV R_Law 106 R_Mod y_Mod_ring ws_Mod_ring) := gd_V ml_Law_106 im_Mod_ring se_Mod_ring ini_Mod cd_Mod_ring
theorem g_Law_109 : GoodIn wsAll (wsV R_Law 109 R_Mod y_Mod_condition ws_Mod_condition) := gd_V ml_Law_109 im_Mod_condition se_Mod_condition ini_Mod cd_Mod_condition
theorem g_Law_112 : GoodIn wsAll (wsV R_Law 112 R_Mod y_Mod_line ws_Mod_line) := gd_V ml_Law_112 im_Mod_line se_Mod_line ini_Mod cd_Mod_line
theorem g_Law_115 : GoodIn wsAll (wsV R_Law 115 R_Mod y_Mod_needs ws_Mod_needs) := gd_V ml_Law_115 im_Mod_needs se_Mod_needs ini_Mod cd_Mod_needs
theorem g_Law_118 : GoodIn wsAll (wsV R_Law 118 R_Mod y_Mod_limit ws_Mod_limit) := gd_V ml_Law_118 im_Mod_limit se_Mod_limit ini_Mod cd_Mod_limit
theorem g_Law_121 : GoodIn wsAll (wsV R_Law 121 R_Mod y_Mod_check ws_Mod_check) := gd_V ml_Law_121 im_Mod_check se_Mod_check ini_Mod cd_Mod_check
theorem g_Law_124 : GoodIn wsAll (wsV R_Law 124 R_Mod y_Mod_version ws_Mod_version) := gd_V ml_Law_124 im_Mod_version se_Mod_version ini_Mod cd_Mod_version
theorem g_Law_127 : GoodIn wsAll (wsV R_Law 127 R_Mod y_Mod_differs ws_Mod_differs) := gd_V ml_Law_127 im_Mod_differs se_Mod_differs ini_Mod cd_Mod_differs
theorem g_Law_130 : GoodIn wsAll (wsV R_Law 130 R_Mod y_Mod_same ws_Mod_same) := gd_V ml_Law_130 im_Mod_same se_Mod_same ini_Mod cd_Mod_same
theorem g_Law_131 : GoodIn wsAll (wsV R_Law 131 R_PF y_PF_reckoned ws_PF_reckoned) := gd_V ml_Law_131 im_PF_reckoned se_PF_reckoned ini_PF cd_PF_reckoned
theorem g_Law_135 : GoodIn wsAll (wsV R_Law 135 R_Mod y_Mod_reckoned ws_Mod_reckoned) := gd_V ml_Law_135 im_Mod_reckoned se_Mod_reckoned ini_Mod cd_Mod_reckoned
def F_Law_law_124 (L : Nat) (xs : Nat → Int32) (k23 : Int32 → Ob → Ob → Ob → Ob → Ob → Ob → Ob → Ob → Ob → Ob → Ob → Ob → Ob → Ob → Ob → Option Unit) (x4 : Int32) (o0 o1 o2 o3 o4 o5 o6 o7 o8 o9 o10 o11 o12 o13 o14 : Ob) : Option Unit :=
  chk (inb (x4 + (1 : Int32)) L) (bind2 (F_PF_unit (xs (Int32.toNatClampNeg (x4 + (1 : Int32)))) o0 o1) (fun v22 o_23 => bind2 (F_Mod_unit (xs (Int32.toNatClampNeg (x4 + (1 : Int32)))) o13) (fun v26 o_27 => if (b2i v22) = (b2i v26) then (k23 (x4 + (6 : Int32)) o0 o_23 o2 o3 o4 o5 o6 o7 o8 o9 o10 o11 o12 o_27 o14) else (none))))
set_option maxHeartbeats 8000000 in
set_option maxRecDepth 100000 in
theorem k_Law_law_124 {p : Program} {l : Launch} {e : Env} {s : State} {m : MethodId} {below : List Frame} {meth : Method} {c : Code} {b L : Nat} {xs : Nat → Int32} {A : Nat → Prop} {ct dC : Nat → ClassId} {dI : Nat → Nat → Nat} (C0 : lcx p s m meth c b L xs A ct dC dI) (hl0 : l.stackTraces = false) {it : Nat} (hit : it + 1 ≤ 600) {k23 : Int32 → Ob → Ob → Ob → Ob → Ob → Ob → Ob → Ob → Ob → Ob → Ob → Ob → Ob → Ob → Ob → Option Unit} (hk23 : ∀ (a0 a1 a2 a3 a4 a5 a6 a7 a8 a9 a10 a11 a12 a13 a14 : Nat → Nat) (v0 : Nat → Nat) (x4 : Int32) (o0 o1 o2 o3 o4 o5 o6 o7 o8 o9 o10 o11 o12 o13 o14 : Ob) (H : Heap) (locs : List Loc) (ls : Array Slot), bw_N A [adPF a0, adReader a1, adText a2, adSteps a3, adText a4, adSteps a5, adReckoner a6, adCells a7, adCells a8, adCells a9, adCells a10, adCells a11, adCells a12, adMod a13, adOut a14] → (v0 0 = a9 0 ∧ v0 1 = a10 0 ∧ v0 2 = a11 0 ∧ v0 3 = a12 0) → bw_P (dC, dI) vwCl [wPF ct a0 (a1 0) (a4 0) (a6 0) (a7 0) (a8 0) v0 o0, wReader ct a1 (a2 0) o1, wText ct a2 (a3 0) o2, wSteps ct a3 o3, wText ct a4 (a5 0) o4, wSteps ct a5 o5, wReckoner ct a6 o6, wCells ct a7 o7, wCells ct a8 o8, wCells ct a9 o9, wCells ct a10 o10, wCells ct a11 o11, wCells ct a12 o12, wMod ct a13 o13, wOut ct a14 o14] H → va_S A s.heap H locs → lv_has ls 8 [(0, .ref b), (1, .ref (a0 0)), (2, .ref (a13 0)), (3, .ref (a14 0)), (4, .int x4)] → k23 x4 o0 o1 o2 o3 o4 o5 o6 o7 o8 o9 o10 o11 o12 o13 o14 = some () → W p l e room_1 s m #[Value.ref b] below meth c H locs (200 + (it + 1)) (40000 + 6 * (it + 1)) (lw_Z below #[Value.ref b] s) (F0 m 23 ls [])) : ∀ (a0 a1 a2 a3 a4 a5 a6 a7 a8 a9 a10 a11 a12 a13 a14 : Nat → Nat) (v0 : Nat → Nat) (x4 : Int32) (o0 o1 o2 o3 o4 o5 o6 o7 o8 o9 o10 o11 o12 o13 o14 : Ob) (H : Heap) (locs : List Loc) (ls : Array Slot), bw_N A [adPF a0, adReader a1, adText a2, adSteps a3, adText a4, adSteps a5, adReckoner a6, adCells a7, adCells a8, adCells a9, adCells a10, adCells a11, adCells a12, adMod a13, adOut a14] → (v0 0 = a9 0 ∧ v0 1 = a10 0 ∧ v0 2 = a11 0 ∧ v0 3 = a12 0) → bw_P (dC, dI) vwCl [wPF ct a0 (a1 0) (a4 0) (a6 0) (a7 0) (a8 0) v0 o0, wReader ct a1 (a2 0) o1, wText ct a2 (a3 0) o2, wSteps ct a3 o3, wText ct a4 (a5 0) o4, wSteps ct a5 o5, wReckoner ct a6 o6, wCells ct a7 o7, wCells ct a8 o8, wCells ct a9 o9, wCells ct a10 o10, wCells ct a11 o11, wCells ct a12 o12, wMod ct a13 o13, wOut ct a14 o14] H → va_S A s.heap H locs → lv_has ls 8 [(0, .ref b), (1, .ref (a0 0)), (2, .ref (a13 0)), (3, .ref (a14 0)), (4, .int x4)] → F_Law_law_124 L xs k23 x4 o0 o1 o2 o3 o4 o5 o6 o7 o8 o9 o10 o11 o12 o13 o14 = some () → W p l e room_1 s m #[Value.ref b] below meth c H locs (200 + it) (40000 + 6 * it) (lw_Z below #[Value.ref b] s) (F0 m 124 ls []) := by
  obtain ⟨hx, hb, hr, hml, hown, hlocks, hts, hK, hA, hAs, hX, hbl, hnx, hthy, hex9, hsx⟩ := id C0
  have hbA : ¬ A b := fun z => absurd (hAs b z) (Nat.not_le.mpr hbl)
  intro a0 a1 a2 a3 a4 a5 a6 a7 a8 a9 a10 a11 a12 a13 a14 v0 x4 o0 o1 o2 o3 o4 o5 o6 o7 o8 o9 o10 o11 o12 o13 o14 H locs ls hN hver hP hS hl h
  rw [F_Law_law_124] at h
  refine lv_aload_n hx hb d_Law_law_124 rfl (lv_at hl 1 rfl) ?_
  refine lv_aload_n hx hb d_Law_law_125 rfl (lv_at hl 0 rfl) ?_
  refine lv_iload hx hb d_Law_law_126 (lv_at hl 4 rfl) ?_
  refine lv_iconst (v := 1) hx hb d_Law_law_128 (by decide) ?_
  refine lv_iadd hx hb d_Law_law_129 ?_
  obtain ⟨hi20, h⟩ := chk_some h
  refine va_sld hx hb hX hbl hbA hS (inb_in hi20) d_Law_law_130 ?_
  obtain ⟨v22, o_23, hG21, h⟩ := bind2_some h
  refine bw_call (Lc := [wPF ct a0 (a1 0) (a4 0) (a6 0) (a7 0) (a8 0) v0 o0, wReader ct a1 (a2 0) o1]) (Lc' := [wPF ct a0 (a1 0) (a4 0) (a6 0) (a7 0) (a8 0) v0 o0, wReader ct a1 (a2 0) o_23]) (L' := [wPF ct a0 (a1 0) (a4 0) (a6 0) (a7 0) (a8 0) v0 o0, wReader ct a1 (a2 0) o_23, wText ct a2 (a3 0) o2, wSteps ct a3 o3, wText ct a4 (a5 0) o4, wSteps ct a5 o5, wReckoner ct a6 o6, wCells ct a7 o7, wCells ct a8 o8, wCells ct a9 o9, wCells ct a10 o10, wCells ct a11 o11, wCells ct a12 o12, wMod ct a13 o13, wOut ct a14 o14]) [0, 1] (va_runV (As := [.int (xs (Int32.toNatClampNeg (x4 + (1 : Int32))))]) (rest := []) ⟨hx, hb, hml, hown, hts⟩ (c_PF_unit l ct dC dI a0 a1 (a4 0) (a6 0) (a7 0) (a8 0) v0 (a2 0) _ (xs (Int32.toNatClampNeg (x4 + (1 : Int32)))) o0 o1 v22 o_23 hG21) (cwV 1 hts g_Law_68 rfl rfl rfl (by decide +kernel) ⟨Nat.le_of_ble_eq_true rfl, Nat.le_of_ble_eq_true rfl⟩) ⟨bw_blind nx_call, va_recv hK (hP 0 _ rfl) (ci := 5) (q0 := 0) rfl rfl, fun U hU hW => ⟨rfl, by rw [hU], by rw [hU]; exact hP.sub [0, 1] rfl, va_K.moved hW.alike hK, (hN.sub [0, 1] (by decide) rfl).weaken (fun _ _ => trivial), nx_warm hW hnx⟩⟩ rfl rfl hl.1 rfl (Nat.le_of_ble_eq_true rfl) d_Law_law_131 ⟨by rw [room_c]; omega, by rw [room_s]; omega⟩) hP hN hS hA rfl rfl rfl (fun H locs hP hS => ?_)
  refine lv_aload_n hx hb d_Law_law_134 rfl (lv_at hl 2 rfl) ?_
  refine lv_aload_n hx hb d_Law_law_135 rfl (lv_at hl 0 rfl) ?_
  refine lv_iload hx hb d_Law_law_136 (lv_at hl 4 rfl) ?_
  refine lv_iconst (v := 1) hx hb d_Law_law_138 (by decide) ?_
  refine lv_iadd hx hb d_Law_law_139 ?_
  refine va_sld hx hb hX hbl hbA hS (inb_in hi20) d_Law_law_140 ?_
  obtain ⟨v26, o_27, hG25, h⟩ := bind2_some h
  refine bw_call (Lc := [wMod ct a13 o13]) (Lc' := [wMod ct a13 o_27]) (L' := [wPF ct a0 (a1 0) (a4 0) (a6 0) (a7 0) (a8 0) v0 o0, wReader ct a1 (a2 0) o_23, wText ct a2 (a3 0) o2, wSteps ct a3 o3, wText ct a4 (a5 0) o4, wSteps ct a5 o5, wReckoner ct a6 o6, wCells ct a7 o7, wCells ct a8 o8, wCells ct a9 o9, wCells ct a10 o10, wCells ct a11 o11, wCells ct a12 o12, wMod ct a13 o_27, wOut ct a14 o14]) [13] (va_runV (As := [.int (xs (Int32.toNatClampNeg (x4 + (1 : Int32))))]) (rest := [.int (b2i v22)]) ⟨hx, hb, hml, hown, hts⟩ (c_Mod_unit l ct dC dI a13 _ (xs (Int32.toNatClampNeg (x4 + (1 : Int32)))) o13 v26 o_27 hG25) (cwV 1 hts g_Law_72 rfl rfl rfl (by decide +kernel) ⟨Nat.le_of_ble_eq_true rfl, Nat.le_of_ble_eq_true rfl⟩) ⟨bw_blind nx_call, va_recv hK (hP 13 _ rfl) (ci := 6) (q0 := 0) rfl rfl, fun U hU hW => ⟨rfl, by rw [hU], by rw [hU]; exact hP.sub [13] rfl, va_K.moved hW.alike hK, (hN.sub [13] (by decide) rfl).weaken (fun _ _ => trivial), nx_warm hW hnx⟩⟩ rfl rfl hl.1 rfl (Nat.le_of_ble_eq_true rfl) d_Law_law_141 ⟨by rw [room_c]; omega, by rw [room_s]; omega⟩) hP hN hS hA rfl rfl rfl (fun H locs hP hS => ?_)
  refine lv_icmp_eq (tgt := 1128) hx hb d_Law_law_144 (by decide) (fun c28 => ?_) (fun c28 => ?_)
  · have h := ite_t c28 h
    refine lv_iinc (v := (x4 + (6 : Int32))) (lv' := [(4, .int (x4 + (6 : Int32))), (0, .ref b), (1, .ref (a0 0)), (2, .ref (a13 0)), (3, .ref (a14 0))]) hx hb d_Law_law_1128 hl (k := 4) rfl rfl (by decide) rfl (fun ls hl => ?_)
    refine lv_goto (tgt := 23) hx hb d_Law_law_1131 (by decide) ?_
    refine W.widen (k := 200 + (it + 1)) (n := 40000 + 6 * (it + 1)) (by omega) (by omega) ?_
    exact hk23 a0 a1 a2 a3 a4 a5 a6 a7 a8 a9 a10 a11 a12 a13 a14 v0 (x4 + (6 : Int32)) o0 o_23 o2 o3 o4 o5 o6 o7 o8 o9 o10 o11 o12 o_27 o14 _ _ _ hN hver hP hS (lv_sub hl [1, 2, 3, 4, 0] rfl) h
  · have h := ite_f c28 h
    refine lv_iconst (v := 0) hx hb d_Law_law_147 (by decide) ?_
    cases h
def F_Law_law_149 (L : Nat) (xs : Nat → Int32) (k23 : Int32 → Ob → Ob → Ob → Ob → Ob → Ob → Ob → Ob → Ob → Ob → Ob → Ob → Ob → Ob → Ob → Option Unit) (x4 : Int32) (o0 o1 o2 o3 o4 o5 o6 o7 o8 o9 o10 o11 o12 o13 o14 : Ob) : Option Unit :=
  bind5 (F_PF_read o0 o1 o2 o3) (fun v29 o_30 o_31 o_32 o_33 => if v29 < 0 then (bind2 (F_Mod_read o13) (fun v37 o_38 => if v29 = v37 then (k23 (x4 + (6 : Int32)) o_30 o_31 o_32 o_33 o4 o5 o6 o7 o8 o9 o10 o11 o12 o_38 o14) else (none))) else (bind2 (F_Mod_read o13) (fun v41 o_42 => if v29 = v41 then (k23 (x4 + (6 : Int32)) o_30 o_31 o4 o5 o_32 o_33 o6 o7 o8 o9 o10 o11 o12 o_42 o14) else (none))))
set_option maxHeartbeats 8000000 in
set_option maxRecDepth 100000 in
theorem k_Law_law_149 {p : Program} {l : Launch} {e : Env} {s : State} {m : MethodId} {below : List Frame} {meth : Method} {c : Code} {b L : Nat} {xs : Nat → Int32} {A : Nat → Prop} {ct dC : Nat → ClassId} {dI : Nat → Nat → Nat} (C0 : lcx p s m meth c b L xs A ct dC dI) (hl0 : l.stackTraces = false) {it : Nat} (hit : it + 1 ≤ 600) {k23 : Int32 → Ob → Ob → Ob → Ob → Ob → Ob → Ob → Ob → Ob → Ob → Ob → Ob → Ob → Ob → Ob → Option Unit} (hk23 : ∀ (a0 a1 a2 a3 a4 a5 a6 a7 a8 a9 a10 a11 a12 a13 a14 : Nat → Nat) (v0 : Nat → Nat) (x4 : Int32) (o0 o1 o2 o3 o4 o5 o6 o7 o8 o9 o10 o11 o12 o13 o14 : Ob) (H : Heap) (locs : List Loc) (ls : Array Slot), bw_N A [adPF a0, adReader a1, adText a2, adSteps a3, adText a4, adSteps a5, adReckoner a6, adCells a7, adCells a8, adCells a9, adCells a10, adCells a11, adCells a12, adMod a13, adOut a14] → (v0 0 = a9 0 ∧ v0 1 = a10 0 ∧ v0 2 = a11 0 ∧ v0 3 = a12 0) → bw_P (dC, dI) vwCl [wPF ct a0 (a1 0) (a4 0) (a6 0) (a7 0) (a8 0) v0 o0, wReader ct a1 (a2 0) o1, wText ct a2 (a3 0) o2, wSteps ct a3 o3, wText ct a4 (a5 0) o4, wSteps ct a5 o5, wReckoner ct a6 o6, wCells ct a7 o7, wCells ct a8 o8, wCells ct a9 o9, wCells ct a10 o10, wCells ct a11 o11, wCells ct a12 o12, wMod ct a13 o13, wOut ct a14 o14] H → va_S A s.heap H locs → lv_has ls 8 [(0, .ref b), (1, .ref (a0 0)), (2, .ref (a13 0)), (3, .ref (a14 0)), (4, .int x4)] → k23 x4 o0 o1 o2 o3 o4 o5 o6 o7 o8 o9 o10 o11 o12 o13 o14 = some () → W p l e room_1 s m #[Value.ref b] below meth c H locs (200 + (it + 1)) (40000 + 6 * (it + 1)) (lw_Z below #[Value.ref b] s) (F0 m 23 ls [])) : ∀ (a0 a1 a2 a3 a4 a5 a6 a7 a8 a9 a10 a11 a12 a13 a14 : Nat → Nat) (v0 : Nat → Nat) (x4 : Int32) (o0 o1 o2 o3 o4 o5 o6 o7 o8 o9 o10 o11 o12 o13 o14 : Ob) (H : Heap) (locs : List Loc) (ls : Array Slot), bw_N A [adPF a0, adReader a1, adText a2, adSteps a3, adText a4, adSteps a5, adReckoner a6, adCells a7, adCells a8, adCells a9, adCells a10, adCells a11, adCells a12, adMod a13, adOut a14] → (v0 0 = a9 0 ∧ v0 1 = a10 0 ∧ v0 2 = a11 0 ∧ v0 3 = a12 0) → bw_P (dC, dI) vwCl [wPF ct a0 (a1 0) (a4 0) (a6 0) (a7 0) (a8 0) v0 o0, wReader ct a1 (a2 0) o1, wText ct a2 (a3 0) o2, wSteps ct a3 o3, wText ct a4 (a5 0) o4, wSteps ct a5 o5, wReckoner ct a6 o6, wCells ct a7 o7, wCells ct a8 o8, wCells ct a9 o9, wCells ct a10 o10, wCells ct a11 o11, wCells ct a12 o12, wMod ct a13 o13, wOut ct a14 o14] H → va_S A s.heap H locs → lv_has ls 8 [(0, .ref b), (1, .ref (a0 0)), (2, .ref (a13 0)), (3, .ref (a14 0)), (4, .int x4)] → F_Law_law_149 L xs k23 x4 o0 o1 o2 o3 o4 o5 o6 o7 o8 o9 o10 o11 o12 o13 o14 = some () → W p l e room_1 s m #[Value.ref b] below meth c H locs (200 + it) (40000 + 6 * it) (lw_Z below #[Value.ref b] s) (F0 m 149 ls []) := by
  obtain ⟨hx, hb, hr, hml, hown, hlocks, hts, hK, hA, hAs, hX, hbl, hnx, hthy, hex9, hsx⟩ := id C0
  have hbA : ¬ A b := fun z => absurd (hAs b z) (Nat.not_le.mpr hbl)
  intro a0 a1 a2 a3 a4 a5 a6 a7 a8 a9 a10 a11 a12 a13 a14 v0 x4 o0 o1 o2 o3 o4 o5 o6 o7 o8 o9 o10 o11 o12 o13 o14 H locs ls hN hver hP hS hl h
  rw [F_Law_law_149] at h
  refine lv_aload_n hx hb d_Law_law_149 rfl (lv_at hl 1 rfl) ?_
  obtain ⟨v29, o_30, o_31, o_32, o_33, hG34, h⟩ := bind5_some h
  by_cases c35 : v29 < 0
  · have h := ite_t c35 h
    refine bw_call (Lc := [wPF ct a0 (a1 0) (a4 0) (a6 0) (a7 0) (a8 0) v0 o0, wReader ct a1 (a2 0) o1, wText ct a2 (a3 0) o2, wSteps ct a3 o3]) (Lc' := [wPF ct a0 (a1 0) (a4 0) (a6 0) (a7 0) (a8 0) v0 o_30, wReader ct a1 (a2 0) o_31, wText ct a2 (a3 0) o_32, wSteps ct a3 o_33]) (L' := [wPF ct a0 (a1 0) (a4 0) (a6 0) (a7 0) (a8 0) v0 o_30, wReader ct a1 (a2 0) o_31, wText ct a2 (a3 0) o_32, wSteps ct a3 o_33, wText ct a4 (a5 0) o4, wSteps ct a5 o5, wReckoner ct a6 o6, wCells ct a7 o7, wCells ct a8 o8, wCells ct a9 o9, wCells ct a10 o10, wCells ct a11 o11, wCells ct a12 o12, wMod ct a13 o13, wOut ct a14 o14]) [0, 1, 2, 3] (va_runV (As := []) (rest := []) ⟨hx, hb, hml, hown, hts⟩ (c_PF_read_no l ct dC dI a0 a1 a2 a3 (a4 0) (a6 0) (a7 0) (a8 0) v0 _ o0 o1 o2 o3 v29 o_30 o_31 o_32 o_33 hG34 c35) (cwV 0 hts g_Law_73 rfl rfl rfl (by decide +kernel) ⟨Nat.le_of_ble_eq_true rfl, Nat.le_of_ble_eq_true rfl⟩) ⟨bw_blind nxs_call, va_recv hK (hP 0 _ rfl) (ci := 5) (q0 := 0) rfl rfl, fun U hU hW => ⟨rfl, by rw [hU], by rw [hU]; exact hP.sub [0, 1, 2, 3] rfl, va_K.moved hW.alike hK, (hN.sub [0, 1, 2, 3] (by decide) rfl).weaken (fun _ _ => trivial), ⟨nx_warm hW hnx, sx_call hsx hS hN hA [0, 1, 2, 3] rfl hU hW⟩⟩⟩ rfl rfl hl.1 rfl (Nat.le_of_ble_eq_true rfl) d_Law_law_150 ⟨by rw [room_c]; omega, by rw [room_s]; omega⟩) hP hN hS hA rfl rfl rfl (fun H locs hP hS => ?_)
    refine lv_aload_n hx hb d_Law_law_153 rfl (lv_at hl 2 rfl) ?_
    obtain ⟨v37, o_38, hG36, h⟩ := bind2_some h
    refine bw_call (Lc := [wMod ct a13 o13]) (Lc' := [wMod ct a13 o_38]) (L' := [wPF ct a0 (a1 0) (a4 0) (a6 0) (a7 0) (a8 0) v0 o_30, wReader ct a1 (a2 0) o_31, wText ct a2 (a3 0) o_32, wSteps ct a3 o_33, wText ct a4 (a5 0) o4, wSteps ct a5 o5, wReckoner ct a6 o6, wCells ct a7 o7, wCells ct a8 o8, wCells ct a9 o9, wCells ct a10 o10, wCells ct a11 o11, wCells ct a12 o12, wMod ct a13 o_38, wOut ct a14 o14]) [13] (va_runV (As := []) (rest := [.int v29]) ⟨hx, hb, hml, hown, hts⟩ (c_Mod_read l ct dC dI a13 _ o13 v37 o_38 hG36) (cwV 0 hts g_Law_76 rfl rfl rfl (by decide +kernel) ⟨Nat.le_of_ble_eq_true rfl, Nat.le_of_ble_eq_true rfl⟩) ⟨bw_blind nx_call, va_recv hK (hP 13 _ rfl) (ci := 6) (q0 := 0) rfl rfl, fun U hU hW => ⟨rfl, by rw [hU], by rw [hU]; exact hP.sub [13] rfl, va_K.moved hW.alike hK, (hN.sub [13] (by decide) rfl).weaken (fun _ _ => trivial), nx_warm hW hnx⟩⟩ rfl rfl hl.1 rfl (Nat.le_of_ble_eq_true rfl) d_Law_law_154 ⟨by rw [room_c]; omega, by rw [room_s]; omega⟩) hP hN hS hA rfl rfl rfl (fun H locs hP hS => ?_)
    refine lv_icmp_eq (tgt := 1128) hx hb d_Law_law_157 (by decide) (fun c39 => ?_) (fun c39 => ?_)
    · have h := ite_t c39 h
      refine lv_iinc (v := (x4 + (6 : Int32))) (lv' := [(4, .int (x4 + (6 : Int32))), (0, .ref b), (1, .ref (a0 0)), (2, .ref (a13 0)), (3, .ref (a14 0))]) hx hb d_Law_law_1128 hl (k := 4) rfl rfl (by decide) rfl (fun ls hl => ?_)
      refine lv_goto (tgt := 23) hx hb d_Law_law_1131 (by decide) ?_
      refine W.widen (k := 200 + (it + 1)) (n := 40000 + 6 * (it + 1)) (by omega) (by omega) ?_
      exact hk23 a0 a1 a2 a3 a4 a5 a6 a7 a8 a9 a10 a11 a12 a13 a14 v0 (x4 + (6 : Int32)) o_30 o_31 o_32 o_33 o4 o5 o6 o7 o8 o9 o10 o11 o12 o_38 o14 _ _ _ hN hver hP hS (lv_sub hl [1, 2, 3, 4, 0] rfl) h
    · have h := ite_f c39 h
      refine lv_iconst (v := 0) hx hb d_Law_law_160 (by decide) ?_
      cases h
  · have h := ite_f c35 h
    refine bw_call (Lc := [wPF ct a0 (a1 0) (a4 0) (a6 0) (a7 0) (a8 0) v0 o0, wReader ct a1 (a2 0) o1, wText ct a2 (a3 0) o2, wSteps ct a3 o3]) (Lc' := [wPF ct a0 (a1 0) (a2 0) (a6 0) (a7 0) (a8 0) v0 o_30, wReader ct a1 (a4 0) o_31, wText ct a2 (a3 0) o_32, wSteps ct a3 o_33]) (L' := [wPF ct a0 (a1 0) (a2 0) (a6 0) (a7 0) (a8 0) v0 o_30, wReader ct a1 (a4 0) o_31, wText ct a2 (a3 0) o_32, wSteps ct a3 o_33, wText ct a4 (a5 0) o4, wSteps ct a5 o5, wReckoner ct a6 o6, wCells ct a7 o7, wCells ct a8 o8, wCells ct a9 o9, wCells ct a10 o10, wCells ct a11 o11, wCells ct a12 o12, wMod ct a13 o13, wOut ct a14 o14]) [0, 1, 2, 3] (va_runV (As := []) (rest := []) ⟨hx, hb, hml, hown, hts⟩ (c_PF_read_yes l ct dC dI a0 a1 a2 a3 (a4 0) (a6 0) (a7 0) (a8 0) v0 _ o0 o1 o2 o3 v29 o_30 o_31 o_32 o_33 hG34 c35) (cwV 0 hts g_Law_73 rfl rfl rfl (by decide +kernel) ⟨Nat.le_of_ble_eq_true rfl, Nat.le_of_ble_eq_true rfl⟩) ⟨bw_blind nxs_call, va_recv hK (hP 0 _ rfl) (ci := 5) (q0 := 0) rfl rfl, fun U hU hW => ⟨rfl, by rw [hU], by rw [hU]; exact hP.sub [0, 1, 2, 3] rfl, va_K.moved hW.alike hK, (hN.sub [0, 1, 2, 3] (by decide) rfl).weaken (fun _ _ => trivial), ⟨nx_warm hW hnx, sx_call hsx hS hN hA [0, 1, 2, 3] rfl hU hW⟩⟩⟩ rfl rfl hl.1 rfl (Nat.le_of_ble_eq_true rfl) d_Law_law_150 ⟨by rw [room_c]; omega, by rw [room_s]; omega⟩) hP hN hS hA rfl rfl rfl (fun H locs hP hS => ?_)
    have hN : bw_N A [adPF a0, adReader a1, adText a4, adSteps a5, adText a2, adSteps a3, adReckoner a6, adCells a7, adCells a8, adCells a9, adCells a10, adCells a11, adCells a12, adMod a13, adOut a14] := hN.sub [0, 1, 4, 5, 2, 3, 6, 7, 8, 9, 10, 11, 12, 13, 14] (by decide) rfl
    have hP : bw_P (dC, dI) vwCl [wPF ct a0 (a1 0) (a2 0) (a6 0) (a7 0) (a8 0) v0 o_30, wReader ct a1 (a4 0) o_31, wText ct a4 (a5 0) o4, wSteps ct a5 o5, wText ct a2 (a3 0) o_32, wSteps ct a3 o_33, wReckoner ct a6 o6, wCells ct a7 o7, wCells ct a8 o8, wCells ct a9 o9, wCells ct a10 o10, wCells ct a11 o11, wCells ct a12 o12, wMod ct a13 o13, wOut ct a14 o14] H := hP.sub [0, 1, 4, 5, 2, 3, 6, 7, 8, 9, 10, 11, 12, 13, 14] rfl
    refine lv_aload_n hx hb d_Law_law_153 rfl (lv_at hl 2 rfl) ?_
    obtain ⟨v41, o_42, hG40, h⟩ := bind2_some h
    refine bw_call (Lc := [wMod ct a13 o13]) (Lc' := [wMod ct a13 o_42]) (L' := [wPF ct a0 (a1 0) (a2 0) (a6 0) (a7 0) (a8 0) v0 o_30, wReader ct a1 (a4 0) o_31, wText ct a4 (a5 0) o4, wSteps ct a5 o5, wText ct a2 (a3 0) o_32, wSteps ct a3 o_33, wReckoner ct a6 o6, wCells ct a7 o7, wCells ct a8 o8, wCells ct a9 o9, wCells ct a10 o10, wCells ct a11 o11, wCells ct a12 o12, wMod ct a13 o_42, wOut ct a14 o14]) [13] (va_runV (As := []) (rest := [.int v29]) ⟨hx, hb, hml, hown, hts⟩ (c_Mod_read l ct dC dI a13 _ o13 v41 o_42 hG40) (cwV 0 hts g_Law_76 rfl rfl rfl (by decide +kernel) ⟨Nat.le_of_ble_eq_true rfl, Nat.le_of_ble_eq_true rfl⟩) ⟨bw_blind nx_call, va_recv hK (hP 13 _ rfl) (ci := 6) (q0 := 0) rfl rfl, fun U hU hW => ⟨rfl, by rw [hU], by rw [hU]; exact hP.sub [13] rfl, va_K.moved hW.alike hK, (hN.sub [13] (by decide) rfl).weaken (fun _ _ => trivial), nx_warm hW hnx⟩⟩ rfl rfl hl.1 rfl (Nat.le_of_ble_eq_true rfl) d_Law_law_154 ⟨by rw [room_c]; omega, by rw [room_s]; omega⟩) hP hN hS hA rfl rfl rfl (fun H locs hP hS => ?_)
    refine lv_icmp_eq (tgt := 1128) hx hb d_Law_law_157 (by decide) (fun c43 => ?_) (fun c43 => ?_)
    · have h := ite_t c43 h
      refine lv_iinc (v := (x4 + (6 : Int32))) (lv' := [(4, .int (x4 + (6 : Int32))), (0, .ref b), (1, .ref (a0 0)), (2, .ref (a13 0)), (3, .ref (a14 0))]) hx hb d_Law_law_1128 hl (k := 4) rfl rfl (by decide) rfl (fun ls hl => ?_)
      refine lv_goto (tgt := 23) hx hb d_Law_law_1131 (by decide) ?_
      refine W.widen (k := 200 + (it + 1)) (n := 40000 + 6 * (it + 1)) (by omega) (by omega) ?_
      exact hk23 a0 a1 a4 a5 a2 a3 a6 a7 a8 a9 a10 a11 a12 a13 a14 v0 (x4 + (6 : Int32)) o_30 o_31 o4 o5 o_32 o_33 o6 o7 o8 o9 o10 o11 o12 o_42 o14 _ _ _ hN hver hP hS (lv_sub hl [1, 2, 3, 4, 0] rfl) h
    · have h := ite_f c43 h
      refine lv_iconst (v := 0) hx hb d_Law_law_160 (by decide) ?_
      cases h
def F_Law_law_162 (L : Nat) (xs : Nat → Int32) (k23 : Int32 → Ob → Ob → Ob → Ob → Ob → Ob → Ob → Ob → Ob → Ob → Ob → Ob → Ob → Ob → Ob → Option Unit) (x4 : Int32) (o0 o1 o2 o3 o4 o5 o6 o7 o8 o9 o10 o11 o12 o13 o14 : Ob) : Option Unit :=
  chk (inb (x4 + (1 : Int32)) L) (bind2 (F_Law_write (xs (Int32.toNatClampNeg (x4 + (1 : Int32)))) o0 o4 o14) (fun v46 o_47 => bind2 (F_Mod_write (xs (Int32.toNatClampNeg (x4 + (1 : Int32)))) o13) (fun v50 o_51 => bind1 (F_Mod_thrown o_51) (fun v53 => if v53 = v46 then (if v46 = 0 then (chk (inb (0 : Int32) 1) (if (lg_cmp (g64 o_47 0 (Int32.toNatClampNeg (0 : Int32))) (Int32.toInt64 v50)) = 0 then (k23 (x4 + (6 : Int32)) o0 o1 o2 o3 o4 o5 o6 o7 o8 o9 o10 o11 o12 o_51 o_47) else (none))) else (k23 (x4 + (6 : Int32)) o0 o1 o2 o3 o4 o5 o6 o7 o8 o9 o10 o11 o12 o_51 o_47)) else (none)))))
set_option maxHeartbeats 8000000 in
set_option maxRecDepth 100000 in
theorem k_Law_law_162 {p : Program} {l : Launch} {e : Env} {s : State} {m : MethodId} {below : List Frame} {meth : Method} {c : Code} {b L : Nat} {xs : Nat → Int32} {A : Nat → Prop} {ct dC : Nat → ClassId} {dI : Nat → Nat → Nat} (C0 : lcx p s m meth c b L xs A ct dC dI) (hl0 : l.stackTraces = false) {it : Nat} (hit : it + 1 ≤ 600) {k23 : Int32 → Ob → Ob → Ob → Ob → Ob → Ob → Ob → Ob → Ob → Ob → Ob → Ob → Ob → Ob → Ob → Option Unit} (hk23 : ∀ (a0 a1 a2 a3 a4 a5 a6 a7 a8 a9 a10 a11 a12 a13 a14 : Nat → Nat) (v0 : Nat → Nat) (x4 : Int32) (o0 o1 o2 o3 o4 o5 o6 o7 o8 o9 o10 o11 o12 o13 o14 : Ob) (H : Heap) (locs : List Loc) (ls : Array Slot), bw_N A [adPF a0, adReader a1, adText a2, adSteps a3, adText a4, adSteps a5, adReckoner a6, adCells a7, adCells a8, adCells a9, adCells a10, adCells a11, adCells a12, adMod a13, adOut a14] → (v0 0 = a9 0 ∧ v0 1 = a10 0 ∧ v0 2 = a11 0 ∧ v0 3 = a12 0) → bw_P (dC, dI) vwCl [wPF ct a0 (a1 0) (a4 0) (a6 0) (a7 0) (a8 0) v0 o0, wReader ct a1 (a2 0) o1, wText ct a2 (a3 0) o2, wSteps ct a3 o3, wText ct a4 (a5 0) o4, wSteps ct a5 o5, wReckoner ct a6 o6, wCells ct a7 o7, wCells ct a8 o8, wCells ct a9 o9, wCells ct a10 o10, wCells ct a11 o11, wCells ct a12 o12, wMod ct a13 o13, wOut ct a14 o14] H → va_S A s.heap H locs → lv_has ls 8 [(0, .ref b), (1, .ref (a0 0)), (2, .ref (a13 0)), (3, .ref (a14 0)), (4, .int x4)] → k23 x4 o0 o1 o2 o3 o4 o5 o6 o7 o8 o9 o10 o11 o12 o13 o14 = some () → W p l e room_1 s m #[Value.ref b] below meth c H locs (200 + (it + 1)) (40000 + 6 * (it + 1)) (lw_Z below #[Value.ref b] s) (F0 m 23 ls [])) : ∀ (a0 a1 a2 a3 a4 a5 a6 a7 a8 a9 a10 a11 a12 a13 a14 : Nat → Nat) (v0 : Nat → Nat) (x4 : Int32) (o0 o1 o2 o3 o4 o5 o6 o7 o8 o9 o10 o11 o12 o13 o14 : Ob) (H : Heap) (locs : List Loc) (ls : Array Slot), bw_N A [adPF a0, adReader a1, adText a2, adSteps a3, adText a4, adSteps a5, adReckoner a6, adCells a7, adCells a8, adCells a9, adCells a10, adCells a11, adCells a12, adMod a13, adOut a14] → (v0 0 = a9 0 ∧ v0 1 = a10 0 ∧ v0 2 = a11 0 ∧ v0 3 = a12 0) → bw_P (dC, dI) vwCl [wPF ct a0 (a1 0) (a4 0) (a6 0) (a7 0) (a8 0) v0 o0, wReader ct a1 (a2 0) o1, wText ct a2 (a3 0) o2, wSteps ct a3 o3, wText ct a4 (a5 0) o4, wSteps ct a5 o5, wReckoner ct a6 o6, wCells ct a7 o7, wCells ct a8 o8, wCells ct a9 o9, wCells ct a10 o10, wCells ct a11 o11, wCells ct a12 o12, wMod ct a13 o13, wOut ct a14 o14] H → va_S A s.heap H locs → lv_has ls 8 [(0, .ref b), (1, .ref (a0 0)), (2, .ref (a13 0)), (3, .ref (a14 0)), (4, .int x4)] → F_Law_law_162 L xs k23 x4 o0 o1 o2 o3 o4 o5 o6 o7 o8 o9 o10 o11 o12 o13 o14 = some () → W p l e room_1 s m #[Value.ref b] below meth c H locs (200 + it) (40000 + 6 * it) (lw_Z below #[Value.ref b] s) (F0 m 162 ls []) := by
  obtain ⟨hx, hb, hr, hml, hown, hlocks, hts, hK, hA, hAs, hX, hbl, hnx, hthy, hex9, hsx⟩ := id C0
  have hbA : ¬ A b := fun z => absurd (hAs b z) (Nat.not_le.mpr hbl)
  intro a0 a1 a2 a3 a4 a5 a6 a7 a8 a9 a10 a11 a12 a13 a14 v0 x4 o0 o1 o2 o3 o4 o5 o6 o7 o8 o9 o10 o11 o12 o13 o14 H locs ls hN hver hP hS hl h
  rw [F_Law_law_162] at h
  refine lv_aload_n hx hb d_Law_law_162 rfl (lv_at hl 1 rfl) ?_
  refine lv_aload_n hx hb d_Law_law_163 rfl (lv_at hl 0 rfl) ?_
  refine lv_iload hx hb d_Law_law_164 (lv_at hl 4 rfl) ?_
  refine lv_iconst (v := 1) hx hb d_Law_law_166 (by decide) ?_
  refine lv_iadd hx hb d_Law_law_167 ?_
  obtain ⟨hi44, h⟩ := chk_some h
  refine va_sld hx hb hX hbl hbA hS (inb_in hi44) d_Law_law_168 ?_
  refine lv_aload_n hx hb d_Law_law_169 rfl (lv_at hl 3 rfl) ?_
  obtain ⟨v46, o_47, hG45, h⟩ := bind2_some h
  refine bw_call (Lc := [wPF ct a0 (a1 0) (a4 0) (a6 0) (a7 0) (a8 0) v0 o0, wText ct a4 (a5 0) o4, wOut ct a14 o14]) (Lc' := [wPF ct a0 (a1 0) (a4 0) (a6 0) (a7 0) (a8 0) v0 o0, wText ct a4 (a5 0) o4, wOut ct a14 o_47]) (L' := [wPF ct a0 (a1 0) (a4 0) (a6 0) (a7 0) (a8 0) v0 o0, wReader ct a1 (a2 0) o1, wText ct a2 (a3 0) o2, wSteps ct a3 o3, wText ct a4 (a5 0) o4, wSteps ct a5 o5, wReckoner ct a6 o6, wCells ct a7 o7, wCells ct a8 o8, wCells ct a9 o9, wCells ct a10 o10, wCells ct a11 o11, wCells ct a12 o12, wMod ct a13 o13, wOut ct a14 o_47]) [0, 4, 14] (bt_runSW (As := [.ref (a0 0), .int (xs (Int32.toNatClampNeg (x4 + (1 : Int32)))), .ref (a14 0)]) (rest := []) ⟨hx, hb, hml, hown, hts⟩ (c_Law_write l hl0 ct dC dI a0 a4 a14 (a1 0) (a6 0) (a7 0) (a8 0) v0 (a5 0) _ (xs (Int32.toNatClampNeg (x4 + (1 : Int32)))) o0 o4 o14 v46 o_47 hG45) (gd_any cd_Law_write) rfl rfl rfl (hts _ ini_Law) (hts _ ml_Law_77) (hts _ st_Law_write) (by decide +kernel) ⟨Nat.le_of_ble_eq_true rfl, Nat.le_of_ble_eq_true rfl⟩ ⟨bw_blind thh_call, fun U hU hW => ⟨rfl, by rw [hU], by rw [hU]; exact hP.sub [0, 4, 14] rfl, va_K.moved hW.alike hK, (hN.sub [0, 4, 14] (by decide) rfl).weaken (fun _ _ => trivial), ⟨nx_warm hW hnx, thy_x hthy hS hAs hW hU, exX.moved hW.alike hex9⟩⟩⟩ rfl rfl hl.1 rfl (Nat.le_of_ble_eq_true rfl) d_Law_law_170 ⟨by rw [room_c]; omega, by rw [room_s]; omega⟩) hP hN hS hA rfl rfl rfl (fun H locs hP hS => ?_)
  refine lv_istore (lv' := [(5, .int v46), (0, .ref b), (1, .ref (a0 0)), (2, .ref (a13 0)), (3, .ref (a14 0)), (4, .int x4)]) hx hb d_Law_law_173 hl (by decide) rfl (fun ls hl => ?_)
  refine lv_aload_n hx hb d_Law_law_175 rfl (lv_at hl 3 rfl) ?_
  refine lv_aload_n hx hb d_Law_law_176 rfl (lv_at hl 1 rfl) ?_
  refine lv_iload hx hb d_Law_law_177 (lv_at hl 5 rfl) ?_
  refine lv_iconst (v := 1) hx hb d_Law_law_179 (by decide) ?_
  refine lv_iadd hx hb d_Law_law_180 ?_
  refine va_sld hx hb hX hbl hbA hS (inb_in hi44) d_Law_law_181 ?_
  obtain ⟨v50, o_51, hG49, h⟩ := bind2_some h
  refine bw_call (Lc := [wMod ct a13 o13]) (Lc' := [wMod ct a13 o_51]) (L' := [wPF ct a0 (a1 0) (a4 0) (a6 0) (a7 0) (a8 0) v0 o0, wReader ct a1 (a2 0) o1, wText ct a2 (a3 0) o2, wSteps ct a3 o3, wText ct a4 (a5 0) o4, wSteps ct a5 o5, wReckoner ct a6 o6, wCells ct a7 o7, wCells ct a8 o8, wCells ct a9 o9, wCells ct a10 o10, wCells ct a11 o11, wCells ct a12 o12, wMod ct a13 o_51, wOut ct a14 o_47]) [13] (va_runV (As := [.int (xs (Int32.toNatClampNeg (x4 + (1 : Int32))))]) (rest := []) ⟨hx, hb, hml, hown, hts⟩ (c_Mod_write l ct dC dI a13 _ (xs (Int32.toNatClampNeg (x4 + (1 : Int32)))) o13 v50 o_51 hG49) (cwV 1 hts g_Law_82 rfl rfl rfl (by decide +kernel) ⟨Nat.le_of_ble_eq_true rfl, Nat.le_of_ble_eq_true rfl⟩) ⟨bw_blind nx_call, va_recv hK (hP 13 _ rfl) (ci := 6) (q0 := 0) rfl rfl, fun U hU hW => ⟨rfl, by rw [hU], by rw [hU]; exact hP.sub [13] rfl, va_K.moved hW.alike hK, (hN.sub [13] (by decide) rfl).weaken (fun _ _ => trivial), nx_warm hW hnx⟩⟩ rfl rfl hl.1 rfl (Nat.le_of_ble_eq_true rfl) d_Law_law_182 ⟨by rw [room_c]; omega, by rw [room_s]; omega⟩) hP hN hS hA rfl rfl rfl (fun H locs hP hS => ?_)
  refine lv_istore (lv' := [(6, .int v50), (5, .int v46), (0, .ref b), (1, .ref (a0 0)), (2, .ref (a13 0)), (3, .ref (a14 0)), (4, .int x4)]) hx hb d_Law_law_185 hl (by decide) rfl (fun ls hl => ?_)
  refine lv_aload_n hx hb d_Law_law_187 rfl (lv_at hl 4 rfl) ?_
  obtain ⟨v53, hG52, h⟩ := bind1_some h
  refine bw_callR (va_runV (As := []) (rest := []) ⟨hx, hb, hml, hown, hts⟩ (c_Mod_thrown l ct dC dI a13 _ o_51 v53 hG52) (cwV 0 hts g_Law_83 rfl rfl rfl (by decide +kernel) ⟨Nat.le_of_ble_eq_true rfl, Nat.le_of_ble_eq_true rfl⟩) ⟨bw_blind nx_call, va_recv hK (hP 13 _ rfl) (ci := 6) (q0 := 0) rfl rfl, fun U hU hW => ⟨rfl, by rw [hU], by rw [hU]; exact hP.sub [13] rfl, va_K.moved hW.alike hK, (hN.sub [13] (by decide) rfl).weaken (fun _ _ => trivial), nx_warm hW hnx⟩⟩ rfl rfl hl.1 rfl (Nat.le_of_ble_eq_true rfl) d_Law_law_188 ⟨by rw [room_c]; omega, by rw [room_s]; omega⟩) ?_
  refine lv_iload hx hb d_Law_law_191 (lv_at hl 1 rfl) ?_
  refine lv_icmp_eq (tgt := 198) hx hb d_Law_law_193 (by decide) (fun c54 => ?_) (fun c54 => ?_)
  · have h := ite_t c54 h
    refine lv_iload hx hb d_Law_law_198 (lv_at hl 1 rfl) ?_
    refine lv_if_ne (tgt := 215) hx hb d_Law_law_200 (by decide) (fun c55 => ?_) (fun c55 => ?_)
    · have h := ite_f c55 h
      refine lv_goto (tgt := 1128) hx hb d_Law_law_215 (by decide) ?_
      refine lv_iinc (v := (x4 + (6 : Int32))) (lv' := [(4, .int (x4 + (6 : Int32))), (6, .int v50), (5, .int v46), (0, .ref b), (1, .ref (a0 0)), (2, .ref (a13 0)), (3, .ref (a14 0))]) hx hb d_Law_law_1128 hl (k := 6) rfl rfl (by decide) rfl (fun ls hl => ?_)
      refine lv_goto (tgt := 23) hx hb d_Law_law_1131 (by decide) ?_
      refine W.widen (k := 200 + (it + 1)) (n := 40000 + 6 * (it + 1)) (by omega) (by omega) ?_
      exact hk23 a0 a1 a2 a3 a4 a5 a6 a7 a8 a9 a10 a11 a12 a13 a14 v0 (x4 + (6 : Int32)) o0 o1 o2 o3 o4 o5 o6 o7 o8 o9 o10 o11 o12 o_51 o_47 _ _ _ hN hver hP hS (lv_sub hl [3, 4, 5, 6, 0] rfl) h
    · have h := ite_t c55 h
      refine lv_aload_n hx hb d_Law_law_203 rfl (lv_at hl 5 rfl) ?_
      refine lv_iconst (v := 0) hx hb d_Law_law_204 (by decide) ?_
      obtain ⟨hi56, h⟩ := chk_some h
      refine va_lald (f := g64 o_47 0) hx hb hK (hP 14 _ rfl) 0 1 rfl rfl (inb_in hi56) d_Law_law_205 ?_
      refine lv_iload hx hb d_Law_law_206 (lv_at hl 0 rfl) ?_
      refine lv_i2l (v := (Int32.toInt64 v50)) hx hb d_Law_law_208 rfl ?_
      refine W.lcmp hx hb d_Law_law_209 ?_
      refine lv_if_eq (tgt := 215) hx hb d_Law_law_210 (by decide) (fun c57 => ?_) (fun c57 => ?_)
      · have h := ite_t c57 h
        refine lv_goto (tgt := 1128) hx hb d_Law_law_215 (by decide) ?_
        refine lv_iinc (v := (x4 + (6 : Int32))) (lv' := [(4, .int (x4 + (6 : Int32))), (6, .int v50), (5, .int v46), (0, .ref b), (1, .ref (a0 0)), (2, .ref (a13 0)), (3, .ref (a14 0))]) hx hb d_Law_law_1128 hl (k := 6) rfl rfl (by decide) rfl (fun ls hl => ?_)
        refine lv_goto (tgt := 23) hx hb d_Law_law_1131 (by decide) ?_
        refine W.widen (k := 200 + (it + 1)) (n := 40000 + 6 * (it + 1)) (by omega) (by omega) ?_
        exact hk23 a0 a1 a2 a3 a4 a5 a6 a7 a8 a9 a10 a11 a12 a13 a14 v0 (x4 + (6 : Int32)) o0 o1 o2 o3 o4 o5 o6 o7 o8 o9 o10 o11 o12 o_51 o_47 _ _ _ hN hver hP hS (lv_sub hl [3, 4, 5, 6, 0] rfl) h
      · have h := ite_f c57 h
        refine lv_iconst (v := 0) hx hb d_Law_law_213 (by decide) ?_
        cases h
  · have h := ite_f c54 h
    refine lv_iconst (v := 0) hx hb d_Law_law_196 (by decide) ?_
    cases h
def F_Law_law_218 (L : Nat) (xs : Nat → Int32) (k23 : Int32 → Ob → Ob → Ob → Ob → Ob → Ob → Ob → Ob → Ob → Ob → Ob → Ob → Ob → Ob → Ob → Option Unit) (x4 : Int32) (o0 o1 o2 o3 o4 o5 o6 o7 o8 o9 o10 o11 o12 o13 o14 : Ob) : Option Unit :=
  chk (inb (x4 + (1 : Int32)) L) (chk (inb (x4 + (2 : Int32)) L) (chk (inb (x4 + (3 : Int32)) L) (chk (inb (x4 + (4 : Int32)) L) (chk (inb (x4 + (5 : Int32)) L) (bind5 (F_Law_set (xs (Int32.toNatClampNeg (x4 + (1 : Int32)))) ((lshl (Int32.toInt64 (xs (Int32.toNatClampNeg (x4 + (2 : Int32))))) (32 : Int32)) ||| ((Int32.toInt64 (xs (Int32.toNatClampNeg (x4 + (3 : Int32))))) &&& (4294967295 : Int64))) ((lshl (Int32.toInt64 (xs (Int32.toNatClampNeg (x4 + (4 : Int32))))) (32 : Int32)) ||| ((Int32.toInt64 (xs (Int32.toNatClampNeg (x4 + (5 : Int32))))) &&& (4294967295 : Int64))) o0 o7 o6 o4 o5 o14) (fun v64 o_65 o_66 o_67 o_68 => bind2 (F_Mod_set (xs (Int32.toNatClampNeg (x4 + (1 : Int32)))) ((lshl (Int32.toInt64 (xs (Int32.toNatClampNeg (x4 + (2 : Int32))))) (32 : Int32)) ||| ((Int32.toInt64 (xs (Int32.toNatClampNeg (x4 + (3 : Int32))))) &&& (4294967295 : Int64))) ((lshl (Int32.toInt64 (xs (Int32.toNatClampNeg (x4 + (4 : Int32))))) (32 : Int32)) ||| ((Int32.toInt64 (xs (Int32.toNatClampNeg (x4 + (5 : Int32))))) &&& (4294967295 : Int64))) o13) (fun v75 o_76 => bind1 (F_Mod_thrown o_76) (fun v78 => if v78 = v64 then (if v64 = 0 then (chk (inb (0 : Int32) 1) (if (b2i v75) = 0 then (if (lg_cmp (g64 o_68 0 (Int32.toNatClampNeg (0 : Int32))) (0 : Int64)) = 0 then (k23 (x4 + (6 : Int32)) o_65 o1 o2 o3 o4 o5 o_67 o_66 o8 o9 o10 o11 o12 o_76 o_68) else (none)) else (if (lg_cmp (g64 o_68 0 (Int32.toNatClampNeg (0 : Int32))) (1 : Int64)) = 0 then (k23 (x4 + (6 : Int32)) o_65 o1 o2 o3 o4 o5 o_67 o_66 o8 o9 o10 o11 o12 o_76 o_68) else (none)))) else (k23 (x4 + (6 : Int32)) o_65 o1 o2 o3 o4 o5 o_67 o_66 o8 o9 o10 o11 o12 o_76 o_68)) else (none)))))))))
set_option maxHeartbeats 8000000 in
set_option maxRecDepth 100000 in
theorem k_Law_law_218 {p : Program} {l : Launch} {e : Env} {s : State} {m : MethodId} {below : List Frame} {meth : Method} {c : Code} {b L : Nat} {xs : Nat → Int32} {A : Nat → Prop} {ct dC : Nat → ClassId} {dI : Nat → Nat → Nat} (C0 : lcx p s m meth c b L xs A ct dC dI) (hl0 : l.stackTraces = false) {it : Nat} (hit : it + 1 ≤ 600) {k23 : Int32 → Ob → Ob → Ob → Ob → Ob → Ob → Ob → Ob → Ob → Ob → Ob → Ob → Ob → Ob → Ob → Option Unit} (hk23 : ∀ (a0 a1 a2 a3 a4 a5 a6 a7 a8 a9 a10 a11 a12 a13 a14 : Nat → Nat) (v0 : Nat → Nat) (x4 : Int32) (o0 o1 o2 o3 o4 o5 o6 o7 o8 o9 o10 o11 o12 o13 o14 : Ob) (H : Heap) (locs : List Loc) (ls : Array Slot), bw_N A [adPF a0, adReader a1, adText a2, adSteps a3, adText a4, adSteps a5, adReckoner a6, adCells a7, adCells a8, adCells a9, adCells a10, adCells a11, adCells a12, adMod a13, adOut a14] → (v0 0 = a9 0 ∧ v0 1 = a10 0 ∧ v0 2 = a11 0 ∧ v0 3 = a12 0) → bw_P (dC, dI) vwCl [wPF ct a0 (a1 0) (a4 0) (a6 0) (a7 0) (a8 0) v0 o0, wReader ct a1 (a2 0) o1, wText ct a2 (a3 0) o2, wSteps ct a3 o3, wText ct a4 (a5 0) o4, wSteps ct a5 o5, wReckoner ct a6 o6, wCells ct a7 o7, wCells ct a8 o8, wCells ct a9 o9, wCells ct a10 o10, wCells ct a11 o11, wCells ct a12 o12, wMod ct a13 o13, wOut ct a14 o14] H → va_S A s.heap H locs → lv_has ls 8 [(0, .ref b), (1, .ref (a0 0)), (2, .ref (a13 0)), (3, .ref (a14 0)), (4, .int x4)] → k23 x4 o0 o1 o2 o3 o4 o5 o6 o7 o8 o9 o10 o11 o12 o13 o14 = some () → W p l e room_1 s m #[Value.ref b] below meth c H locs (200 + (it + 1)) (40000 + 6 * (it + 1)) (lw_Z below #[Value.ref b] s) (F0 m 23 ls [])) : ∀ (a0 a1 a2 a3 a4 a5 a6 a7 a8 a9 a10 a11 a12 a13 a14 : Nat → Nat) (v0 : Nat → Nat) (x4 : Int32) (o0 o1 o2 o3 o4 o5 o6 o7 o8 o9 o10 o11 o12 o13 o14 : Ob) (H : Heap) (locs : List Loc) (ls : Array Slot), bw_N A [adPF a0, adReader a1, adText a2, adSteps a3, adText a4, adSteps a5, adReckoner a6, adCells a7, adCells a8, adCells a9, adCells a10, adCells a11, adCells a12, adMod a13, adOut a14] → (v0 0 = a9 0 ∧ v0 1 = a10 0 ∧ v0 2 = a11 0 ∧ v0 3 = a12 0) → bw_P (dC, dI) vwCl [wPF ct a0 (a1 0) (a4 0) (a6 0) (a7 0) (a8 0) v0 o0, wReader ct a1 (a2 0) o1, wText ct a2 (a3 0) o2, wSteps ct a3 o3, wText ct a4 (a5 0) o4, wSteps ct a5 o5, wReckoner ct a6 o6, wCells ct a7 o7, wCells ct a8 o8, wCells ct a9 o9, wCells ct a10 o10, wCells ct a11 o11, wCells ct a12 o12, wMod ct a13 o13, wOut ct a14 o14] H → va_S A s.heap H locs → lv_has ls 8 [(0, .ref b), (1, .ref (a0 0)), (2, .ref (a13 0)), (3, .ref (a14 0)), (4, .int x4)] → F_Law_law_218 L xs k23 x4 o0 o1 o2 o3 o4 o5 o6 o7 o8 o9 o10 o11 o12 o13 o14 = some () → W p l e room_1 s m #[Value.ref b] below meth c H locs (200 + it) (40000 + 6 * it) (lw_Z below #[Value.ref b] s) (F0 m 218 ls []) := by
  obtain ⟨hx, hb, hr, hml, hown, hlocks, hts, hK, hA, hAs, hX, hbl, hnx, hthy, hex9, hsx⟩ := id C0
  have hbA : ¬ A b := fun z => absurd (hAs b z) (Nat.not_le.mpr hbl)
  intro a0 a1 a2 a3 a4 a5 a6 a7 a8 a9 a10 a11 a12 a13 a14 v0 x4 o0 o1 o2 o3 o4 o5 o6 o7 o8 o9 o10 o11 o12 o13 o14 H locs ls hN hver hP hS hl h
  rw [F_Law_law_218] at h
  refine lv_aload_n hx hb d_Law_law_218 rfl (lv_at hl 1 rfl) ?_
  refine lv_aload_n hx hb d_Law_law_219 rfl (lv_at hl 0 rfl) ?_
  refine lv_iload hx hb d_Law_law_220 (lv_at hl 4 rfl) ?_
  refine lv_iconst (v := 1) hx hb d_Law_law_222 (by decide) ?_
  refine lv_iadd hx hb d_Law_law_223 ?_
  obtain ⟨hi58, h⟩ := chk_some h
  refine va_sld hx hb hX hbl hbA hS (inb_in hi58) d_Law_law_224 ?_
  refine lv_aload_n hx hb d_Law_law_225 rfl (lv_at hl 0 rfl) ?_
  refine lv_iload hx hb d_Law_law_226 (lv_at hl 4 rfl) ?_
  refine lv_iconst (v := 2) hx hb d_Law_law_228 (by decide) ?_
  refine lv_iadd hx hb d_Law_law_229 ?_
  obtain ⟨hi59, h⟩ := chk_some h
  refine va_sld hx hb hX hbl hbA hS (inb_in hi59) d_Law_law_230 ?_
  refine lv_i2l (v := (Int32.toInt64 (xs (Int32.toNatClampNeg (x4 + (2 : Int32)))))) hx hb d_Law_law_231 rfl ?_
  refine lv_bipush (v := 32) hx hb d_Law_law_232 (by decide) ?_
  refine lv_lshl (v := (lshl (Int32.toInt64 (xs (Int32.toNatClampNeg (x4 + (2 : Int32))))) (32 : Int32))) hx hb d_Law_law_234 rfl ?_
  refine lv_aload_n hx hb d_Law_law_235 rfl (lv_at hl 0 rfl) ?_
  refine lv_iload hx hb d_Law_law_236 (lv_at hl 4 rfl) ?_
  refine lv_iconst (v := 3) hx hb d_Law_law_238 (by decide) ?_
  refine lv_iadd hx hb d_Law_law_239 ?_
  obtain ⟨hi60, h⟩ := chk_some h
  refine va_sld hx hb hX hbl hbA hS (inb_in hi60) d_Law_law_240 ?_
  refine lv_i2l (v := (Int32.toInt64 (xs (Int32.toNatClampNeg (x4 + (3 : Int32)))))) hx hb d_Law_law_241 rfl ?_
  refine lv_ldc2 (v := 4294967295) hx hb hown (hts _ cn_Law_86) d_Law_law_242 ?_
  refine lv_land hx hb d_Law_law_245 ?_
  refine lv_lor hx hb d_Law_law_246 ?_
  refine lv_aload_n hx hb d_Law_law_247 rfl (lv_at hl 0 rfl) ?_
  refine lv_iload hx hb d_Law_law_248 (lv_at hl 4 rfl) ?_
  refine lv_iconst (v := 4) hx hb d_Law_law_250 (by decide) ?_
  refine lv_iadd hx hb d_Law_law_251 ?_
  obtain ⟨hi61, h⟩ := chk_some h
  refine va_sld hx hb hX hbl hbA hS (inb_in hi61) d_Law_law_252 ?_
  refine lv_i2l (v := (Int32.toInt64 (xs (Int32.toNatClampNeg (x4 + (4 : Int32)))))) hx hb d_Law_law_253 rfl ?_
  refine lv_bipush (v := 32) hx hb d_Law_law_254 (by decide) ?_
  refine lv_lshl (v := (lshl (Int32.toInt64 (xs (Int32.toNatClampNeg (x4 + (4 : Int32))))) (32 : Int32))) hx hb d_Law_law_256 rfl ?_
  refine lv_aload_n hx hb d_Law_law_257 rfl (lv_at hl 0 rfl) ?_
  refine lv_iload hx hb d_Law_law_258 (lv_at hl 4 rfl) ?_
  refine lv_iconst (v := 5) hx hb d_Law_law_260 (by decide) ?_
  refine lv_iadd hx hb d_Law_law_261 ?_
  obtain ⟨hi62, h⟩ := chk_some h
  refine va_sld hx hb hX hbl hbA hS (inb_in hi62) d_Law_law_262 ?_
  refine lv_i2l (v := (Int32.toInt64 (xs (Int32.toNatClampNeg (x4 + (5 : Int32)))))) hx hb d_Law_law_263 rfl ?_
  refine lv_ldc2 (v := 4294967295) hx hb hown (hts _ cn_Law_86) d_Law_law_264 ?_
  refine lv_land hx hb d_Law_law_267 ?_
  refine lv_lor hx hb d_Law_law_268 ?_
  refine lv_aload_n hx hb d_Law_law_269 rfl (lv_at hl 3 rfl) ?_
  obtain ⟨v64, o_65, o_66, o_67, o_68, hG63, h⟩ := bind5_some h
  refine bw_call (Lc := [wPF ct a0 (a1 0) (a4 0) (a6 0) (a7 0) (a8 0) v0 o0, wCells ct a7 o7, wReckoner ct a6 o6, wText ct a4 (a5 0) o4, wSteps ct a5 o5, wOut ct a14 o14]) (Lc' := [wPF ct a0 (a1 0) (a4 0) (a6 0) (a7 0) (a8 0) v0 o_65, wCells ct a7 o_66, wReckoner ct a6 o_67, wText ct a4 (a5 0) o4, wSteps ct a5 o5, wOut ct a14 o_68]) (L' := [wPF ct a0 (a1 0) (a4 0) (a6 0) (a7 0) (a8 0) v0 o_65, wReader ct a1 (a2 0) o1, wText ct a2 (a3 0) o2, wSteps ct a3 o3, wText ct a4 (a5 0) o4, wSteps ct a5 o5, wReckoner ct a6 o_67, wCells ct a7 o_66, wCells ct a8 o8, wCells ct a9 o9, wCells ct a10 o10, wCells ct a11 o11, wCells ct a12 o12, wMod ct a13 o13, wOut ct a14 o_68]) [0, 7, 6, 4, 5, 14] (bt_runSW (As := [.ref (a0 0), .int (xs (Int32.toNatClampNeg (x4 + (1 : Int32)))), .long ((lshl (Int32.toInt64 (xs (Int32.toNatClampNeg (x4 + (2 : Int32))))) (32 : Int32)) ||| ((Int32.toInt64 (xs (Int32.toNatClampNeg (x4 + (3 : Int32))))) &&& (4294967295 : Int64))), .long ((lshl (Int32.toInt64 (xs (Int32.toNatClampNeg (x4 + (4 : Int32))))) (32 : Int32)) ||| ((Int32.toInt64 (xs (Int32.toNatClampNeg (x4 + (5 : Int32))))) &&& (4294967295 : Int64))), .ref (a14 0)]) (rest := []) ⟨hx, hb, hml, hown, hts⟩ (c_Law_set l hl0 ct dC dI a0 a7 a6 a4 a5 a14 (a1 0) (a8 0) v0 _ (xs (Int32.toNatClampNeg (x4 + (1 : Int32)))) ((lshl (Int32.toInt64 (xs (Int32.toNatClampNeg (x4 + (2 : Int32))))) (32 : Int32)) ||| ((Int32.toInt64 (xs (Int32.toNatClampNeg (x4 + (3 : Int32))))) &&& (4294967295 : Int64))) ((lshl (Int32.toInt64 (xs (Int32.toNatClampNeg (x4 + (4 : Int32))))) (32 : Int32)) ||| ((Int32.toInt64 (xs (Int32.toNatClampNeg (x4 + (5 : Int32))))) &&& (4294967295 : Int64))) o0 o7 o6 o4 o5 o14 v64 o_65 o_66 o_67 o_68 hG63) (gd_any cd_Law_set) rfl rfl rfl (hts _ ini_Law) (hts _ ml_Law_88) (hts _ st_Law_set) (by decide +kernel) ⟨Nat.le_of_ble_eq_true rfl, Nat.le_of_ble_eq_true rfl⟩ ⟨bw_blind thh_call, fun U hU hW => ⟨rfl, by rw [hU], by rw [hU]; exact hP.sub [0, 7, 6, 4, 5, 14] rfl, va_K.moved hW.alike hK, (hN.sub [0, 7, 6, 4, 5, 14] (by decide) rfl).weaken (fun _ _ => trivial), ⟨nx_warm hW hnx, thy_x hthy hS hAs hW hU, exX.moved hW.alike hex9⟩⟩⟩ rfl rfl hl.1 rfl (Nat.le_of_ble_eq_true rfl) d_Law_law_270 ⟨by rw [room_c]; omega, by rw [room_s]; omega⟩) hP hN hS hA rfl rfl rfl (fun H locs hP hS => ?_)
  refine lv_istore (lv' := [(5, .int v64), (0, .ref b), (1, .ref (a0 0)), (2, .ref (a13 0)), (3, .ref (a14 0)), (4, .int x4)]) hx hb d_Law_law_273 hl (by decide) rfl (fun ls hl => ?_)
  refine lv_aload_n hx hb d_Law_law_275 rfl (lv_at hl 3 rfl) ?_
  refine lv_aload_n hx hb d_Law_law_276 rfl (lv_at hl 1 rfl) ?_
  refine lv_iload hx hb d_Law_law_277 (lv_at hl 5 rfl) ?_
  refine lv_iconst (v := 1) hx hb d_Law_law_279 (by decide) ?_
  refine lv_iadd hx hb d_Law_law_280 ?_
  refine va_sld hx hb hX hbl hbA hS (inb_in hi58) d_Law_law_281 ?_
  refine lv_aload_n hx hb d_Law_law_282 rfl (lv_at hl 1 rfl) ?_
  refine lv_iload hx hb d_Law_law_283 (lv_at hl 5 rfl) ?_
  refine lv_iconst (v := 2) hx hb d_Law_law_285 (by decide) ?_
  refine lv_iadd hx hb d_Law_law_286 ?_
  refine va_sld hx hb hX hbl hbA hS (inb_in hi59) d_Law_law_287 ?_
  refine lv_i2l (v := (Int32.toInt64 (xs (Int32.toNatClampNeg (x4 + (2 : Int32)))))) hx hb d_Law_law_288 rfl ?_
  refine lv_bipush (v := 32) hx hb d_Law_law_289 (by decide) ?_
  refine lv_lshl (v := (lshl (Int32.toInt64 (xs (Int32.toNatClampNeg (x4 + (2 : Int32))))) (32 : Int32))) hx hb d_Law_law_291 rfl ?_
  refine lv_aload_n hx hb d_Law_law_292 rfl (lv_at hl 1 rfl) ?_
  refine lv_iload hx hb d_Law_law_293 (lv_at hl 5 rfl) ?_
  refine lv_iconst (v := 3) hx hb d_Law_law_295 (by decide) ?_
  refine lv_iadd hx hb d_Law_law_296 ?_
  refine va_sld hx hb hX hbl hbA hS (inb_in hi60) d_Law_law_297 ?_
  refine lv_i2l (v := (Int32.toInt64 (xs (Int32.toNatClampNeg (x4 + (3 : Int32)))))) hx hb d_Law_law_298 rfl ?_
  refine lv_ldc2 (v := 4294967295) hx hb hown (hts _ cn_Law_86) d_Law_law_299 ?_
  refine lv_land hx hb d_Law_law_302 ?_
  refine lv_lor hx hb d_Law_law_303 ?_
  refine lv_aload_n hx hb d_Law_law_304 rfl (lv_at hl 1 rfl) ?_
  refine lv_iload hx hb d_Law_law_305 (lv_at hl 5 rfl) ?_
  refine lv_iconst (v := 4) hx hb d_Law_law_307 (by decide) ?_
  refine lv_iadd hx hb d_Law_law_308 ?_
  refine va_sld hx hb hX hbl hbA hS (inb_in hi61) d_Law_law_309 ?_
  refine lv_i2l (v := (Int32.toInt64 (xs (Int32.toNatClampNeg (x4 + (4 : Int32)))))) hx hb d_Law_law_310 rfl ?_
  refine lv_bipush (v := 32) hx hb d_Law_law_311 (by decide) ?_
  refine lv_lshl (v := (lshl (Int32.toInt64 (xs (Int32.toNatClampNeg (x4 + (4 : Int32))))) (32 : Int32))) hx hb d_Law_law_313 rfl ?_
  refine lv_aload_n hx hb d_Law_law_314 rfl (lv_at hl 1 rfl) ?_
  refine lv_iload hx hb d_Law_law_315 (lv_at hl 5 rfl) ?_
  refine lv_iconst (v := 5) hx hb d_Law_law_317 (by decide) ?_
  refine lv_iadd hx hb d_Law_law_318 ?_
  refine va_sld hx hb hX hbl hbA hS (inb_in hi62) d_Law_law_319 ?_
  refine lv_i2l (v := (Int32.toInt64 (xs (Int32.toNatClampNeg (x4 + (5 : Int32)))))) hx hb d_Law_law_320 rfl ?_
  refine lv_ldc2 (v := 4294967295) hx hb hown (hts _ cn_Law_86) d_Law_law_321 ?_
  refine lv_land hx hb d_Law_law_324 ?_
  refine lv_lor hx hb d_Law_law_325 ?_
  obtain ⟨v75, o_76, hG74, h⟩ := bind2_some h
  refine bw_call (Lc := [wMod ct a13 o13]) (Lc' := [wMod ct a13 o_76]) (L' := [wPF ct a0 (a1 0) (a4 0) (a6 0) (a7 0) (a8 0) v0 o_65, wReader ct a1 (a2 0) o1, wText ct a2 (a3 0) o2, wSteps ct a3 o3, wText ct a4 (a5 0) o4, wSteps ct a5 o5, wReckoner ct a6 o_67, wCells ct a7 o_66, wCells ct a8 o8, wCells ct a9 o9, wCells ct a10 o10, wCells ct a11 o11, wCells ct a12 o12, wMod ct a13 o_76, wOut ct a14 o_68]) [13] (va_runV (As := [.int (xs (Int32.toNatClampNeg (x4 + (1 : Int32)))), .long ((lshl (Int32.toInt64 (xs (Int32.toNatClampNeg (x4 + (2 : Int32))))) (32 : Int32)) ||| ((Int32.toInt64 (xs (Int32.toNatClampNeg (x4 + (3 : Int32))))) &&& (4294967295 : Int64))), .long ((lshl (Int32.toInt64 (xs (Int32.toNatClampNeg (x4 + (4 : Int32))))) (32 : Int32)) ||| ((Int32.toInt64 (xs (Int32.toNatClampNeg (x4 + (5 : Int32))))) &&& (4294967295 : Int64)))]) (rest := []) ⟨hx, hb, hml, hown, hts⟩ (c_Mod_set l ct dC dI a13 _ (xs (Int32.toNatClampNeg (x4 + (1 : Int32)))) ((lshl (Int32.toInt64 (xs (Int32.toNatClampNeg (x4 + (2 : Int32))))) (32 : Int32)) ||| ((Int32.toInt64 (xs (Int32.toNatClampNeg (x4 + (3 : Int32))))) &&& (4294967295 : Int64))) ((lshl (Int32.toInt64 (xs (Int32.toNatClampNeg (x4 + (4 : Int32))))) (32 : Int32)) ||| ((Int32.toInt64 (xs (Int32.toNatClampNeg (x4 + (5 : Int32))))) &&& (4294967295 : Int64))) o13 v75 o_76 hG74) (cwV 3 hts g_Law_91 rfl rfl rfl (by decide +kernel) ⟨Nat.le_of_ble_eq_true rfl, Nat.le_of_ble_eq_true rfl⟩) ⟨bw_blind nx_call, va_recv hK (hP 13 _ rfl) (ci := 6) (q0 := 0) rfl rfl, fun U hU hW => ⟨rfl, by rw [hU], by rw [hU]; exact hP.sub [13] rfl, va_K.moved hW.alike hK, (hN.sub [13] (by decide) rfl).weaken (fun _ _ => trivial), nx_warm hW hnx⟩⟩ rfl rfl hl.1 rfl (Nat.le_of_ble_eq_true rfl) d_Law_law_326 ⟨by rw [room_c]; omega, by rw [room_s]; omega⟩) hP hN hS hA rfl rfl rfl (fun H locs hP hS => ?_)
  refine lv_istore (lv' := [(6, .int (b2i v75)), (5, .int v64), (0, .ref b), (1, .ref (a0 0)), (2, .ref (a13 0)), (3, .ref (a14 0)), (4, .int x4)]) hx hb d_Law_law_329 hl (by decide) rfl (fun ls hl => ?_)
  refine lv_aload_n hx hb d_Law_law_331 rfl (lv_at hl 4 rfl) ?_
  obtain ⟨v78, hG77, h⟩ := bind1_some h
  refine bw_callR (va_runV (As := []) (rest := []) ⟨hx, hb, hml, hown, hts⟩ (c_Mod_thrown l ct dC dI a13 _ o_76 v78 hG77) (cwV 0 hts g_Law_83 rfl rfl rfl (by decide +kernel) ⟨Nat.le_of_ble_eq_true rfl, Nat.le_of_ble_eq_true rfl⟩) ⟨bw_blind nx_call, va_recv hK (hP 13 _ rfl) (ci := 6) (q0 := 0) rfl rfl, fun U hU hW => ⟨rfl, by rw [hU], by rw [hU]; exact hP.sub [13] rfl, va_K.moved hW.alike hK, (hN.sub [13] (by decide) rfl).weaken (fun _ _ => trivial), nx_warm hW hnx⟩⟩ rfl rfl hl.1 rfl (Nat.le_of_ble_eq_true rfl) d_Law_law_332 ⟨by rw [room_c]; omega, by rw [room_s]; omega⟩) ?_
  refine lv_iload hx hb d_Law_law_335 (lv_at hl 1 rfl) ?_
  refine lv_icmp_eq (tgt := 342) hx hb d_Law_law_337 (by decide) (fun c79 => ?_) (fun c79 => ?_)
  · have h := ite_t c79 h
    refine lv_iload hx hb d_Law_law_342 (lv_at hl 1 rfl) ?_
    refine lv_if_ne (tgt := 366) hx hb d_Law_law_344 (by decide) (fun c80 => ?_) (fun c80 => ?_)
    · have h := ite_f c80 h
      refine lv_goto (tgt := 1128) hx hb d_Law_law_366 (by decide) ?_
      refine lv_iinc (v := (x4 + (6 : Int32))) (lv' := [(4, .int (x4 + (6 : Int32))), (6, .int (b2i v75)), (5, .int v64), (0, .ref b), (1, .ref (a0 0)), (2, .ref (a13 0)), (3, .ref (a14 0))]) hx hb d_Law_law_1128 hl (k := 6) rfl rfl (by decide) rfl (fun ls hl => ?_)
      refine lv_goto (tgt := 23) hx hb d_Law_law_1131 (by decide) ?_
      refine W.widen (k := 200 + (it + 1)) (n := 40000 + 6 * (it + 1)) (by omega) (by omega) ?_
      exact hk23 a0 a1 a2 a3 a4 a5 a6 a7 a8 a9 a10 a11 a12 a13 a14 v0 (x4 + (6 : Int32)) o_65 o1 o2 o3 o4 o5 o_67 o_66 o8 o9 o10 o11 o12 o_76 o_68 _ _ _ hN hver hP hS (lv_sub hl [3, 4, 5, 6, 0] rfl) h
    · have h := ite_t c80 h
      refine lv_aload_n hx hb d_Law_law_347 rfl (lv_at hl 5 rfl) ?_
      refine lv_iconst (v := 0) hx hb d_Law_law_348 (by decide) ?_
      obtain ⟨hi81, h⟩ := chk_some h
      refine va_lald (f := g64 o_68 0) hx hb hK (hP 14 _ rfl) 0 1 rfl rfl (inb_in hi81) d_Law_law_349 ?_
      refine lv_iload hx hb d_Law_law_350 (lv_at hl 0 rfl) ?_
      refine lv_if_eq (tgt := 359) hx hb d_Law_law_352 (by decide) (fun c82 => ?_) (fun c82 => ?_)
      · have h := ite_t c82 h
        refine lv_lconst (v := 0) hx hb d_Law_law_359 (by decide) ?_
        refine W.lcmp hx hb d_Law_law_360 ?_
        refine lv_if_eq (tgt := 366) hx hb d_Law_law_361 (by decide) (fun c83 => ?_) (fun c83 => ?_)
        · have h := ite_t c83 h
          refine lv_goto (tgt := 1128) hx hb d_Law_law_366 (by decide) ?_
          refine lv_iinc (v := (x4 + (6 : Int32))) (lv' := [(4, .int (x4 + (6 : Int32))), (6, .int (b2i v75)), (5, .int v64), (0, .ref b), (1, .ref (a0 0)), (2, .ref (a13 0)), (3, .ref (a14 0))]) hx hb d_Law_law_1128 hl (k := 6) rfl rfl (by decide) rfl (fun ls hl => ?_)
          refine lv_goto (tgt := 23) hx hb d_Law_law_1131 (by decide) ?_
          refine W.widen (k := 200 + (it + 1)) (n := 40000 + 6 * (it + 1)) (by omega) (by omega) ?_
          exact hk23 a0 a1 a2 a3 a4 a5 a6 a7 a8 a9 a10 a11 a12 a13 a14 v0 (x4 + (6 : Int32)) o_65 o1 o2 o3 o4 o5 o_67 o_66 o8 o9 o10 o11 o12 o_76 o_68 _ _ _ hN hver hP hS (lv_sub hl [3, 4, 5, 6, 0] rfl) h
        · have h := ite_f c83 h
          refine lv_iconst (v := 0) hx hb d_Law_law_364 (by decide) ?_
          cases h
      · have h := ite_f c82 h
        refine lv_lconst (v := 1) hx hb d_Law_law_355 (by decide) ?_
        refine lv_goto (tgt := 360) hx hb d_Law_law_356 (by decide) ?_
        refine W.lcmp hx hb d_Law_law_360 ?_
        refine lv_if_eq (tgt := 366) hx hb d_Law_law_361 (by decide) (fun c84 => ?_) (fun c84 => ?_)
        · have h := ite_t c84 h
          refine lv_goto (tgt := 1128) hx hb d_Law_law_366 (by decide) ?_
          refine lv_iinc (v := (x4 + (6 : Int32))) (lv' := [(4, .int (x4 + (6 : Int32))), (6, .int (b2i v75)), (5, .int v64), (0, .ref b), (1, .ref (a0 0)), (2, .ref (a13 0)), (3, .ref (a14 0))]) hx hb d_Law_law_1128 hl (k := 6) rfl rfl (by decide) rfl (fun ls hl => ?_)
          refine lv_goto (tgt := 23) hx hb d_Law_law_1131 (by decide) ?_
          refine W.widen (k := 200 + (it + 1)) (n := 40000 + 6 * (it + 1)) (by omega) (by omega) ?_
          exact hk23 a0 a1 a2 a3 a4 a5 a6 a7 a8 a9 a10 a11 a12 a13 a14 v0 (x4 + (6 : Int32)) o_65 o1 o2 o3 o4 o5 o_67 o_66 o8 o9 o10 o11 o12 o_76 o_68 _ _ _ hN hver hP hS (lv_sub hl [3, 4, 5, 6, 0] rfl) h
        · have h := ite_f c84 h
          refine lv_iconst (v := 0) hx hb d_Law_law_364 (by decide) ?_
          cases h
  · have h := ite_f c79 h
    refine lv_iconst (v := 0) hx hb d_Law_law_340 (by decide) ?_
    cases h
def F_Law_law_369 (L : Nat) (xs : Nat → Int32) (k23 : Int32 → Ob → Ob → Ob → Ob → Ob → Ob → Ob → Ob → Ob → Ob → Ob → Ob → Ob → Ob → Ob → Option Unit) (x4 : Int32) (o0 o1 o2 o3 o4 o5 o6 o7 o8 o9 o10 o11 o12 o13 o14 : Ob) : Option Unit :=
  bind5 (F_Law_run o0 o7 o6 o4 o5 o14) (fun v86 o_87 o_88 o_89 o_90 => bind2 (F_Mod_run o13) (fun v92 o_93 => bind1 (F_Mod_thrown o_93) (fun v95 => if v95 = v86 then (if v86 = 0 then (chk (inb (0 : Int32) 1) (if (lg_cmp (g64 o_90 0 (Int32.toNatClampNeg (0 : Int32))) (Int32.toInt64 v92)) = 0 then (k23 (x4 + (6 : Int32)) o_87 o1 o2 o3 o4 o5 o_89 o_88 o8 o9 o10 o11 o12 o_93 o_90) else (none))) else (k23 (x4 + (6 : Int32)) o_87 o1 o2 o3 o4 o5 o_89 o_88 o8 o9 o10 o11 o12 o_93 o_90)) else (none))))
set_option maxHeartbeats 8000000 in
set_option maxRecDepth 100000 in
theorem k_Law_law_369 {p : Program} {l : Launch} {e : Env} {s : State} {m : MethodId} {below : List Frame} {meth : Method} {c : Code} {b L : Nat} {xs : Nat → Int32} {A : Nat → Prop} {ct dC : Nat → ClassId} {dI : Nat → Nat → Nat} (C0 : lcx p s m meth c b L xs A ct dC dI) (hl0 : l.stackTraces = false) {it : Nat} (hit : it + 1 ≤ 600) {k23 : Int32 → Ob → Ob → Ob → Ob → Ob → Ob → Ob → Ob → Ob → Ob → Ob → Ob → Ob → Ob → Ob → Option Unit} (hk23 : ∀ (a0 a1 a2 a3 a4 a5 a6 a7 a8 a9 a10 a11 a12 a13 a14 : Nat → Nat) (v0 : Nat → Nat) (x4 : Int32) (o0 o1 o2 o3 o4 o5 o6 o7 o8 o9 o10 o11 o12 o13 o14 : Ob) (H : Heap) (locs : List Loc) (ls : Array Slot), bw_N A [adPF a0, adReader a1, adText a2, adSteps a3, adText a4, adSteps a5, adReckoner a6, adCells a7, adCells a8, adCells a9, adCells a10, adCells a11, adCells a12, adMod a13, adOut a14] → (v0 0 = a9 0 ∧ v0 1 = a10 0 ∧ v0 2 = a11 0 ∧ v0 3 = a12 0) → bw_P (dC, dI) vwCl [wPF ct a0 (a1 0) (a4 0) (a6 0) (a7 0) (a8 0) v0 o0, wReader ct a1 (a2 0) o1, wText ct a2 (a3 0) o2, wSteps ct a3 o3, wText ct a4 (a5 0) o4, wSteps ct a5 o5, wReckoner ct a6 o6, wCells ct a7 o7, wCells ct a8 o8, wCells ct a9 o9, wCells ct a10 o10, wCells ct a11 o11, wCells ct a12 o12, wMod ct a13 o13, wOut ct a14 o14] H → va_S A s.heap H locs → lv_has ls 8 [(0, .ref b), (1, .ref (a0 0)), (2, .ref (a13 0)), (3, .ref (a14 0)), (4, .int x4)] → k23 x4 o0 o1 o2 o3 o4 o5 o6 o7 o8 o9 o10 o11 o12 o13 o14 = some () → W p l e room_1 s m #[Value.ref b] below meth c H locs (200 + (it + 1)) (40000 + 6 * (it + 1)) (lw_Z below #[Value.ref b] s) (F0 m 23 ls [])) : ∀ (a0 a1 a2 a3 a4 a5 a6 a7 a8 a9 a10 a11 a12 a13 a14 : Nat → Nat) (v0 : Nat → Nat) (x4 : Int32) (o0 o1 o2 o3 o4 o5 o6 o7 o8 o9 o10 o11 o12 o13 o14 : Ob) (H : Heap) (locs : List Loc) (ls : Array Slot), bw_N A [adPF a0, adReader a1, adText a2, adSteps a3, adText a4, adSteps a5, adReckoner a6, adCells a7, adCells a8, adCells a9, adCells a10, adCells a11, adCells a12, adMod a13, adOut a14] → (v0 0 = a9 0 ∧ v0 1 = a10 0 ∧ v0 2 = a11 0 ∧ v0 3 = a12 0) → bw_P (dC, dI) vwCl [wPF ct a0 (a1 0) (a4 0) (a6 0) (a7 0) (a8 0) v0 o0, wReader ct a1 (a2 0) o1, wText ct a2 (a3 0) o2, wSteps ct a3 o3, wText ct a4 (a5 0) o4, wSteps ct a5 o5, wReckoner ct a6 o6, wCells ct a7 o7, wCells ct a8 o8, wCells ct a9 o9, wCells ct a10 o10, wCells ct a11 o11, wCells ct a12 o12, wMod ct a13 o13, wOut ct a14 o14] H → va_S A s.heap H locs → lv_has ls 8 [(0, .ref b), (1, .ref (a0 0)), (2, .ref (a13 0)), (3, .ref (a14 0)), (4, .int x4)] → F_Law_law_369 L xs k23 x4 o0 o1 o2 o3 o4 o5 o6 o7 o8 o9 o10 o11 o12 o13 o14 = some () → W p l e room_1 s m #[Value.ref b] below meth c H locs (200 + it) (40000 + 6 * it) (lw_Z below #[Value.ref b] s) (F0 m 369 ls []) := by
  obtain ⟨hx, hb, hr, hml, hown, hlocks, hts, hK, hA, hAs, hX, hbl, hnx, hthy, hex9, hsx⟩ := id C0
  have hbA : ¬ A b := fun z => absurd (hAs b z) (Nat.not_le.mpr hbl)
  intro a0 a1 a2 a3 a4 a5 a6 a7 a8 a9 a10 a11 a12 a13 a14 v0 x4 o0 o1 o2 o3 o4 o5 o6 o7 o8 o9 o10 o11 o12 o13 o14 H locs ls hN hver hP hS hl h
  rw [F_Law_law_369] at h
  refine lv_aload_n hx hb d_Law_law_369 rfl (lv_at hl 1 rfl) ?_
  refine lv_aload_n hx hb d_Law_law_370 rfl (lv_at hl 3 rfl) ?_
  obtain ⟨v86, o_87, o_88, o_89, o_90, hG85, h⟩ := bind5_some h
  refine bw_call (Lc := [wPF ct a0 (a1 0) (a4 0) (a6 0) (a7 0) (a8 0) v0 o0, wCells ct a7 o7, wReckoner ct a6 o6, wText ct a4 (a5 0) o4, wSteps ct a5 o5, wOut ct a14 o14]) (Lc' := [wPF ct a0 (a1 0) (a4 0) (a6 0) (a7 0) (a8 0) v0 o_87, wCells ct a7 o_88, wReckoner ct a6 o_89, wText ct a4 (a5 0) o4, wSteps ct a5 o5, wOut ct a14 o_90]) (L' := [wPF ct a0 (a1 0) (a4 0) (a6 0) (a7 0) (a8 0) v0 o_87, wReader ct a1 (a2 0) o1, wText ct a2 (a3 0) o2, wSteps ct a3 o3, wText ct a4 (a5 0) o4, wSteps ct a5 o5, wReckoner ct a6 o_89, wCells ct a7 o_88, wCells ct a8 o8, wCells ct a9 o9, wCells ct a10 o10, wCells ct a11 o11, wCells ct a12 o12, wMod ct a13 o13, wOut ct a14 o_90]) [0, 7, 6, 4, 5, 14] (bt_runSW (As := [.ref (a0 0), .ref (a14 0)]) (rest := []) ⟨hx, hb, hml, hown, hts⟩ (c_Law_run l hl0 ct dC dI a0 a7 a6 a4 a5 a14 (a1 0) (a8 0) v0 _ o0 o7 o6 o4 o5 o14 v86 o_87 o_88 o_89 o_90 hG85) (gd_any cd_Law_run) rfl rfl rfl (hts _ ini_Law) (hts _ ml_Law_92) (hts _ st_Law_run) (by decide +kernel) ⟨Nat.le_of_ble_eq_true rfl, Nat.le_of_ble_eq_true rfl⟩ ⟨bw_blind thh_call, fun U hU hW => ⟨rfl, by rw [hU], by rw [hU]; exact hP.sub [0, 7, 6, 4, 5, 14] rfl, va_K.moved hW.alike hK, (hN.sub [0, 7, 6, 4, 5, 14] (by decide) rfl).weaken (fun _ _ => trivial), ⟨nx_warm hW hnx, thy_x hthy hS hAs hW hU, exX.moved hW.alike hex9⟩⟩⟩ rfl rfl hl.1 rfl (Nat.le_of_ble_eq_true rfl) d_Law_law_371 ⟨by rw [room_c]; omega, by rw [room_s]; omega⟩) hP hN hS hA rfl rfl rfl (fun H locs hP hS => ?_)
  refine lv_istore (lv' := [(5, .int v86), (0, .ref b), (1, .ref (a0 0)), (2, .ref (a13 0)), (3, .ref (a14 0)), (4, .int x4)]) hx hb d_Law_law_374 hl (by decide) rfl (fun ls hl => ?_)
  refine lv_aload_n hx hb d_Law_law_376 rfl (lv_at hl 3 rfl) ?_
  obtain ⟨v92, o_93, hG91, h⟩ := bind2_some h
  refine bw_call (Lc := [wMod ct a13 o13]) (Lc' := [wMod ct a13 o_93]) (L' := [wPF ct a0 (a1 0) (a4 0) (a6 0) (a7 0) (a8 0) v0 o_87, wReader ct a1 (a2 0) o1, wText ct a2 (a3 0) o2, wSteps ct a3 o3, wText ct a4 (a5 0) o4, wSteps ct a5 o5, wReckoner ct a6 o_89, wCells ct a7 o_88, wCells ct a8 o8, wCells ct a9 o9, wCells ct a10 o10, wCells ct a11 o11, wCells ct a12 o12, wMod ct a13 o_93, wOut ct a14 o_90]) [13] (va_runV (As := []) (rest := []) ⟨hx, hb, hml, hown, hts⟩ (c_Mod_run l ct dC dI a13 _ o13 v92 o_93 hG91) (cwV 0 hts g_Law_95 rfl rfl rfl (by decide +kernel) ⟨Nat.le_of_ble_eq_true rfl, Nat.le_of_ble_eq_true rfl⟩) ⟨bw_blind nx_call, va_recv hK (hP 13 _ rfl) (ci := 6) (q0 := 0) rfl rfl, fun U hU hW => ⟨rfl, by rw [hU], by rw [hU]; exact hP.sub [13] rfl, va_K.moved hW.alike hK, (hN.sub [13] (by decide) rfl).weaken (fun _ _ => trivial), nx_warm hW hnx⟩⟩ rfl rfl hl.1 rfl (Nat.le_of_ble_eq_true rfl) d_Law_law_377 ⟨by rw [room_c]; omega, by rw [room_s]; omega⟩) hP hN hS hA rfl rfl rfl (fun H locs hP hS => ?_)
  refine lv_istore (lv' := [(6, .int v92), (5, .int v86), (0, .ref b), (1, .ref (a0 0)), (2, .ref (a13 0)), (3, .ref (a14 0)), (4, .int x4)]) hx hb d_Law_law_380 hl (by decide) rfl (fun ls hl => ?_)
  refine lv_aload_n hx hb d_Law_law_382 rfl (lv_at hl 4 rfl) ?_
  obtain ⟨v95, hG94, h⟩ := bind1_some h
  refine bw_callR (va_runV (As := []) (rest := []) ⟨hx, hb, hml, hown, hts⟩ (c_Mod_thrown l ct dC dI a13 _ o_93 v95 hG94) (cwV 0 hts g_Law_83 rfl rfl rfl (by decide +kernel) ⟨Nat.le_of_ble_eq_true rfl, Nat.le_of_ble_eq_true rfl⟩) ⟨bw_blind nx_call, va_recv hK (hP 13 _ rfl) (ci := 6) (q0 := 0) rfl rfl, fun U hU hW => ⟨rfl, by rw [hU], by rw [hU]; exact hP.sub [13] rfl, va_K.moved hW.alike hK, (hN.sub [13] (by decide) rfl).weaken (fun _ _ => trivial), nx_warm hW hnx⟩⟩ rfl rfl hl.1 rfl (Nat.le_of_ble_eq_true rfl) d_Law_law_383 ⟨by rw [room_c]; omega, by rw [room_s]; omega⟩) ?_
  refine lv_iload hx hb d_Law_law_386 (lv_at hl 1 rfl) ?_
  refine lv_icmp_eq (tgt := 393) hx hb d_Law_law_388 (by decide) (fun c96 => ?_) (fun c96 => ?_)
  · have h := ite_t c96 h
    refine lv_iload hx hb d_Law_law_393 (lv_at hl 1 rfl) ?_
    refine lv_if_ne (tgt := 410) hx hb d_Law_law_395 (by decide) (fun c97 => ?_) (fun c97 => ?_)
    · have h := ite_f c97 h
      refine lv_goto (tgt := 1128) hx hb d_Law_law_410 (by decide) ?_
      refine lv_iinc (v := (x4 + (6 : Int32))) (lv' := [(4, .int (x4 + (6 : Int32))), (6, .int v92), (5, .int v86), (0, .ref b), (1, .ref (a0 0)), (2, .ref (a13 0)), (3, .ref (a14 0))]) hx hb d_Law_law_1128 hl (k := 6) rfl rfl (by decide) rfl (fun ls hl => ?_)
      refine lv_goto (tgt := 23) hx hb d_Law_law_1131 (by decide) ?_
      refine W.widen (k := 200 + (it + 1)) (n := 40000 + 6 * (it + 1)) (by omega) (by omega) ?_
      exact hk23 a0 a1 a2 a3 a4 a5 a6 a7 a8 a9 a10 a11 a12 a13 a14 v0 (x4 + (6 : Int32)) o_87 o1 o2 o3 o4 o5 o_89 o_88 o8 o9 o10 o11 o12 o_93 o_90 _ _ _ hN hver hP hS (lv_sub hl [3, 4, 5, 6, 0] rfl) h
    · have h := ite_t c97 h
      refine lv_aload_n hx hb d_Law_law_398 rfl (lv_at hl 5 rfl) ?_
      refine lv_iconst (v := 0) hx hb d_Law_law_399 (by decide) ?_
      obtain ⟨hi98, h⟩ := chk_some h
      refine va_lald (f := g64 o_90 0) hx hb hK (hP 14 _ rfl) 0 1 rfl rfl (inb_in hi98) d_Law_law_400 ?_
      refine lv_iload hx hb d_Law_law_401 (lv_at hl 0 rfl) ?_
      refine lv_i2l (v := (Int32.toInt64 v92)) hx hb d_Law_law_403 rfl ?_
      refine W.lcmp hx hb d_Law_law_404 ?_
      refine lv_if_eq (tgt := 410) hx hb d_Law_law_405 (by decide) (fun c99 => ?_) (fun c99 => ?_)
      · have h := ite_t c99 h
        refine lv_goto (tgt := 1128) hx hb d_Law_law_410 (by decide) ?_
        refine lv_iinc (v := (x4 + (6 : Int32))) (lv' := [(4, .int (x4 + (6 : Int32))), (6, .int v92), (5, .int v86), (0, .ref b), (1, .ref (a0 0)), (2, .ref (a13 0)), (3, .ref (a14 0))]) hx hb d_Law_law_1128 hl (k := 6) rfl rfl (by decide) rfl (fun ls hl => ?_)
        refine lv_goto (tgt := 23) hx hb d_Law_law_1131 (by decide) ?_
        refine W.widen (k := 200 + (it + 1)) (n := 40000 + 6 * (it + 1)) (by omega) (by omega) ?_
        exact hk23 a0 a1 a2 a3 a4 a5 a6 a7 a8 a9 a10 a11 a12 a13 a14 v0 (x4 + (6 : Int32)) o_87 o1 o2 o3 o4 o5 o_89 o_88 o8 o9 o10 o11 o12 o_93 o_90 _ _ _ hN hver hP hS (lv_sub hl [3, 4, 5, 6, 0] rfl) h
      · have h := ite_f c99 h
        refine lv_iconst (v := 0) hx hb d_Law_law_408 (by decide) ?_
        cases h
  · have h := ite_f c96 h
    refine lv_iconst (v := 0) hx hb d_Law_law_391 (by decide) ?_
    cases h
def F_Law_law_413 (L : Nat) (xs : Nat → Int32) (k23 : Int32 → Ob → Ob → Ob → Ob → Ob → Ob → Ob → Ob → Ob → Ob → Ob → Ob → Ob → Ob → Ob → Option Unit) (x4 : Int32) (o0 o1 o2 o3 o4 o5 o6 o7 o8 o9 o10 o11 o12 o13 o14 : Ob) : Option Unit :=
  chk (inb (x4 + (1 : Int32)) L) (chk (inb (x4 + (2 : Int32)) L) (bind2 (F_Law_state (xs (Int32.toNatClampNeg (x4 + (1 : Int32)))) (xs (Int32.toNatClampNeg (x4 + (2 : Int32)))) o0 o7 o14) (fun v103 o_104 => bind2 (F_Mod_state (xs (Int32.toNatClampNeg (x4 + (1 : Int32)))) (xs (Int32.toNatClampNeg (x4 + (2 : Int32)))) o13) (fun v108 o_109 => bind1 (F_Mod_thrown o_109) (fun v111 => if v111 = v103 then (if v103 = 0 then (chk (inb (0 : Int32) 1) (if (lg_cmp (g64 o_104 0 (Int32.toNatClampNeg (0 : Int32))) (Int32.toInt64 v108)) = 0 then (k23 (x4 + (6 : Int32)) o0 o1 o2 o3 o4 o5 o6 o7 o8 o9 o10 o11 o12 o_109 o_104) else (none))) else (k23 (x4 + (6 : Int32)) o0 o1 o2 o3 o4 o5 o6 o7 o8 o9 o10 o11 o12 o_109 o_104)) else (none))))))
set_option maxHeartbeats 8000000 in
set_option maxRecDepth 100000 in
theorem k_Law_law_413 {p : Program} {l : Launch} {e : Env} {s : State} {m : MethodId} {below : List Frame} {meth : Method} {c : Code} {b L : Nat} {xs : Nat → Int32} {A : Nat → Prop} {ct dC : Nat → ClassId} {dI : Nat → Nat → Nat} (C0 : lcx p s m meth c b L xs A ct dC dI) (hl0 : l.stackTraces = false) {it : Nat} (hit : it + 1 ≤ 600) {k23 : Int32 → Ob → Ob → Ob → Ob → Ob → Ob → Ob → Ob → Ob → Ob → Ob → Ob → Ob → Ob → Ob → Option Unit} (hk23 : ∀ (a0 a1 a2 a3 a4 a5 a6 a7 a8 a9 a10 a11 a12 a13 a14 : Nat → Nat) (v0 : Nat → Nat) (x4 : Int32) (o0 o1 o2 o3 o4 o5 o6 o7 o8 o9 o10 o11 o12 o13 o14 : Ob) (H : Heap) (locs : List Loc) (ls : Array Slot), bw_N A [adPF a0, adReader a1, adText a2, adSteps a3, adText a4, adSteps a5, adReckoner a6, adCells a7, adCells a8, adCells a9, adCells a10, adCells a11, adCells a12, adMod a13, adOut a14] → (v0 0 = a9 0 ∧ v0 1 = a10 0 ∧ v0 2 = a11 0 ∧ v0 3 = a12 0) → bw_P (dC, dI) vwCl [wPF ct a0 (a1 0) (a4 0) (a6 0) (a7 0) (a8 0) v0 o0, wReader ct a1 (a2 0) o1, wText ct a2 (a3 0) o2, wSteps ct a3 o3, wText ct a4 (a5 0) o4, wSteps ct a5 o5, wReckoner ct a6 o6, wCells ct a7 o7, wCells ct a8 o8, wCells ct a9 o9, wCells ct a10 o10, wCells ct a11 o11, wCells ct a12 o12, wMod ct a13 o13, wOut ct a14 o14] H → va_S A s.heap H locs → lv_has ls 8 [(0, .ref b), (1, .ref (a0 0)), (2, .ref (a13 0)), (3, .ref (a14 0)), (4, .int x4)] → k23 x4 o0 o1 o2 o3 o4 o5 o6 o7 o8 o9 o10 o11 o12 o13 o14 = some () → W p l e room_1 s m #[Value.ref b] below meth c H locs (200 + (it + 1)) (40000 + 6 * (it + 1)) (lw_Z below #[Value.ref b] s) (F0 m 23 ls [])) : ∀ (a0 a1 a2 a3 a4 a5 a6 a7 a8 a9 a10 a11 a12 a13 a14 : Nat → Nat) (v0 : Nat → Nat) (x4 : Int32) (o0 o1 o2 o3 o4 o5 o6 o7 o8 o9 o10 o11 o12 o13 o14 : Ob) (H : Heap) (locs : List Loc) (ls : Array Slot), bw_N A [adPF a0, adReader a1, adText a2, adSteps a3, adText a4, adSteps a5, adReckoner a6, adCells a7, adCells a8, adCells a9, adCells a10, adCells a11, adCells a12, adMod a13, adOut a14] → (v0 0 = a9 0 ∧ v0 1 = a10 0 ∧ v0 2 = a11 0 ∧ v0 3 = a12 0) → bw_P (dC, dI) vwCl [wPF ct a0 (a1 0) (a4 0) (a6 0) (a7 0) (a8 0) v0 o0, wReader ct a1 (a2 0) o1, wText ct a2 (a3 0) o2, wSteps ct a3 o3, wText ct a4 (a5 0) o4, wSteps ct a5 o5, wReckoner ct a6 o6, wCells ct a7 o7, wCells ct a8 o8, wCells ct a9 o9, wCells ct a10 o10, wCells ct a11 o11, wCells ct a12 o12, wMod ct a13 o13, wOut ct a14 o14] H → va_S A s.heap H locs → lv_has ls 8 [(0, .ref b), (1, .ref (a0 0)), (2, .ref (a13 0)), (3, .ref (a14 0)), (4, .int x4)] → F_Law_law_413 L xs k23 x4 o0 o1 o2 o3 o4 o5 o6 o7 o8 o9 o10 o11 o12 o13 o14 = some () → W p l e room_1 s m #[Value.ref b] below meth c H locs (200 + it) (40000 + 6 * it) (lw_Z below #[Value.ref b] s) (F0 m 413 ls []) := by
  obtain ⟨hx, hb, hr, hml, hown, hlocks, hts, hK, hA, hAs, hX, hbl, hnx, hthy, hex9, hsx⟩ := id C0
  have hbA : ¬ A b := fun z => absurd (hAs b z) (Nat.not_le.mpr hbl)
  intro a0 a1 a2 a3 a4 a5 a6 a7 a8 a9 a10 a11 a12 a13 a14 v0 x4 o0 o1 o2 o3 o4 o5 o6 o7 o8 o9 o10 o11 o12 o13 o14 H locs ls hN hver hP hS hl h
  rw [F_Law_law_413] at h
  refine lv_aload_n hx hb d_Law_law_413 rfl (lv_at hl 1 rfl) ?_
  refine lv_aload_n hx hb d_Law_law_414 rfl (lv_at hl 0 rfl) ?_
  refine lv_iload hx hb d_Law_law_415 (lv_at hl 4 rfl) ?_
  refine lv_iconst (v := 1) hx hb d_Law_law_417 (by decide) ?_
  refine lv_iadd hx hb d_Law_law_418 ?_
  obtain ⟨hi100, h⟩ := chk_some h
  refine va_sld hx hb hX hbl hbA hS (inb_in hi100) d_Law_law_419 ?_
  refine lv_aload_n hx hb d_Law_law_420 rfl (lv_at hl 0 rfl) ?_
  refine lv_iload hx hb d_Law_law_421 (lv_at hl 4 rfl) ?_
  refine lv_iconst (v := 2) hx hb d_Law_law_423 (by decide) ?_
  refine lv_iadd hx hb d_Law_law_424 ?_
  obtain ⟨hi101, h⟩ := chk_some h
  refine va_sld hx hb hX hbl hbA hS (inb_in hi101) d_Law_law_425 ?_
  refine lv_aload_n hx hb d_Law_law_426 rfl (lv_at hl 3 rfl) ?_
  obtain ⟨v103, o_104, hG102, h⟩ := bind2_some h
  refine bw_call (Lc := [wPF ct a0 (a1 0) (a4 0) (a6 0) (a7 0) (a8 0) v0 o0, wCells ct a7 o7, wOut ct a14 o14]) (Lc' := [wPF ct a0 (a1 0) (a4 0) (a6 0) (a7 0) (a8 0) v0 o0, wCells ct a7 o7, wOut ct a14 o_104]) (L' := [wPF ct a0 (a1 0) (a4 0) (a6 0) (a7 0) (a8 0) v0 o0, wReader ct a1 (a2 0) o1, wText ct a2 (a3 0) o2, wSteps ct a3 o3, wText ct a4 (a5 0) o4, wSteps ct a5 o5, wReckoner ct a6 o6, wCells ct a7 o7, wCells ct a8 o8, wCells ct a9 o9, wCells ct a10 o10, wCells ct a11 o11, wCells ct a12 o12, wMod ct a13 o13, wOut ct a14 o_104]) [0, 7, 14] (bt_runSW (As := [.ref (a0 0), .int (xs (Int32.toNatClampNeg (x4 + (1 : Int32)))), .int (xs (Int32.toNatClampNeg (x4 + (2 : Int32)))), .ref (a14 0)]) (rest := []) ⟨hx, hb, hml, hown, hts⟩ (c_Law_state l hl0 ct dC dI a0 a7 a14 (a1 0) (a4 0) (a6 0) (a8 0) v0 _ (xs (Int32.toNatClampNeg (x4 + (1 : Int32)))) (xs (Int32.toNatClampNeg (x4 + (2 : Int32)))) o0 o7 o14 v103 o_104 hG102) (gd_any cd_Law_state) rfl rfl rfl (hts _ ini_Law) (hts _ ml_Law_96) (hts _ st_Law_state) (by decide +kernel) ⟨Nat.le_of_ble_eq_true rfl, Nat.le_of_ble_eq_true rfl⟩ ⟨bw_blind thh_call, fun U hU hW => ⟨rfl, by rw [hU], by rw [hU]; exact hP.sub [0, 7, 14] rfl, va_K.moved hW.alike hK, (hN.sub [0, 7, 14] (by decide) rfl).weaken (fun _ _ => trivial), ⟨nx_warm hW hnx, thy_x hthy hS hAs hW hU, exX.moved hW.alike hex9⟩⟩⟩ rfl rfl hl.1 rfl (Nat.le_of_ble_eq_true rfl) d_Law_law_427 ⟨by rw [room_c]; omega, by rw [room_s]; omega⟩) hP hN hS hA rfl rfl rfl (fun H locs hP hS => ?_)
  refine lv_istore (lv' := [(5, .int v103), (0, .ref b), (1, .ref (a0 0)), (2, .ref (a13 0)), (3, .ref (a14 0)), (4, .int x4)]) hx hb d_Law_law_430 hl (by decide) rfl (fun ls hl => ?_)
  refine lv_aload_n hx hb d_Law_law_432 rfl (lv_at hl 3 rfl) ?_
  refine lv_aload_n hx hb d_Law_law_433 rfl (lv_at hl 1 rfl) ?_
  refine lv_iload hx hb d_Law_law_434 (lv_at hl 5 rfl) ?_
  refine lv_iconst (v := 1) hx hb d_Law_law_436 (by decide) ?_
  refine lv_iadd hx hb d_Law_law_437 ?_
  refine va_sld hx hb hX hbl hbA hS (inb_in hi100) d_Law_law_438 ?_
  refine lv_aload_n hx hb d_Law_law_439 rfl (lv_at hl 1 rfl) ?_
  refine lv_iload hx hb d_Law_law_440 (lv_at hl 5 rfl) ?_
  refine lv_iconst (v := 2) hx hb d_Law_law_442 (by decide) ?_
  refine lv_iadd hx hb d_Law_law_443 ?_
  refine va_sld hx hb hX hbl hbA hS (inb_in hi101) d_Law_law_444 ?_
  obtain ⟨v108, o_109, hG107, h⟩ := bind2_some h
  refine bw_call (Lc := [wMod ct a13 o13]) (Lc' := [wMod ct a13 o_109]) (L' := [wPF ct a0 (a1 0) (a4 0) (a6 0) (a7 0) (a8 0) v0 o0, wReader ct a1 (a2 0) o1, wText ct a2 (a3 0) o2, wSteps ct a3 o3, wText ct a4 (a5 0) o4, wSteps ct a5 o5, wReckoner ct a6 o6, wCells ct a7 o7, wCells ct a8 o8, wCells ct a9 o9, wCells ct a10 o10, wCells ct a11 o11, wCells ct a12 o12, wMod ct a13 o_109, wOut ct a14 o_104]) [13] (va_runV (As := [.int (xs (Int32.toNatClampNeg (x4 + (1 : Int32)))), .int (xs (Int32.toNatClampNeg (x4 + (2 : Int32))))]) (rest := []) ⟨hx, hb, hml, hown, hts⟩ (c_Mod_state l ct dC dI a13 _ (xs (Int32.toNatClampNeg (x4 + (1 : Int32)))) (xs (Int32.toNatClampNeg (x4 + (2 : Int32)))) o13 v108 o_109 hG107) (cwV 2 hts g_Law_99 rfl rfl rfl (by decide +kernel) ⟨Nat.le_of_ble_eq_true rfl, Nat.le_of_ble_eq_true rfl⟩) ⟨bw_blind nx_call, va_recv hK (hP 13 _ rfl) (ci := 6) (q0 := 0) rfl rfl, fun U hU hW => ⟨rfl, by rw [hU], by rw [hU]; exact hP.sub [13] rfl, va_K.moved hW.alike hK, (hN.sub [13] (by decide) rfl).weaken (fun _ _ => trivial), nx_warm hW hnx⟩⟩ rfl rfl hl.1 rfl (Nat.le_of_ble_eq_true rfl) d_Law_law_445 ⟨by rw [room_c]; omega, by rw [room_s]; omega⟩) hP hN hS hA rfl rfl rfl (fun H locs hP hS => ?_)
  refine lv_istore (lv' := [(6, .int v108), (5, .int v103), (0, .ref b), (1, .ref (a0 0)), (2, .ref (a13 0)), (3, .ref (a14 0)), (4, .int x4)]) hx hb d_Law_law_448 hl (by decide) rfl (fun ls hl => ?_)
  refine lv_aload_n hx hb d_Law_law_450 rfl (lv_at hl 4 rfl) ?_
  obtain ⟨v111, hG110, h⟩ := bind1_some h
  refine bw_callR (va_runV (As := []) (rest := []) ⟨hx, hb, hml, hown, hts⟩ (c_Mod_thrown l ct dC dI a13 _ o_109 v111 hG110) (cwV 0 hts g_Law_83 rfl rfl rfl (by decide +kernel) ⟨Nat.le_of_ble_eq_true rfl, Nat.le_of_ble_eq_true rfl⟩) ⟨bw_blind nx_call, va_recv hK (hP 13 _ rfl) (ci := 6) (q0 := 0) rfl rfl, fun U hU hW => ⟨rfl, by rw [hU], by rw [hU]; exact hP.sub [13] rfl, va_K.moved hW.alike hK, (hN.sub [13] (by decide) rfl).weaken (fun _ _ => trivial), nx_warm hW hnx⟩⟩ rfl rfl hl.1 rfl (Nat.le_of_ble_eq_true rfl) d_Law_law_451 ⟨by rw [room_c]; omega, by rw [room_s]; omega⟩) ?_
  refine lv_iload hx hb d_Law_law_454 (lv_at hl 1 rfl) ?_
  refine lv_icmp_eq (tgt := 461) hx hb d_Law_law_456 (by decide) (fun c112 => ?_) (fun c112 => ?_)
  · have h := ite_t c112 h
    refine lv_iload hx hb d_Law_law_461 (lv_at hl 1 rfl) ?_
    refine lv_if_ne (tgt := 478) hx hb d_Law_law_463 (by decide) (fun c113 => ?_) (fun c113 => ?_)
    · have h := ite_f c113 h
      refine lv_goto (tgt := 1128) hx hb d_Law_law_478 (by decide) ?_
      refine lv_iinc (v := (x4 + (6 : Int32))) (lv' := [(4, .int (x4 + (6 : Int32))), (6, .int v108), (5, .int v103), (0, .ref b), (1, .ref (a0 0)), (2, .ref (a13 0)), (3, .ref (a14 0))]) hx hb d_Law_law_1128 hl (k := 6) rfl rfl (by decide) rfl (fun ls hl => ?_)
      refine lv_goto (tgt := 23) hx hb d_Law_law_1131 (by decide) ?_
      refine W.widen (k := 200 + (it + 1)) (n := 40000 + 6 * (it + 1)) (by omega) (by omega) ?_
      exact hk23 a0 a1 a2 a3 a4 a5 a6 a7 a8 a9 a10 a11 a12 a13 a14 v0 (x4 + (6 : Int32)) o0 o1 o2 o3 o4 o5 o6 o7 o8 o9 o10 o11 o12 o_109 o_104 _ _ _ hN hver hP hS (lv_sub hl [3, 4, 5, 6, 0] rfl) h
    · have h := ite_t c113 h
      refine lv_aload_n hx hb d_Law_law_466 rfl (lv_at hl 5 rfl) ?_
      refine lv_iconst (v := 0) hx hb d_Law_law_467 (by decide) ?_
      obtain ⟨hi114, h⟩ := chk_some h
      refine va_lald (f := g64 o_104 0) hx hb hK (hP 14 _ rfl) 0 1 rfl rfl (inb_in hi114) d_Law_law_468 ?_
      refine lv_iload hx hb d_Law_law_469 (lv_at hl 0 rfl) ?_
      refine lv_i2l (v := (Int32.toInt64 v108)) hx hb d_Law_law_471 rfl ?_
      refine W.lcmp hx hb d_Law_law_472 ?_
      refine lv_if_eq (tgt := 478) hx hb d_Law_law_473 (by decide) (fun c115 => ?_) (fun c115 => ?_)
      · have h := ite_t c115 h
        refine lv_goto (tgt := 1128) hx hb d_Law_law_478 (by decide) ?_
        refine lv_iinc (v := (x4 + (6 : Int32))) (lv' := [(4, .int (x4 + (6 : Int32))), (6, .int v108), (5, .int v103), (0, .ref b), (1, .ref (a0 0)), (2, .ref (a13 0)), (3, .ref (a14 0))]) hx hb d_Law_law_1128 hl (k := 6) rfl rfl (by decide) rfl (fun ls hl => ?_)
        refine lv_goto (tgt := 23) hx hb d_Law_law_1131 (by decide) ?_
        refine W.widen (k := 200 + (it + 1)) (n := 40000 + 6 * (it + 1)) (by omega) (by omega) ?_
        exact hk23 a0 a1 a2 a3 a4 a5 a6 a7 a8 a9 a10 a11 a12 a13 a14 v0 (x4 + (6 : Int32)) o0 o1 o2 o3 o4 o5 o6 o7 o8 o9 o10 o11 o12 o_109 o_104 _ _ _ hN hver hP hS (lv_sub hl [3, 4, 5, 6, 0] rfl) h
      · have h := ite_f c115 h
        refine lv_iconst (v := 0) hx hb d_Law_law_476 (by decide) ?_
        cases h
  · have h := ite_f c112 h
    refine lv_iconst (v := 0) hx hb d_Law_law_459 (by decide) ?_
    cases h
def F_Law_law_481 (L : Nat) (xs : Nat → Int32) (k23 : Int32 → Ob → Ob → Ob → Ob → Ob → Ob → Ob → Ob → Ob → Ob → Ob → Ob → Ob → Ob → Ob → Option Unit) (x4 : Int32) (o0 o1 o2 o3 o4 o5 o6 o7 o8 o9 o10 o11 o12 o13 o14 : Ob) : Option Unit :=
  chk (inb (x4 + (1 : Int32)) L) (chk (inb (x4 + (2 : Int32)) L) (chk (inb (x4 + (3 : Int32)) L) (bind2 (F_Law_size (xs (Int32.toNatClampNeg (x4 + (1 : Int32)))) (xs (Int32.toNatClampNeg (x4 + (2 : Int32)))) (xs (Int32.toNatClampNeg (x4 + (3 : Int32)))) o0 o7 o14) (fun v120 o_121 => bind2 (F_Mod_size (xs (Int32.toNatClampNeg (x4 + (1 : Int32)))) (xs (Int32.toNatClampNeg (x4 + (2 : Int32)))) (xs (Int32.toNatClampNeg (x4 + (3 : Int32)))) o13) (fun v126 o_127 => bind1 (F_Mod_thrown o_127) (fun v129 => if v129 = v120 then (if v120 = 0 then (chk (inb (0 : Int32) 1) (if (lg_cmp (g64 o_121 0 (Int32.toNatClampNeg (0 : Int32))) v126) = 0 then (k23 (x4 + (6 : Int32)) o0 o1 o2 o3 o4 o5 o6 o7 o8 o9 o10 o11 o12 o_127 o_121) else (none))) else (k23 (x4 + (6 : Int32)) o0 o1 o2 o3 o4 o5 o6 o7 o8 o9 o10 o11 o12 o_127 o_121)) else (none)))))))
set_option maxHeartbeats 8000000 in
set_option maxRecDepth 100000 in
theorem k_Law_law_481 {p : Program} {l : Launch} {e : Env} {s : State} {m : MethodId} {below : List Frame} {meth : Method} {c : Code} {b L : Nat} {xs : Nat → Int32} {A : Nat → Prop} {ct dC : Nat → ClassId} {dI : Nat → Nat → Nat} (C0 : lcx p s m meth c b L xs A ct dC dI) (hl0 : l.stackTraces = false) {it : Nat} (hit : it + 1 ≤ 600) {k23 : Int32 → Ob → Ob → Ob → Ob → Ob → Ob → Ob → Ob → Ob → Ob → Ob → Ob → Ob → Ob → Ob → Option Unit} (hk23 : ∀ (a0 a1 a2 a3 a4 a5 a6 a7 a8 a9 a10 a11 a12 a13 a14 : Nat → Nat) (v0 : Nat → Nat) (x4 : Int32) (o0 o1 o2 o3 o4 o5 o6 o7 o8 o9 o10 o11 o12 o13 o14 : Ob) (H : Heap) (locs : List Loc) (ls : Array Slot), bw_N A [adPF a0, adReader a1, adText a2, adSteps a3, adText a4, adSteps a5, adReckoner a6, adCells a7, adCells a8, adCells a9, adCells a10, adCells a11, adCells a12, adMod a13, adOut a14] → (v0 0 = a9 0 ∧ v0 1 = a10 0 ∧ v0 2 = a11 0 ∧ v0 3 = a12 0) → bw_P (dC, dI) vwCl [wPF ct a0 (a1 0) (a4 0) (a6 0) (a7 0) (a8 0) v0 o0, wReader ct a1 (a2 0) o1, wText ct a2 (a3 0) o2, wSteps ct a3 o3, wText ct a4 (a5 0) o4, wSteps ct a5 o5, wReckoner ct a6 o6, wCells ct a7 o7, wCells ct a8 o8, wCells ct a9 o9, wCells ct a10 o10, wCells ct a11 o11, wCells ct a12 o12, wMod ct a13 o13, wOut ct a14 o14] H → va_S A s.heap H locs → lv_has ls 8 [(0, .ref b), (1, .ref (a0 0)), (2, .ref (a13 0)), (3, .ref (a14 0)), (4, .int x4)] → k23 x4 o0 o1 o2 o3 o4 o5 o6 o7 o8 o9 o10 o11 o12 o13 o14 = some () → W p l e room_1 s m #[Value.ref b] below meth c H locs (200 + (it + 1)) (40000 + 6 * (it + 1)) (lw_Z below #[Value.ref b] s) (F0 m 23 ls [])) : ∀ (a0 a1 a2 a3 a4 a5 a6 a7 a8 a9 a10 a11 a12 a13 a14 : Nat → Nat) (v0 : Nat → Nat) (x4 : Int32) (o0 o1 o2 o3 o4 o5 o6 o7 o8 o9 o10 o11 o12 o13 o14 : Ob) (H : Heap) (locs : List Loc) (ls : Array Slot), bw_N A [adPF a0, adReader a1, adText a2, adSteps a3, adText a4, adSteps a5, adReckoner a6, adCells a7, adCells a8, adCells a9, adCells a10, adCells a11, adCells a12, adMod a13, adOut a14] → (v0 0 = a9 0 ∧ v0 1 = a10 0 ∧ v0 2 = a11 0 ∧ v0 3 = a12 0) → bw_P (dC, dI) vwCl [wPF ct a0 (a1 0) (a4 0) (a6 0) (a7 0) (a8 0) v0 o0, wReader ct a1 (a2 0) o1, wText ct a2 (a3 0) o2, wSteps ct a3 o3, wText ct a4 (a5 0) o4, wSteps ct a5 o5, wReckoner ct a6 o6, wCells ct a7 o7, wCells ct a8 o8, wCells ct a9 o9, wCells ct a10 o10, wCells ct a11 o11, wCells ct a12 o12, wMod ct a13 o13, wOut ct a14 o14] H → va_S A s.heap H locs → lv_has ls 8 [(0, .ref b), (1, .ref (a0 0)), (2, .ref (a13 0)), (3, .ref (a14 0)), (4, .int x4)] → F_Law_law_481 L xs k23 x4 o0 o1 o2 o3 o4 o5 o6 o7 o8 o9 o10 o11 o12 o13 o14 = some () → W p l e room_1 s m #[Value.ref b] below meth c H locs (200 + it) (40000 + 6 * it) (lw_Z below #[Value.ref b] s) (F0 m 481 ls []) := by
  obtain ⟨hx, hb, hr, hml, hown, hlocks, hts, hK, hA, hAs, hX, hbl, hnx, hthy, hex9, hsx⟩ := id C0
  have hbA : ¬ A b := fun z => absurd (hAs b z) (Nat.not_le.mpr hbl)
  intro a0 a1 a2 a3 a4 a5 a6 a7 a8 a9 a10 a11 a12 a13 a14 v0 x4 o0 o1 o2 o3 o4 o5 o6 o7 o8 o9 o10 o11 o12 o13 o14 H locs ls hN hver hP hS hl h
  rw [F_Law_law_481] at h
  refine lv_aload_n hx hb d_Law_law_481 rfl (lv_at hl 1 rfl) ?_
  refine lv_aload_n hx hb d_Law_law_482 rfl (lv_at hl 0 rfl) ?_
  refine lv_iload hx hb d_Law_law_483 (lv_at hl 4 rfl) ?_
  refine lv_iconst (v := 1) hx hb d_Law_law_485 (by decide) ?_
  refine lv_iadd hx hb d_Law_law_486 ?_
  obtain ⟨hi116, h⟩ := chk_some h
  refine va_sld hx hb hX hbl hbA hS (inb_in hi116) d_Law_law_487 ?_
  refine lv_aload_n hx hb d_Law_law_488 rfl (lv_at hl 0 rfl) ?_
  refine lv_iload hx hb d_Law_law_489 (lv_at hl 4 rfl) ?_
  refine lv_iconst (v := 2) hx hb d_Law_law_491 (by decide) ?_
  refine lv_iadd hx hb d_Law_law_492 ?_
  obtain ⟨hi117, h⟩ := chk_some h
  refine va_sld hx hb hX hbl hbA hS (inb_in hi117) d_Law_law_493 ?_
  refine lv_aload_n hx hb d_Law_law_494 rfl (lv_at hl 0 rfl) ?_
  refine lv_iload hx hb d_Law_law_495 (lv_at hl 4 rfl) ?_
  refine lv_iconst (v := 3) hx hb d_Law_law_497 (by decide) ?_
  refine lv_iadd hx hb d_Law_law_498 ?_
  obtain ⟨hi118, h⟩ := chk_some h
  refine va_sld hx hb hX hbl hbA hS (inb_in hi118) d_Law_law_499 ?_
  refine lv_aload_n hx hb d_Law_law_500 rfl (lv_at hl 3 rfl) ?_
  obtain ⟨v120, o_121, hG119, h⟩ := bind2_some h
  refine bw_call (Lc := [wPF ct a0 (a1 0) (a4 0) (a6 0) (a7 0) (a8 0) v0 o0, wCells ct a7 o7, wOut ct a14 o14]) (Lc' := [wPF ct a0 (a1 0) (a4 0) (a6 0) (a7 0) (a8 0) v0 o0, wCells ct a7 o7, wOut ct a14 o_121]) (L' := [wPF ct a0 (a1 0) (a4 0) (a6 0) (a7 0) (a8 0) v0 o0, wReader ct a1 (a2 0) o1, wText ct a2 (a3 0) o2, wSteps ct a3 o3, wText ct a4 (a5 0) o4, wSteps ct a5 o5, wReckoner ct a6 o6, wCells ct a7 o7, wCells ct a8 o8, wCells ct a9 o9, wCells ct a10 o10, wCells ct a11 o11, wCells ct a12 o12, wMod ct a13 o13, wOut ct a14 o_121]) [0, 7, 14] (bt_runSW (As := [.ref (a0 0), .int (xs (Int32.toNatClampNeg (x4 + (1 : Int32)))), .int (xs (Int32.toNatClampNeg (x4 + (2 : Int32)))), .int (xs (Int32.toNatClampNeg (x4 + (3 : Int32)))), .ref (a14 0)]) (rest := []) ⟨hx, hb, hml, hown, hts⟩ (c_Law_size l hl0 ct dC dI a0 a7 a14 (a1 0) (a4 0) (a6 0) (a8 0) v0 _ (xs (Int32.toNatClampNeg (x4 + (1 : Int32)))) (xs (Int32.toNatClampNeg (x4 + (2 : Int32)))) (xs (Int32.toNatClampNeg (x4 + (3 : Int32)))) o0 o7 o14 v120 o_121 hG119) (gd_any cd_Law_size) rfl rfl rfl (hts _ ini_Law) (hts _ ml_Law_100) (hts _ st_Law_size) (by decide +kernel) ⟨Nat.le_of_ble_eq_true rfl, Nat.le_of_ble_eq_true rfl⟩ ⟨bw_blind thh_call, fun U hU hW => ⟨rfl, by rw [hU], by rw [hU]; exact hP.sub [0, 7, 14] rfl, va_K.moved hW.alike hK, (hN.sub [0, 7, 14] (by decide) rfl).weaken (fun _ _ => trivial), ⟨nx_warm hW hnx, thy_x hthy hS hAs hW hU, exX.moved hW.alike hex9⟩⟩⟩ rfl rfl hl.1 rfl (Nat.le_of_ble_eq_true rfl) d_Law_law_501 ⟨by rw [room_c]; omega, by rw [room_s]; omega⟩) hP hN hS hA rfl rfl rfl (fun H locs hP hS => ?_)
  refine lv_istore (lv' := [(5, .int v120), (0, .ref b), (1, .ref (a0 0)), (2, .ref (a13 0)), (3, .ref (a14 0)), (4, .int x4)]) hx hb d_Law_law_504 hl (by decide) rfl (fun ls hl => ?_)
  refine lv_aload_n hx hb d_Law_law_506 rfl (lv_at hl 3 rfl) ?_
  refine lv_aload_n hx hb d_Law_law_507 rfl (lv_at hl 1 rfl) ?_
  refine lv_iload hx hb d_Law_law_508 (lv_at hl 5 rfl) ?_
  refine lv_iconst (v := 1) hx hb d_Law_law_510 (by decide) ?_
  refine lv_iadd hx hb d_Law_law_511 ?_
  refine va_sld hx hb hX hbl hbA hS (inb_in hi116) d_Law_law_512 ?_
  refine lv_aload_n hx hb d_Law_law_513 rfl (lv_at hl 1 rfl) ?_
  refine lv_iload hx hb d_Law_law_514 (lv_at hl 5 rfl) ?_
  refine lv_iconst (v := 2) hx hb d_Law_law_516 (by decide) ?_
  refine lv_iadd hx hb d_Law_law_517 ?_
  refine va_sld hx hb hX hbl hbA hS (inb_in hi117) d_Law_law_518 ?_
  refine lv_aload_n hx hb d_Law_law_519 rfl (lv_at hl 1 rfl) ?_
  refine lv_iload hx hb d_Law_law_520 (lv_at hl 5 rfl) ?_
  refine lv_iconst (v := 3) hx hb d_Law_law_522 (by decide) ?_
  refine lv_iadd hx hb d_Law_law_523 ?_
  refine va_sld hx hb hX hbl hbA hS (inb_in hi118) d_Law_law_524 ?_
  obtain ⟨v126, o_127, hG125, h⟩ := bind2_some h
  refine bw_call (Lc := [wMod ct a13 o13]) (Lc' := [wMod ct a13 o_127]) (L' := [wPF ct a0 (a1 0) (a4 0) (a6 0) (a7 0) (a8 0) v0 o0, wReader ct a1 (a2 0) o1, wText ct a2 (a3 0) o2, wSteps ct a3 o3, wText ct a4 (a5 0) o4, wSteps ct a5 o5, wReckoner ct a6 o6, wCells ct a7 o7, wCells ct a8 o8, wCells ct a9 o9, wCells ct a10 o10, wCells ct a11 o11, wCells ct a12 o12, wMod ct a13 o_127, wOut ct a14 o_121]) [13] (va_runV (As := [.int (xs (Int32.toNatClampNeg (x4 + (1 : Int32)))), .int (xs (Int32.toNatClampNeg (x4 + (2 : Int32)))), .int (xs (Int32.toNatClampNeg (x4 + (3 : Int32))))]) (rest := []) ⟨hx, hb, hml, hown, hts⟩ (c_Mod_size l ct dC dI a13 _ (xs (Int32.toNatClampNeg (x4 + (1 : Int32)))) (xs (Int32.toNatClampNeg (x4 + (2 : Int32)))) (xs (Int32.toNatClampNeg (x4 + (3 : Int32)))) o13 v126 o_127 hG125) (cwV 3 hts g_Law_103 rfl rfl rfl (by decide +kernel) ⟨Nat.le_of_ble_eq_true rfl, Nat.le_of_ble_eq_true rfl⟩) ⟨bw_blind nx_call, va_recv hK (hP 13 _ rfl) (ci := 6) (q0 := 0) rfl rfl, fun U hU hW => ⟨rfl, by rw [hU], by rw [hU]; exact hP.sub [13] rfl, va_K.moved hW.alike hK, (hN.sub [13] (by decide) rfl).weaken (fun _ _ => trivial), nx_warm hW hnx⟩⟩ rfl rfl hl.1 rfl (Nat.le_of_ble_eq_true rfl) d_Law_law_525 ⟨by rw [room_c]; omega, by rw [room_s]; omega⟩) hP hN hS hA rfl rfl rfl (fun H locs hP hS => ?_)
  refine lv_lstore (lv' := [(6, .long v126), (5, .int v120), (0, .ref b), (1, .ref (a0 0)), (2, .ref (a13 0)), (3, .ref (a14 0)), (4, .int x4)]) hx hb d_Law_law_528 hl (by decide) rfl (fun ls hl => ?_)
  refine lv_aload_n hx hb d_Law_law_530 rfl (lv_at hl 4 rfl) ?_
  obtain ⟨v129, hG128, h⟩ := bind1_some h
  refine bw_callR (va_runV (As := []) (rest := []) ⟨hx, hb, hml, hown, hts⟩ (c_Mod_thrown l ct dC dI a13 _ o_127 v129 hG128) (cwV 0 hts g_Law_83 rfl rfl rfl (by decide +kernel) ⟨Nat.le_of_ble_eq_true rfl, Nat.le_of_ble_eq_true rfl⟩) ⟨bw_blind nx_call, va_recv hK (hP 13 _ rfl) (ci := 6) (q0 := 0) rfl rfl, fun U hU hW => ⟨rfl, by rw [hU], by rw [hU]; exact hP.sub [13] rfl, va_K.moved hW.alike hK, (hN.sub [13] (by decide) rfl).weaken (fun _ _ => trivial), nx_warm hW hnx⟩⟩ rfl rfl hl.1 rfl (Nat.le_of_ble_eq_true rfl) d_Law_law_531 ⟨by rw [room_c]; omega, by rw [room_s]; omega⟩) ?_
  refine lv_iload hx hb d_Law_law_534 (lv_at hl 1 rfl) ?_
  refine lv_icmp_eq (tgt := 541) hx hb d_Law_law_536 (by decide) (fun c130 => ?_) (fun c130 => ?_)
  · have h := ite_t c130 h
    refine lv_iload hx hb d_Law_law_541 (lv_at hl 1 rfl) ?_
    refine lv_if_ne (tgt := 557) hx hb d_Law_law_543 (by decide) (fun c131 => ?_) (fun c131 => ?_)
    · have h := ite_f c131 h
      refine lv_goto (tgt := 1128) hx hb d_Law_law_557 (by decide) ?_
      refine lv_iinc (v := (x4 + (6 : Int32))) (lv' := [(4, .int (x4 + (6 : Int32))), (6, .long v126), (5, .int v120), (0, .ref b), (1, .ref (a0 0)), (2, .ref (a13 0)), (3, .ref (a14 0))]) hx hb d_Law_law_1128 hl (k := 6) rfl rfl (by decide) rfl (fun ls hl => ?_)
      refine lv_goto (tgt := 23) hx hb d_Law_law_1131 (by decide) ?_
      refine W.widen (k := 200 + (it + 1)) (n := 40000 + 6 * (it + 1)) (by omega) (by omega) ?_
      exact hk23 a0 a1 a2 a3 a4 a5 a6 a7 a8 a9 a10 a11 a12 a13 a14 v0 (x4 + (6 : Int32)) o0 o1 o2 o3 o4 o5 o6 o7 o8 o9 o10 o11 o12 o_127 o_121 _ _ _ hN hver hP hS (lv_sub hl [3, 4, 5, 6, 0] rfl) h
    · have h := ite_t c131 h
      refine lv_aload_n hx hb d_Law_law_546 rfl (lv_at hl 5 rfl) ?_
      refine lv_iconst (v := 0) hx hb d_Law_law_547 (by decide) ?_
      obtain ⟨hi132, h⟩ := chk_some h
      refine va_lald (f := g64 o_121 0) hx hb hK (hP 14 _ rfl) 0 1 rfl rfl (inb_in hi132) d_Law_law_548 ?_
      refine lv_lload hx hb d_Law_law_549 (lv_at hl 0 rfl) ?_
      refine W.lcmp hx hb d_Law_law_551 ?_
      refine lv_if_eq (tgt := 557) hx hb d_Law_law_552 (by decide) (fun c133 => ?_) (fun c133 => ?_)
      · have h := ite_t c133 h
        refine lv_goto (tgt := 1128) hx hb d_Law_law_557 (by decide) ?_
        refine lv_iinc (v := (x4 + (6 : Int32))) (lv' := [(4, .int (x4 + (6 : Int32))), (6, .long v126), (5, .int v120), (0, .ref b), (1, .ref (a0 0)), (2, .ref (a13 0)), (3, .ref (a14 0))]) hx hb d_Law_law_1128 hl (k := 6) rfl rfl (by decide) rfl (fun ls hl => ?_)
        refine lv_goto (tgt := 23) hx hb d_Law_law_1131 (by decide) ?_
        refine W.widen (k := 200 + (it + 1)) (n := 40000 + 6 * (it + 1)) (by omega) (by omega) ?_
        exact hk23 a0 a1 a2 a3 a4 a5 a6 a7 a8 a9 a10 a11 a12 a13 a14 v0 (x4 + (6 : Int32)) o0 o1 o2 o3 o4 o5 o6 o7 o8 o9 o10 o11 o12 o_127 o_121 _ _ _ hN hver hP hS (lv_sub hl [3, 4, 5, 6, 0] rfl) h
      · have h := ite_f c133 h
        refine lv_iconst (v := 0) hx hb d_Law_law_555 (by decide) ?_
        cases h
  · have h := ite_f c130 h
    refine lv_iconst (v := 0) hx hb d_Law_law_539 (by decide) ?_
    cases h
def F_Law_law_560 (L : Nat) (xs : Nat → Int32) (k23 : Int32 → Ob → Ob → Ob → Ob → Ob → Ob → Ob → Ob → Ob → Ob → Ob → Ob → Ob → Ob → Ob → Option Unit) (x4 : Int32) (o0 o1 o2 o3 o4 o5 o6 o7 o8 o9 o10 o11 o12 o13 o14 : Ob) : Option Unit :=
  chk (inb (x4 + (1 : Int32)) L) (bind2 (F_Law_ring (xs (Int32.toNatClampNeg (x4 + (1 : Int32)))) o0 o4 o14) (fun v136 o_137 => bind2 (F_Mod_ring (xs (Int32.toNatClampNeg (x4 + (1 : Int32)))) o13) (fun v140 o_141 => bind1 (F_Mod_thrown o_141) (fun v143 => if v143 = v136 then (if v136 = 0 then (chk (inb (0 : Int32) 1) (if (lg_cmp (g64 o_137 0 (Int32.toNatClampNeg (0 : Int32))) (Int32.toInt64 v140)) = 0 then (k23 (x4 + (6 : Int32)) o0 o1 o2 o3 o4 o5 o6 o7 o8 o9 o10 o11 o12 o_141 o_137) else (none))) else (k23 (x4 + (6 : Int32)) o0 o1 o2 o3 o4 o5 o6 o7 o8 o9 o10 o11 o12 o_141 o_137)) else (none)))))
set_option maxHeartbeats 8000000 in
set_option maxRecDepth 100000 in
theorem k_Law_law_560 {p : Program} {l : Launch} {e : Env} {s : State} {m : MethodId} {below : List Frame} {meth : Method} {c : Code} {b L : Nat} {xs : Nat → Int32} {A : Nat → Prop} {ct dC : Nat → ClassId} {dI : Nat → Nat → Nat} (C0 : lcx p s m meth c b L xs A ct dC dI) (hl0 : l.stackTraces = false) {it : Nat} (hit : it + 1 ≤ 600) {k23 : Int32 → Ob → Ob → Ob → Ob → Ob → Ob → Ob → Ob → Ob → Ob → Ob → Ob → Ob → Ob → Ob → Option Unit} (hk23 : ∀ (a0 a1 a2 a3 a4 a5 a6 a7 a8 a9 a10 a11 a12 a13 a14 : Nat → Nat) (v0 : Nat → Nat) (x4 : Int32) (o0 o1 o2 o3 o4 o5 o6 o7 o8 o9 o10 o11 o12 o13 o14 : Ob) (H : Heap) (locs : List Loc) (ls : Array Slot), bw_N A [adPF a0, adReader a1, adText a2, adSteps a3, adText a4, adSteps a5, adReckoner a6, adCells a7, adCells a8, adCells a9, adCells a10, adCells a11, adCells a12, adMod a13, adOut a14] → (v0 0 = a9 0 ∧ v0 1 = a10 0 ∧ v0 2 = a11 0 ∧ v0 3 = a12 0) → bw_P (dC, dI) vwCl [wPF ct a0 (a1 0) (a4 0) (a6 0) (a7 0) (a8 0) v0 o0, wReader ct a1 (a2 0) o1, wText ct a2 (a3 0) o2, wSteps ct a3 o3, wText ct a4 (a5 0) o4, wSteps ct a5 o5, wReckoner ct a6 o6, wCells ct a7 o7, wCells ct a8 o8, wCells ct a9 o9, wCells ct a10 o10, wCells ct a11 o11, wCells ct a12 o12, wMod ct a13 o13, wOut ct a14 o14] H → va_S A s.heap H locs → lv_has ls 8 [(0, .ref b), (1, .ref (a0 0)), (2, .ref (a13 0)), (3, .ref (a14 0)), (4, .int x4)] → k23 x4 o0 o1 o2 o3 o4 o5 o6 o7 o8 o9 o10 o11 o12 o13 o14 = some () → W p l e room_1 s m #[Value.ref b] below meth c H locs (200 + (it + 1)) (40000 + 6 * (it + 1)) (lw_Z below #[Value.ref b] s) (F0 m 23 ls [])) : ∀ (a0 a1 a2 a3 a4 a5 a6 a7 a8 a9 a10 a11 a12 a13 a14 : Nat → Nat) (v0 : Nat → Nat) (x4 : Int32) (o0 o1 o2 o3 o4 o5 o6 o7 o8 o9 o10 o11 o12 o13 o14 : Ob) (H : Heap) (locs : List Loc) (ls : Array Slot), bw_N A [adPF a0, adReader a1, adText a2, adSteps a3, adText a4, adSteps a5, adReckoner a6, adCells a7, adCells a8, adCells a9, adCells a10, adCells a11, adCells a12, adMod a13, adOut a14] → (v0 0 = a9 0 ∧ v0 1 = a10 0 ∧ v0 2 = a11 0 ∧ v0 3 = a12 0) → bw_P (dC, dI) vwCl [wPF ct a0 (a1 0) (a4 0) (a6 0) (a7 0) (a8 0) v0 o0, wReader ct a1 (a2 0) o1, wText ct a2 (a3 0) o2, wSteps ct a3 o3, wText ct a4 (a5 0) o4, wSteps ct a5 o5, wReckoner ct a6 o6, wCells ct a7 o7, wCells ct a8 o8, wCells ct a9 o9, wCells ct a10 o10, wCells ct a11 o11, wCells ct a12 o12, wMod ct a13 o13, wOut ct a14 o14] H → va_S A s.heap H locs → lv_has ls 8 [(0, .ref b), (1, .ref (a0 0)), (2, .ref (a13 0)), (3, .ref (a14 0)), (4, .int x4)] → F_Law_law_560 L xs k23 x4 o0 o1 o2 o3 o4 o5 o6 o7 o8 o9 o10 o11 o12 o13 o14 = some () → W p l e room_1 s m #[Value.ref b] below meth c H locs (200 + it) (40000 + 6 * it) (lw_Z below #[Value.ref b] s) (F0 m 560 ls []) := by
  obtain ⟨hx, hb, hr, hml, hown, hlocks, hts, hK, hA, hAs, hX, hbl, hnx, hthy, hex9, hsx⟩ := id C0
  have hbA : ¬ A b := fun z => absurd (hAs b z) (Nat.not_le.mpr hbl)
  intro a0 a1 a2 a3 a4 a5 a6 a7 a8 a9 a10 a11 a12 a13 a14 v0 x4 o0 o1 o2 o3 o4 o5 o6 o7 o8 o9 o10 o11 o12 o13 o14 H locs ls hN hver hP hS hl h
  rw [F_Law_law_560] at h
  refine lv_aload_n hx hb d_Law_law_560 rfl (lv_at hl 1 rfl) ?_
  refine lv_aload_n hx hb d_Law_law_561 rfl (lv_at hl 0 rfl) ?_
  refine lv_iload hx hb d_Law_law_562 (lv_at hl 4 rfl) ?_
  refine lv_iconst (v := 1) hx hb d_Law_law_564 (by decide) ?_
  refine lv_iadd hx hb d_Law_law_565 ?_
  obtain ⟨hi134, h⟩ := chk_some h
  refine va_sld hx hb hX hbl hbA hS (inb_in hi134) d_Law_law_566 ?_
  refine lv_aload_n hx hb d_Law_law_567 rfl (lv_at hl 3 rfl) ?_
  obtain ⟨v136, o_137, hG135, h⟩ := bind2_some h
  refine bw_call (Lc := [wPF ct a0 (a1 0) (a4 0) (a6 0) (a7 0) (a8 0) v0 o0, wText ct a4 (a5 0) o4, wOut ct a14 o14]) (Lc' := [wPF ct a0 (a1 0) (a4 0) (a6 0) (a7 0) (a8 0) v0 o0, wText ct a4 (a5 0) o4, wOut ct a14 o_137]) (L' := [wPF ct a0 (a1 0) (a4 0) (a6 0) (a7 0) (a8 0) v0 o0, wReader ct a1 (a2 0) o1, wText ct a2 (a3 0) o2, wSteps ct a3 o3, wText ct a4 (a5 0) o4, wSteps ct a5 o5, wReckoner ct a6 o6, wCells ct a7 o7, wCells ct a8 o8, wCells ct a9 o9, wCells ct a10 o10, wCells ct a11 o11, wCells ct a12 o12, wMod ct a13 o13, wOut ct a14 o_137]) [0, 4, 14] (bt_runSW (As := [.ref (a0 0), .int (xs (Int32.toNatClampNeg (x4 + (1 : Int32)))), .ref (a14 0)]) (rest := []) ⟨hx, hb, hml, hown, hts⟩ (c_Law_ring l hl0 ct dC dI a0 a4 a14 (a1 0) (a6 0) (a7 0) (a8 0) v0 (a5 0) _ (xs (Int32.toNatClampNeg (x4 + (1 : Int32)))) o0 o4 o14 v136 o_137 hG135) (gd_any cd_Law_ring) rfl rfl rfl (hts _ ini_Law) (hts _ ml_Law_104) (hts _ st_Law_ring) (by decide +kernel) ⟨Nat.le_of_ble_eq_true rfl, Nat.le_of_ble_eq_true rfl⟩ ⟨bw_blind thh_call, fun U hU hW => ⟨rfl, by rw [hU], by rw [hU]; exact hP.sub [0, 4, 14] rfl, va_K.moved hW.alike hK, (hN.sub [0, 4, 14] (by decide) rfl).weaken (fun _ _ => trivial), ⟨nx_warm hW hnx, thy_x hthy hS hAs hW hU, exX.moved hW.alike hex9⟩⟩⟩ rfl rfl hl.1 rfl (Nat.le_of_ble_eq_true rfl) d_Law_law_568 ⟨by rw [room_c]; omega, by rw [room_s]; omega⟩) hP hN hS hA rfl rfl rfl (fun H locs hP hS => ?_)
  refine lv_istore (lv' := [(5, .int v136), (0, .ref b), (1, .ref (a0 0)), (2, .ref (a13 0)), (3, .ref (a14 0)), (4, .int x4)]) hx hb d_Law_law_571 hl (by decide) rfl (fun ls hl => ?_)
  refine lv_aload_n hx hb d_Law_law_573 rfl (lv_at hl 3 rfl) ?_
  refine lv_aload_n hx hb d_Law_law_574 rfl (lv_at hl 1 rfl) ?_
  refine lv_iload hx hb d_Law_law_575 (lv_at hl 5 rfl) ?_
  refine lv_iconst (v := 1) hx hb d_Law_law_577 (by decide) ?_
  refine lv_iadd hx hb d_Law_law_578 ?_
  refine va_sld hx hb hX hbl hbA hS (inb_in hi134) d_Law_law_579 ?_
  obtain ⟨v140, o_141, hG139, h⟩ := bind2_some h
  refine bw_call (Lc := [wMod ct a13 o13]) (Lc' := [wMod ct a13 o_141]) (L' := [wPF ct a0 (a1 0) (a4 0) (a6 0) (a7 0) (a8 0) v0 o0, wReader ct a1 (a2 0) o1, wText ct a2 (a3 0) o2, wSteps ct a3 o3, wText ct a4 (a5 0) o4, wSteps ct a5 o5, wReckoner ct a6 o6, wCells ct a7 o7, wCells ct a8 o8, wCells ct a9 o9, wCells ct a10 o10, wCells ct a11 o11, wCells ct a12 o12, wMod ct a13 o_141, wOut ct a14 o_137]) [13] (va_runV (As := [.int (xs (Int32.toNatClampNeg (x4 + (1 : Int32))))]) (rest := []) ⟨hx, hb, hml, hown, hts⟩ (c_Mod_ring l ct dC dI a13 _ (xs (Int32.toNatClampNeg (x4 + (1 : Int32)))) o13 v140 o_141 hG139) (cwV 1 hts g_Law_106 rfl rfl rfl (by decide +kernel) ⟨Nat.le_of_ble_eq_true rfl, Nat.le_of_ble_eq_true rfl⟩) ⟨bw_blind nx_call, va_recv hK (hP 13 _ rfl) (ci := 6) (q0 := 0) rfl rfl, fun U hU hW => ⟨rfl, by rw [hU], by rw [hU]; exact hP.sub [13] rfl, va_K.moved hW.alike hK, (hN.sub [13] (by decide) rfl).weaken (fun _ _ => trivial), nx_warm hW hnx⟩⟩ rfl rfl hl.1 rfl (Nat.le_of_ble_eq_true rfl) d_Law_law_580 ⟨by rw [room_c]; omega, by rw [room_s]; omega⟩) hP hN hS hA rfl rfl rfl (fun H locs hP hS => ?_)
  refine lv_istore (lv' := [(6, .int v140), (5, .int v136), (0, .ref b), (1, .ref (a0 0)), (2, .ref (a13 0)), (3, .ref (a14 0)), (4, .int x4)]) hx hb d_Law_law_583 hl (by decide) rfl (fun ls hl => ?_)
  refine lv_aload_n hx hb d_Law_law_585 rfl (lv_at hl 4 rfl) ?_
  obtain ⟨v143, hG142, h⟩ := bind1_some h
  refine bw_callR (va_runV (As := []) (rest := []) ⟨hx, hb, hml, hown, hts⟩ (c_Mod_thrown l ct dC dI a13 _ o_141 v143 hG142) (cwV 0 hts g_Law_83 rfl rfl rfl (by decide +kernel) ⟨Nat.le_of_ble_eq_true rfl, Nat.le_of_ble_eq_true rfl⟩) ⟨bw_blind nx_call, va_recv hK (hP 13 _ rfl) (ci := 6) (q0 := 0) rfl rfl, fun U hU hW => ⟨rfl, by rw [hU], by rw [hU]; exact hP.sub [13] rfl, va_K.moved hW.alike hK, (hN.sub [13] (by decide) rfl).weaken (fun _ _ => trivial), nx_warm hW hnx⟩⟩ rfl rfl hl.1 rfl (Nat.le_of_ble_eq_true rfl) d_Law_law_586 ⟨by rw [room_c]; omega, by rw [room_s]; omega⟩) ?_
  refine lv_iload hx hb d_Law_law_589 (lv_at hl 1 rfl) ?_
  refine lv_icmp_eq (tgt := 596) hx hb d_Law_law_591 (by decide) (fun c144 => ?_) (fun c144 => ?_)
  · have h := ite_t c144 h
    refine lv_iload hx hb d_Law_law_596 (lv_at hl 1 rfl) ?_
    refine lv_if_ne (tgt := 613) hx hb d_Law_law_598 (by decide) (fun c145 => ?_) (fun c145 => ?_)
    · have h := ite_f c145 h
      refine lv_goto (tgt := 1128) hx hb d_Law_law_613 (by decide) ?_
      refine lv_iinc (v := (x4 + (6 : Int32))) (lv' := [(4, .int (x4 + (6 : Int32))), (6, .int v140), (5, .int v136), (0, .ref b), (1, .ref (a0 0)), (2, .ref (a13 0)), (3, .ref (a14 0))]) hx hb d_Law_law_1128 hl (k := 6) rfl rfl (by decide) rfl (fun ls hl => ?_)
      refine lv_goto (tgt := 23) hx hb d_Law_law_1131 (by decide) ?_
      refine W.widen (k := 200 + (it + 1)) (n := 40000 + 6 * (it + 1)) (by omega) (by omega) ?_
      exact hk23 a0 a1 a2 a3 a4 a5 a6 a7 a8 a9 a10 a11 a12 a13 a14 v0 (x4 + (6 : Int32)) o0 o1 o2 o3 o4 o5 o6 o7 o8 o9 o10 o11 o12 o_141 o_137 _ _ _ hN hver hP hS (lv_sub hl [3, 4, 5, 6, 0] rfl) h
    · have h := ite_t c145 h
      refine lv_aload_n hx hb d_Law_law_601 rfl (lv_at hl 5 rfl) ?_
      refine lv_iconst (v := 0) hx hb d_Law_law_602 (by decide) ?_
      obtain ⟨hi146, h⟩ := chk_some h
      refine va_lald (f := g64 o_137 0) hx hb hK (hP 14 _ rfl) 0 1 rfl rfl (inb_in hi146) d_Law_law_603 ?_
      refine lv_iload hx hb d_Law_law_604 (lv_at hl 0 rfl) ?_
      refine lv_i2l (v := (Int32.toInt64 v140)) hx hb d_Law_law_606 rfl ?_
      refine W.lcmp hx hb d_Law_law_607 ?_
      refine lv_if_eq (tgt := 613) hx hb d_Law_law_608 (by decide) (fun c147 => ?_) (fun c147 => ?_)
      · have h := ite_t c147 h
        refine lv_goto (tgt := 1128) hx hb d_Law_law_613 (by decide) ?_
        refine lv_iinc (v := (x4 + (6 : Int32))) (lv' := [(4, .int (x4 + (6 : Int32))), (6, .int v140), (5, .int v136), (0, .ref b), (1, .ref (a0 0)), (2, .ref (a13 0)), (3, .ref (a14 0))]) hx hb d_Law_law_1128 hl (k := 6) rfl rfl (by decide) rfl (fun ls hl => ?_)
        refine lv_goto (tgt := 23) hx hb d_Law_law_1131 (by decide) ?_
        refine W.widen (k := 200 + (it + 1)) (n := 40000 + 6 * (it + 1)) (by omega) (by omega) ?_
        exact hk23 a0 a1 a2 a3 a4 a5 a6 a7 a8 a9 a10 a11 a12 a13 a14 v0 (x4 + (6 : Int32)) o0 o1 o2 o3 o4 o5 o6 o7 o8 o9 o10 o11 o12 o_141 o_137 _ _ _ hN hver hP hS (lv_sub hl [3, 4, 5, 6, 0] rfl) h
      · have h := ite_f c147 h
        refine lv_iconst (v := 0) hx hb d_Law_law_611 (by decide) ?_
        cases h
  · have h := ite_f c144 h
    refine lv_iconst (v := 0) hx hb d_Law_law_594 (by decide) ?_
    cases h
def F_Law_law_616 (L : Nat) (xs : Nat → Int32) (k23 : Int32 → Ob → Ob → Ob → Ob → Ob → Ob → Ob → Ob → Ob → Ob → Ob → Ob → Ob → Ob → Ob → Option Unit) (x4 : Int32) (o0 o1 o2 o3 o4 o5 o6 o7 o8 o9 o10 o11 o12 o13 o14 : Ob) : Option Unit :=
  chk (inb (x4 + (1 : Int32)) L) (chk (inb (x4 + (2 : Int32)) L) (bind2 (F_Law_condition (xs (Int32.toNatClampNeg (x4 + (1 : Int32)))) (xs (Int32.toNatClampNeg (x4 + (2 : Int32)))) o0 o7 o14) (fun v151 o_152 => bind2 (F_Mod_condition (xs (Int32.toNatClampNeg (x4 + (1 : Int32)))) (xs (Int32.toNatClampNeg (x4 + (2 : Int32)))) o13) (fun v156 o_157 => bind1 (F_Mod_thrown o_157) (fun v159 => if v159 = v151 then (if v151 = 0 then (chk (inb (0 : Int32) 1) (if (lg_cmp (g64 o_152 0 (Int32.toNatClampNeg (0 : Int32))) (Int32.toInt64 v156)) = 0 then (k23 (x4 + (6 : Int32)) o0 o1 o2 o3 o4 o5 o6 o7 o8 o9 o10 o11 o12 o_157 o_152) else (none))) else (k23 (x4 + (6 : Int32)) o0 o1 o2 o3 o4 o5 o6 o7 o8 o9 o10 o11 o12 o_157 o_152)) else (none))))))
set_option maxHeartbeats 8000000 in
set_option maxRecDepth 100000 in
theorem k_Law_law_616 {p : Program} {l : Launch} {e : Env} {s : State} {m : MethodId} {below : List Frame} {meth : Method} {c : Code} {b L : Nat} {xs : Nat → Int32} {A : Nat → Prop} {ct dC : Nat → ClassId} {dI : Nat → Nat → Nat} (C0 : lcx p s m meth c b L xs A ct dC dI) (hl0 : l.stackTraces = false) {it : Nat} (hit : it + 1 ≤ 600) {k23 : Int32 → Ob → Ob → Ob → Ob → Ob → Ob → Ob → Ob → Ob → Ob → Ob → Ob → Ob → Ob → Ob → Option Unit} (hk23 : ∀ (a0 a1 a2 a3 a4 a5 a6 a7 a8 a9 a10 a11 a12 a13 a14 : Nat → Nat) (v0 : Nat → Nat) (x4 : Int32) (o0 o1 o2 o3 o4 o5 o6 o7 o8 o9 o10 o11 o12 o13 o14 : Ob) (H : Heap) (locs : List Loc) (ls : Array Slot), bw_N A [adPF a0, adReader a1, adText a2, adSteps a3, adText a4, adSteps a5, adReckoner a6, adCells a7, adCells a8, adCells a9, adCells a10, adCells a11, adCells a12, adMod a13, adOut a14] → (v0 0 = a9 0 ∧ v0 1 = a10 0 ∧ v0 2 = a11 0 ∧ v0 3 = a12 0) → bw_P (dC, dI) vwCl [wPF ct a0 (a1 0) (a4 0) (a6 0) (a7 0) (a8 0) v0 o0, wReader ct a1 (a2 0) o1, wText ct a2 (a3 0) o2, wSteps ct a3 o3, wText ct a4 (a5 0) o4, wSteps ct a5 o5, wReckoner ct a6 o6, wCells ct a7 o7, wCells ct a8 o8, wCells ct a9 o9, wCells ct a10 o10, wCells ct a11 o11, wCells ct a12 o12, wMod ct a13 o13, wOut ct a14 o14] H → va_S A s.heap H locs → lv_has ls 8 [(0, .ref b), (1, .ref (a0 0)), (2, .ref (a13 0)), (3, .ref (a14 0)), (4, .int x4)] → k23 x4 o0 o1 o2 o3 o4 o5 o6 o7 o8 o9 o10 o11 o12 o13 o14 = some () → W p l e room_1 s m #[Value.ref b] below meth c H locs (200 + (it + 1)) (40000 + 6 * (it + 1)) (lw_Z below #[Value.ref b] s) (F0 m 23 ls [])) : ∀ (a0 a1 a2 a3 a4 a5 a6 a7 a8 a9 a10 a11 a12 a13 a14 : Nat → Nat) (v0 : Nat → Nat) (x4 : Int32) (o0 o1 o2 o3 o4 o5 o6 o7 o8 o9 o10 o11 o12 o13 o14 : Ob) (H : Heap) (locs : List Loc) (ls : Array Slot), bw_N A [adPF a0, adReader a1, adText a2, adSteps a3, adText a4, adSteps a5, adReckoner a6, adCells a7, adCells a8, adCells a9, adCells a10, adCells a11, adCells a12, adMod a13, adOut a14] → (v0 0 = a9 0 ∧ v0 1 = a10 0 ∧ v0 2 = a11 0 ∧ v0 3 = a12 0) → bw_P (dC, dI) vwCl [wPF ct a0 (a1 0) (a4 0) (a6 0) (a7 0) (a8 0) v0 o0, wReader ct a1 (a2 0) o1, wText ct a2 (a3 0) o2, wSteps ct a3 o3, wText ct a4 (a5 0) o4, wSteps ct a5 o5, wReckoner ct a6 o6, wCells ct a7 o7, wCells ct a8 o8, wCells ct a9 o9, wCells ct a10 o10, wCells ct a11 o11, wCells ct a12 o12, wMod ct a13 o13, wOut ct a14 o14] H → va_S A s.heap H locs → lv_has ls 8 [(0, .ref b), (1, .ref (a0 0)), (2, .ref (a13 0)), (3, .ref (a14 0)), (4, .int x4)] → F_Law_law_616 L xs k23 x4 o0 o1 o2 o3 o4 o5 o6 o7 o8 o9 o10 o11 o12 o13 o14 = some () → W p l e room_1 s m #[Value.ref b] below meth c H locs (200 + it) (40000 + 6 * it) (lw_Z below #[Value.ref b] s) (F0 m 616 ls []) := by
  obtain ⟨hx, hb, hr, hml, hown, hlocks, hts, hK, hA, hAs, hX, hbl, hnx, hthy, hex9, hsx⟩ := id C0
  have hbA : ¬ A b := fun z => absurd (hAs b z) (Nat.not_le.mpr hbl)
  intro a0 a1 a2 a3 a4 a5 a6 a7 a8 a9 a10 a11 a12 a13 a14 v0 x4 o0 o1 o2 o3 o4 o5 o6 o7 o8 o9 o10 o11 o12 o13 o14 H locs ls hN hver hP hS hl h
  rw [F_Law_law_616] at h
  refine lv_aload_n hx hb d_Law_law_616 rfl (lv_at hl 1 rfl) ?_
  refine lv_aload_n hx hb d_Law_law_617 rfl (lv_at hl 0 rfl) ?_
  refine lv_iload hx hb d_Law_law_618 (lv_at hl 4 rfl) ?_
  refine lv_iconst (v := 1) hx hb d_Law_law_620 (by decide) ?_
  refine lv_iadd hx hb d_Law_law_621 ?_
  obtain ⟨hi148, h⟩ := chk_some h
  refine va_sld hx hb hX hbl hbA hS (inb_in hi148) d_Law_law_622 ?_
  refine lv_aload_n hx hb d_Law_law_623 rfl (lv_at hl 0 rfl) ?_
  refine lv_iload hx hb d_Law_law_624 (lv_at hl 4 rfl) ?_
  refine lv_iconst (v := 2) hx hb d_Law_law_626 (by decide) ?_
  refine lv_iadd hx hb d_Law_law_627 ?_
  obtain ⟨hi149, h⟩ := chk_some h
  refine va_sld hx hb hX hbl hbA hS (inb_in hi149) d_Law_law_628 ?_
  refine lv_aload_n hx hb d_Law_law_629 rfl (lv_at hl 3 rfl) ?_
  obtain ⟨v151, o_152, hG150, h⟩ := bind2_some h
  refine bw_call (Lc := [wPF ct a0 (a1 0) (a4 0) (a6 0) (a7 0) (a8 0) v0 o0, wCells ct a7 o7, wOut ct a14 o14]) (Lc' := [wPF ct a0 (a1 0) (a4 0) (a6 0) (a7 0) (a8 0) v0 o0, wCells ct a7 o7, wOut ct a14 o_152]) (L' := [wPF ct a0 (a1 0) (a4 0) (a6 0) (a7 0) (a8 0) v0 o0, wReader ct a1 (a2 0) o1, wText ct a2 (a3 0) o2, wSteps ct a3 o3, wText ct a4 (a5 0) o4, wSteps ct a5 o5, wReckoner ct a6 o6, wCells ct a7 o7, wCells ct a8 o8, wCells ct a9 o9, wCells ct a10 o10, wCells ct a11 o11, wCells ct a12 o12, wMod ct a13 o13, wOut ct a14 o_152]) [0, 7, 14] (bt_runSW (As := [.ref (a0 0), .int (xs (Int32.toNatClampNeg (x4 + (1 : Int32)))), .int (xs (Int32.toNatClampNeg (x4 + (2 : Int32)))), .ref (a14 0)]) (rest := []) ⟨hx, hb, hml, hown, hts⟩ (c_Law_condition l hl0 ct dC dI a0 a7 a14 (a1 0) (a4 0) (a6 0) (a8 0) v0 _ (xs (Int32.toNatClampNeg (x4 + (1 : Int32)))) (xs (Int32.toNatClampNeg (x4 + (2 : Int32)))) o0 o7 o14 v151 o_152 hG150) (gd_any cd_Law_condition) rfl rfl rfl (hts _ ini_Law) (hts _ ml_Law_107) (hts _ st_Law_condition) (by decide +kernel) ⟨Nat.le_of_ble_eq_true rfl, Nat.le_of_ble_eq_true rfl⟩ ⟨bw_blind thh_call, fun U hU hW => ⟨rfl, by rw [hU], by rw [hU]; exact hP.sub [0, 7, 14] rfl, va_K.moved hW.alike hK, (hN.sub [0, 7, 14] (by decide) rfl).weaken (fun _ _ => trivial), ⟨nx_warm hW hnx, thy_x hthy hS hAs hW hU, exX.moved hW.alike hex9⟩⟩⟩ rfl rfl hl.1 rfl (Nat.le_of_ble_eq_true rfl) d_Law_law_630 ⟨by rw [room_c]; omega, by rw [room_s]; omega⟩) hP hN hS hA rfl rfl rfl (fun H locs hP hS => ?_)
  refine lv_istore (lv' := [(5, .int v151), (0, .ref b), (1, .ref (a0 0)), (2, .ref (a13 0)), (3, .ref (a14 0)), (4, .int x4)]) hx hb d_Law_law_633 hl (by decide) rfl (fun ls hl => ?_)
  refine lv_aload_n hx hb d_Law_law_635 rfl (lv_at hl 3 rfl) ?_
  refine lv_aload_n hx hb d_Law_law_636 rfl (lv_at hl 1 rfl) ?_
  refine lv_iload hx hb d_Law_law_637 (lv_at hl 5 rfl) ?_
  refine lv_iconst (v := 1) hx hb d_Law_law_639 (by decide) ?_
  refine lv_iadd hx hb d_Law_law_640 ?_
  refine va_sld hx hb hX hbl hbA hS (inb_in hi148) d_Law_law_641 ?_
  refine lv_aload_n hx hb d_Law_law_642 rfl (lv_at hl 1 rfl) ?_
  refine lv_iload hx hb d_Law_law_643 (lv_at hl 5 rfl) ?_
  refine lv_iconst (v := 2) hx hb d_Law_law_645 (by decide) ?_
  refine lv_iadd hx hb d_Law_law_646 ?_
  refine va_sld hx hb hX hbl hbA hS (inb_in hi149) d_Law_law_647 ?_
  obtain ⟨v156, o_157, hG155, h⟩ := bind2_some h
  refine bw_call (Lc := [wMod ct a13 o13]) (Lc' := [wMod ct a13 o_157]) (L' := [wPF ct a0 (a1 0) (a4 0) (a6 0) (a7 0) (a8 0) v0 o0, wReader ct a1 (a2 0) o1, wText ct a2 (a3 0) o2, wSteps ct a3 o3, wText ct a4 (a5 0) o4, wSteps ct a5 o5, wReckoner ct a6 o6, wCells ct a7 o7, wCells ct a8 o8, wCells ct a9 o9, wCells ct a10 o10, wCells ct a11 o11, wCells ct a12 o12, wMod ct a13 o_157, wOut ct a14 o_152]) [13] (va_runV (As := [.int (xs (Int32.toNatClampNeg (x4 + (1 : Int32)))), .int (xs (Int32.toNatClampNeg (x4 + (2 : Int32))))]) (rest := []) ⟨hx, hb, hml, hown, hts⟩ (c_Mod_condition l ct dC dI a13 _ (xs (Int32.toNatClampNeg (x4 + (1 : Int32)))) (xs (Int32.toNatClampNeg (x4 + (2 : Int32)))) o13 v156 o_157 hG155) (cwV 2 hts g_Law_109 rfl rfl rfl (by decide +kernel) ⟨Nat.le_of_ble_eq_true rfl, Nat.le_of_ble_eq_true rfl⟩) ⟨bw_blind nx_call, va_recv hK (hP 13 _ rfl) (ci := 6) (q0 := 0) rfl rfl, fun U hU hW => ⟨rfl, by rw [hU], by rw [hU]; exact hP.sub [13] rfl, va_K.moved hW.alike hK, (hN.sub [13] (by decide) rfl).weaken (fun _ _ => trivial), nx_warm hW hnx⟩⟩ rfl rfl hl.1 rfl (Nat.le_of_ble_eq_true rfl) d_Law_law_648 ⟨by rw [room_c]; omega, by rw [room_s]; omega⟩) hP hN hS hA rfl rfl rfl (fun H locs hP hS => ?_)
  refine lv_istore (lv' := [(6, .int v156), (5, .int v151), (0, .ref b), (1, .ref (a0 0)), (2, .ref (a13 0)), (3, .ref (a14 0)), (4, .int x4)]) hx hb d_Law_law_651 hl (by decide) rfl (fun ls hl => ?_)
  refine lv_aload_n hx hb d_Law_law_653 rfl (lv_at hl 4 rfl) ?_
  obtain ⟨v159, hG158, h⟩ := bind1_some h
  refine bw_callR (va_runV (As := []) (rest := []) ⟨hx, hb, hml, hown, hts⟩ (c_Mod_thrown l ct dC dI a13 _ o_157 v159 hG158) (cwV 0 hts g_Law_83 rfl rfl rfl (by decide +kernel) ⟨Nat.le_of_ble_eq_true rfl, Nat.le_of_ble_eq_true rfl⟩) ⟨bw_blind nx_call, va_recv hK (hP 13 _ rfl) (ci := 6) (q0 := 0) rfl rfl, fun U hU hW => ⟨rfl, by rw [hU], by rw [hU]; exact hP.sub [13] rfl, va_K.moved hW.alike hK, (hN.sub [13] (by decide) rfl).weaken (fun _ _ => trivial), nx_warm hW hnx⟩⟩ rfl rfl hl.1 rfl (Nat.le_of_ble_eq_true rfl) d_Law_law_654 ⟨by rw [room_c]; omega, by rw [room_s]; omega⟩) ?_
  refine lv_iload hx hb d_Law_law_657 (lv_at hl 1 rfl) ?_
  refine lv_icmp_eq (tgt := 664) hx hb d_Law_law_659 (by decide) (fun c160 => ?_) (fun c160 => ?_)
  · have h := ite_t c160 h
    refine lv_iload hx hb d_Law_law_664 (lv_at hl 1 rfl) ?_
    refine lv_if_ne (tgt := 681) hx hb d_Law_law_666 (by decide) (fun c161 => ?_) (fun c161 => ?_)
    · have h := ite_f c161 h
      refine lv_goto (tgt := 1128) hx hb d_Law_law_681 (by decide) ?_
      refine lv_iinc (v := (x4 + (6 : Int32))) (lv' := [(4, .int (x4 + (6 : Int32))), (6, .int v156), (5, .int v151), (0, .ref b), (1, .ref (a0 0)), (2, .ref (a13 0)), (3, .ref (a14 0))]) hx hb d_Law_law_1128 hl (k := 6) rfl rfl (by decide) rfl (fun ls hl => ?_)
      refine lv_goto (tgt := 23) hx hb d_Law_law_1131 (by decide) ?_
      refine W.widen (k := 200 + (it + 1)) (n := 40000 + 6 * (it + 1)) (by omega) (by omega) ?_
      exact hk23 a0 a1 a2 a3 a4 a5 a6 a7 a8 a9 a10 a11 a12 a13 a14 v0 (x4 + (6 : Int32)) o0 o1 o2 o3 o4 o5 o6 o7 o8 o9 o10 o11 o12 o_157 o_152 _ _ _ hN hver hP hS (lv_sub hl [3, 4, 5, 6, 0] rfl) h
    · have h := ite_t c161 h
      refine lv_aload_n hx hb d_Law_law_669 rfl (lv_at hl 5 rfl) ?_
      refine lv_iconst (v := 0) hx hb d_Law_law_670 (by decide) ?_
      obtain ⟨hi162, h⟩ := chk_some h
      refine va_lald (f := g64 o_152 0) hx hb hK (hP 14 _ rfl) 0 1 rfl rfl (inb_in hi162) d_Law_law_671 ?_
      refine lv_iload hx hb d_Law_law_672 (lv_at hl 0 rfl) ?_
      refine lv_i2l (v := (Int32.toInt64 v156)) hx hb d_Law_law_674 rfl ?_
      refine W.lcmp hx hb d_Law_law_675 ?_
      refine lv_if_eq (tgt := 681) hx hb d_Law_law_676 (by decide) (fun c163 => ?_) (fun c163 => ?_)
      · have h := ite_t c163 h
        refine lv_goto (tgt := 1128) hx hb d_Law_law_681 (by decide) ?_
        refine lv_iinc (v := (x4 + (6 : Int32))) (lv' := [(4, .int (x4 + (6 : Int32))), (6, .int v156), (5, .int v151), (0, .ref b), (1, .ref (a0 0)), (2, .ref (a13 0)), (3, .ref (a14 0))]) hx hb d_Law_law_1128 hl (k := 6) rfl rfl (by decide) rfl (fun ls hl => ?_)
        refine lv_goto (tgt := 23) hx hb d_Law_law_1131 (by decide) ?_
        refine W.widen (k := 200 + (it + 1)) (n := 40000 + 6 * (it + 1)) (by omega) (by omega) ?_
        exact hk23 a0 a1 a2 a3 a4 a5 a6 a7 a8 a9 a10 a11 a12 a13 a14 v0 (x4 + (6 : Int32)) o0 o1 o2 o3 o4 o5 o6 o7 o8 o9 o10 o11 o12 o_157 o_152 _ _ _ hN hver hP hS (lv_sub hl [3, 4, 5, 6, 0] rfl) h
      · have h := ite_f c163 h
        refine lv_iconst (v := 0) hx hb d_Law_law_679 (by decide) ?_
        cases h
  · have h := ite_f c160 h
    refine lv_iconst (v := 0) hx hb d_Law_law_662 (by decide) ?_
    cases h
def F_Law_law_684 (L : Nat) (xs : Nat → Int32) (k23 : Int32 → Ob → Ob → Ob → Ob → Ob → Ob → Ob → Ob → Ob → Ob → Ob → Ob → Ob → Ob → Ob → Option Unit) (x4 : Int32) (o0 o1 o2 o3 o4 o5 o6 o7 o8 o9 o10 o11 o12 o13 o14 : Ob) : Option Unit :=
  chk (inb (x4 + (1 : Int32)) L) (chk (inb (x4 + (2 : Int32)) L) (bind2 (F_Law_line (xs (Int32.toNatClampNeg (x4 + (1 : Int32)))) (xs (Int32.toNatClampNeg (x4 + (2 : Int32)))) o0 o4 o14) (fun v167 o_168 => bind2 (F_Mod_line (xs (Int32.toNatClampNeg (x4 + (1 : Int32)))) (xs (Int32.toNatClampNeg (x4 + (2 : Int32)))) o13) (fun v172 o_173 => bind1 (F_Mod_thrown o_173) (fun v175 => if v175 = v167 then (if v167 = 0 then (chk (inb (0 : Int32) 1) (if (lg_cmp (g64 o_168 0 (Int32.toNatClampNeg (0 : Int32))) (Int32.toInt64 v172)) = 0 then (k23 (x4 + (6 : Int32)) o0 o1 o2 o3 o4 o5 o6 o7 o8 o9 o10 o11 o12 o_173 o_168) else (none))) else (k23 (x4 + (6 : Int32)) o0 o1 o2 o3 o4 o5 o6 o7 o8 o9 o10 o11 o12 o_173 o_168)) else (none))))))
set_option maxHeartbeats 8000000 in
set_option maxRecDepth 100000 in
theorem k_Law_law_684 {p : Program} {l : Launch} {e : Env} {s : State} {m : MethodId} {below : List Frame} {meth : Method} {c : Code} {b L : Nat} {xs : Nat → Int32} {A : Nat → Prop} {ct dC : Nat → ClassId} {dI : Nat → Nat → Nat} (C0 : lcx p s m meth c b L xs A ct dC dI) (hl0 : l.stackTraces = false) {it : Nat} (hit : it + 1 ≤ 600) {k23 : Int32 → Ob → Ob → Ob → Ob → Ob → Ob → Ob → Ob → Ob → Ob → Ob → Ob → Ob → Ob → Ob → Option Unit} (hk23 : ∀ (a0 a1 a2 a3 a4 a5 a6 a7 a8 a9 a10 a11 a12 a13 a14 : Nat → Nat) (v0 : Nat → Nat) (x4 : Int32) (o0 o1 o2 o3 o4 o5 o6 o7 o8 o9 o10 o11 o12 o13 o14 : Ob) (H : Heap) (locs : List Loc) (ls : Array Slot), bw_N A [adPF a0, adReader a1, adText a2, adSteps a3, adText a4, adSteps a5, adReckoner a6, adCells a7, adCells a8, adCells a9, adCells a10, adCells a11, adCells a12, adMod a13, adOut a14] → (v0 0 = a9 0 ∧ v0 1 = a10 0 ∧ v0 2 = a11 0 ∧ v0 3 = a12 0) → bw_P (dC, dI) vwCl [wPF ct a0 (a1 0) (a4 0) (a6 0) (a7 0) (a8 0) v0 o0, wReader ct a1 (a2 0) o1, wText ct a2 (a3 0) o2, wSteps ct a3 o3, wText ct a4 (a5 0) o4, wSteps ct a5 o5, wReckoner ct a6 o6, wCells ct a7 o7, wCells ct a8 o8, wCells ct a9 o9, wCells ct a10 o10, wCells ct a11 o11, wCells ct a12 o12, wMod ct a13 o13, wOut ct a14 o14] H → va_S A s.heap H locs → lv_has ls 8 [(0, .ref b), (1, .ref (a0 0)), (2, .ref (a13 0)), (3, .ref (a14 0)), (4, .int x4)] → k23 x4 o0 o1 o2 o3 o4 o5 o6 o7 o8 o9 o10 o11 o12 o13 o14 = some () → W p l e room_1 s m #[Value.ref b] below meth c H locs (200 + (it + 1)) (40000 + 6 * (it + 1)) (lw_Z below #[Value.ref b] s) (F0 m 23 ls [])) : ∀ (a0 a1 a2 a3 a4 a5 a6 a7 a8 a9 a10 a11 a12 a13 a14 : Nat → Nat) (v0 : Nat → Nat) (x4 : Int32) (o0 o1 o2 o3 o4 o5 o6 o7 o8 o9 o10 o11 o12 o13 o14 : Ob) (H : Heap) (locs : List Loc) (ls : Array Slot), bw_N A [adPF a0, adReader a1, adText a2, adSteps a3, adText a4, adSteps a5, adReckoner a6, adCells a7, adCells a8, adCells a9, adCells a10, adCells a11, adCells a12, adMod a13, adOut a14] → (v0 0 = a9 0 ∧ v0 1 = a10 0 ∧ v0 2 = a11 0 ∧ v0 3 = a12 0) → bw_P (dC, dI) vwCl [wPF ct a0 (a1 0) (a4 0) (a6 0) (a7 0) (a8 0) v0 o0, wReader ct a1 (a2 0) o1, wText ct a2 (a3 0) o2, wSteps ct a3 o3, wText ct a4 (a5 0) o4, wSteps ct a5 o5, wReckoner ct a6 o6, wCells ct a7 o7, wCells ct a8 o8, wCells ct a9 o9, wCells ct a10 o10, wCells ct a11 o11, wCells ct a12 o12, wMod ct a13 o13, wOut ct a14 o14] H → va_S A s.heap H locs → lv_has ls 8 [(0, .ref b), (1, .ref (a0 0)), (2, .ref (a13 0)), (3, .ref (a14 0)), (4, .int x4)] → F_Law_law_684 L xs k23 x4 o0 o1 o2 o3 o4 o5 o6 o7 o8 o9 o10 o11 o12 o13 o14 = some () → W p l e room_1 s m #[Value.ref b] below meth c H locs (200 + it) (40000 + 6 * it) (lw_Z below #[Value.ref b] s) (F0 m 684 ls []) := by
  obtain ⟨hx, hb, hr, hml, hown, hlocks, hts, hK, hA, hAs, hX, hbl, hnx, hthy, hex9, hsx⟩ := id C0
  have hbA : ¬ A b := fun z => absurd (hAs b z) (Nat.not_le.mpr hbl)
  intro a0 a1 a2 a3 a4 a5 a6 a7 a8 a9 a10 a11 a12 a13 a14 v0 x4 o0 o1 o2 o3 o4 o5 o6 o7 o8 o9 o10 o11 o12 o13 o14 H locs ls hN hver hP hS hl h
  rw [F_Law_law_684] at h
  refine lv_aload_n hx hb d_Law_law_684 rfl (lv_at hl 1 rfl) ?_
  refine lv_aload_n hx hb d_Law_law_685 rfl (lv_at hl 0 rfl) ?_
  refine lv_iload hx hb d_Law_law_686 (lv_at hl 4 rfl) ?_
  refine lv_iconst (v := 1) hx hb d_Law_law_688 (by decide) ?_
  refine lv_iadd hx hb d_Law_law_689 ?_
  obtain ⟨hi164, h⟩ := chk_some h
  refine va_sld hx hb hX hbl hbA hS (inb_in hi164) d_Law_law_690 ?_
  refine lv_aload_n hx hb d_Law_law_691 rfl (lv_at hl 0 rfl) ?_
  refine lv_iload hx hb d_Law_law_692 (lv_at hl 4 rfl) ?_
  refine lv_iconst (v := 2) hx hb d_Law_law_694 (by decide) ?_
  refine lv_iadd hx hb d_Law_law_695 ?_
  obtain ⟨hi165, h⟩ := chk_some h
  refine va_sld hx hb hX hbl hbA hS (inb_in hi165) d_Law_law_696 ?_
  refine lv_aload_n hx hb d_Law_law_697 rfl (lv_at hl 3 rfl) ?_
  obtain ⟨v167, o_168, hG166, h⟩ := bind2_some h
  refine bw_call (Lc := [wPF ct a0 (a1 0) (a4 0) (a6 0) (a7 0) (a8 0) v0 o0, wText ct a4 (a5 0) o4, wOut ct a14 o14]) (Lc' := [wPF ct a0 (a1 0) (a4 0) (a6 0) (a7 0) (a8 0) v0 o0, wText ct a4 (a5 0) o4, wOut ct a14 o_168]) (L' := [wPF ct a0 (a1 0) (a4 0) (a6 0) (a7 0) (a8 0) v0 o0, wReader ct a1 (a2 0) o1, wText ct a2 (a3 0) o2, wSteps ct a3 o3, wText ct a4 (a5 0) o4, wSteps ct a5 o5, wReckoner ct a6 o6, wCells ct a7 o7, wCells ct a8 o8, wCells ct a9 o9, wCells ct a10 o10, wCells ct a11 o11, wCells ct a12 o12, wMod ct a13 o13, wOut ct a14 o_168]) [0, 4, 14] (bt_runSW (As := [.ref (a0 0), .int (xs (Int32.toNatClampNeg (x4 + (1 : Int32)))), .int (xs (Int32.toNatClampNeg (x4 + (2 : Int32)))), .ref (a14 0)]) (rest := []) ⟨hx, hb, hml, hown, hts⟩ (c_Law_line l hl0 ct dC dI a0 a4 a14 (a1 0) (a6 0) (a7 0) (a8 0) v0 (a5 0) _ (xs (Int32.toNatClampNeg (x4 + (1 : Int32)))) (xs (Int32.toNatClampNeg (x4 + (2 : Int32)))) o0 o4 o14 v167 o_168 hG166) (gd_any cd_Law_line) rfl rfl rfl (hts _ ini_Law) (hts _ ml_Law_110) (hts _ st_Law_line) (by decide +kernel) ⟨Nat.le_of_ble_eq_true rfl, Nat.le_of_ble_eq_true rfl⟩ ⟨bw_blind thh_call, fun U hU hW => ⟨rfl, by rw [hU], by rw [hU]; exact hP.sub [0, 4, 14] rfl, va_K.moved hW.alike hK, (hN.sub [0, 4, 14] (by decide) rfl).weaken (fun _ _ => trivial), ⟨nx_warm hW hnx, thy_x hthy hS hAs hW hU, exX.moved hW.alike hex9⟩⟩⟩ rfl rfl hl.1 rfl (Nat.le_of_ble_eq_true rfl) d_Law_law_698 ⟨by rw [room_c]; omega, by rw [room_s]; omega⟩) hP hN hS hA rfl rfl rfl (fun H locs hP hS => ?_)
  refine lv_istore (lv' := [(5, .int v167), (0, .ref b), (1, .ref (a0 0)), (2, .ref (a13 0)), (3, .ref (a14 0)), (4, .int x4)]) hx hb d_Law_law_701 hl (by decide) rfl (fun ls hl => ?_)
  refine lv_aload_n hx hb d_Law_law_703 rfl (lv_at hl 3 rfl) ?_
  refine lv_aload_n hx hb d_Law_law_704 rfl (lv_at hl 1 rfl) ?_
  refine lv_iload hx hb d_Law_law_705 (lv_at hl 5 rfl) ?_
  refine lv_iconst (v := 1) hx hb d_Law_law_707 (by decide) ?_
  refine lv_iadd hx hb d_Law_law_708 ?_
  refine va_sld hx hb hX hbl hbA hS (inb_in hi164) d_Law_law_709 ?_
  refine lv_aload_n hx hb d_Law_law_710 rfl (lv_at hl 1 rfl) ?_
  refine lv_iload hx hb d_Law_law_711 (lv_at hl 5 rfl) ?_
  refine lv_iconst (v := 2) hx hb d_Law_law_713 (by decide) ?_
  refine lv_iadd hx hb d_Law_law_714 ?_
  refine va_sld hx hb hX hbl hbA hS (inb_in hi165) d_Law_law_715 ?_
  obtain ⟨v172, o_173, hG171, h⟩ := bind2_some h
  refine bw_call (Lc := [wMod ct a13 o13]) (Lc' := [wMod ct a13 o_173]) (L' := [wPF ct a0 (a1 0) (a4 0) (a6 0) (a7 0) (a8 0) v0 o0, wReader ct a1 (a2 0) o1, wText ct a2 (a3 0) o2, wSteps ct a3 o3, wText ct a4 (a5 0) o4, wSteps ct a5 o5, wReckoner ct a6 o6, wCells ct a7 o7, wCells ct a8 o8, wCells ct a9 o9, wCells ct a10 o10, wCells ct a11 o11, wCells ct a12 o12, wMod ct a13 o_173, wOut ct a14 o_168]) [13] (va_runV (As := [.int (xs (Int32.toNatClampNeg (x4 + (1 : Int32)))), .int (xs (Int32.toNatClampNeg (x4 + (2 : Int32))))]) (rest := []) ⟨hx, hb, hml, hown, hts⟩ (c_Mod_line l ct dC dI a13 _ (xs (Int32.toNatClampNeg (x4 + (1 : Int32)))) (xs (Int32.toNatClampNeg (x4 + (2 : Int32)))) o13 v172 o_173 hG171) (cwV 2 hts g_Law_112 rfl rfl rfl (by decide +kernel) ⟨Nat.le_of_ble_eq_true rfl, Nat.le_of_ble_eq_true rfl⟩) ⟨bw_blind nx_call, va_recv hK (hP 13 _ rfl) (ci := 6) (q0 := 0) rfl rfl, fun U hU hW => ⟨rfl, by rw [hU], by rw [hU]; exact hP.sub [13] rfl, va_K.moved hW.alike hK, (hN.sub [13] (by decide) rfl).weaken (fun _ _ => trivial), nx_warm hW hnx⟩⟩ rfl rfl hl.1 rfl (Nat.le_of_ble_eq_true rfl) d_Law_law_716 ⟨by rw [room_c]; omega, by rw [room_s]; omega⟩) hP hN hS hA rfl rfl rfl (fun H locs hP hS => ?_)
  refine lv_istore (lv' := [(6, .int v172), (5, .int v167), (0, .ref b), (1, .ref (a0 0)), (2, .ref (a13 0)), (3, .ref (a14 0)), (4, .int x4)]) hx hb d_Law_law_719 hl (by decide) rfl (fun ls hl => ?_)
  refine lv_aload_n hx hb d_Law_law_721 rfl (lv_at hl 4 rfl) ?_
  obtain ⟨v175, hG174, h⟩ := bind1_some h
  refine bw_callR (va_runV (As := []) (rest := []) ⟨hx, hb, hml, hown, hts⟩ (c_Mod_thrown l ct dC dI a13 _ o_173 v175 hG174) (cwV 0 hts g_Law_83 rfl rfl rfl (by decide +kernel) ⟨Nat.le_of_ble_eq_true rfl, Nat.le_of_ble_eq_true rfl⟩) ⟨bw_blind nx_call, va_recv hK (hP 13 _ rfl) (ci := 6) (q0 := 0) rfl rfl, fun U hU hW => ⟨rfl, by rw [hU], by rw [hU]; exact hP.sub [13] rfl, va_K.moved hW.alike hK, (hN.sub [13] (by decide) rfl).weaken (fun _ _ => trivial), nx_warm hW hnx⟩⟩ rfl rfl hl.1 rfl (Nat.le_of_ble_eq_true rfl) d_Law_law_722 ⟨by rw [room_c]; omega, by rw [room_s]; omega⟩) ?_
  refine lv_iload hx hb d_Law_law_725 (lv_at hl 1 rfl) ?_
  refine lv_icmp_eq (tgt := 732) hx hb d_Law_law_727 (by decide) (fun c176 => ?_) (fun c176 => ?_)
  · have h := ite_t c176 h
    refine lv_iload hx hb d_Law_law_732 (lv_at hl 1 rfl) ?_
    refine lv_if_ne (tgt := 749) hx hb d_Law_law_734 (by decide) (fun c177 => ?_) (fun c177 => ?_)
    · have h := ite_f c177 h
      refine lv_goto (tgt := 1128) hx hb d_Law_law_749 (by decide) ?_
      refine lv_iinc (v := (x4 + (6 : Int32))) (lv' := [(4, .int (x4 + (6 : Int32))), (6, .int v172), (5, .int v167), (0, .ref b), (1, .ref (a0 0)), (2, .ref (a13 0)), (3, .ref (a14 0))]) hx hb d_Law_law_1128 hl (k := 6) rfl rfl (by decide) rfl (fun ls hl => ?_)
      refine lv_goto (tgt := 23) hx hb d_Law_law_1131 (by decide) ?_
      refine W.widen (k := 200 + (it + 1)) (n := 40000 + 6 * (it + 1)) (by omega) (by omega) ?_
      exact hk23 a0 a1 a2 a3 a4 a5 a6 a7 a8 a9 a10 a11 a12 a13 a14 v0 (x4 + (6 : Int32)) o0 o1 o2 o3 o4 o5 o6 o7 o8 o9 o10 o11 o12 o_173 o_168 _ _ _ hN hver hP hS (lv_sub hl [3, 4, 5, 6, 0] rfl) h
    · have h := ite_t c177 h
      refine lv_aload_n hx hb d_Law_law_737 rfl (lv_at hl 5 rfl) ?_
      refine lv_iconst (v := 0) hx hb d_Law_law_738 (by decide) ?_
      obtain ⟨hi178, h⟩ := chk_some h
      refine va_lald (f := g64 o_168 0) hx hb hK (hP 14 _ rfl) 0 1 rfl rfl (inb_in hi178) d_Law_law_739 ?_
      refine lv_iload hx hb d_Law_law_740 (lv_at hl 0 rfl) ?_
      refine lv_i2l (v := (Int32.toInt64 v172)) hx hb d_Law_law_742 rfl ?_
      refine W.lcmp hx hb d_Law_law_743 ?_
      refine lv_if_eq (tgt := 749) hx hb d_Law_law_744 (by decide) (fun c179 => ?_) (fun c179 => ?_)
      · have h := ite_t c179 h
        refine lv_goto (tgt := 1128) hx hb d_Law_law_749 (by decide) ?_
        refine lv_iinc (v := (x4 + (6 : Int32))) (lv' := [(4, .int (x4 + (6 : Int32))), (6, .int v172), (5, .int v167), (0, .ref b), (1, .ref (a0 0)), (2, .ref (a13 0)), (3, .ref (a14 0))]) hx hb d_Law_law_1128 hl (k := 6) rfl rfl (by decide) rfl (fun ls hl => ?_)
        refine lv_goto (tgt := 23) hx hb d_Law_law_1131 (by decide) ?_
        refine W.widen (k := 200 + (it + 1)) (n := 40000 + 6 * (it + 1)) (by omega) (by omega) ?_
        exact hk23 a0 a1 a2 a3 a4 a5 a6 a7 a8 a9 a10 a11 a12 a13 a14 v0 (x4 + (6 : Int32)) o0 o1 o2 o3 o4 o5 o6 o7 o8 o9 o10 o11 o12 o_173 o_168 _ _ _ hN hver hP hS (lv_sub hl [3, 4, 5, 6, 0] rfl) h
      · have h := ite_f c179 h
        refine lv_iconst (v := 0) hx hb d_Law_law_747 (by decide) ?_
        cases h
  · have h := ite_f c176 h
    refine lv_iconst (v := 0) hx hb d_Law_law_730 (by decide) ?_
    cases h
def F_Law_law_752 (L : Nat) (xs : Nat → Int32) (k23 : Int32 → Ob → Ob → Ob → Ob → Ob → Ob → Ob → Ob → Ob → Ob → Ob → Ob → Ob → Ob → Ob → Option Unit) (x4 : Int32) (o0 o1 o2 o3 o4 o5 o6 o7 o8 o9 o10 o11 o12 o13 o14 : Ob) : Option Unit :=
  chk (inb (x4 + (1 : Int32)) L) (chk (inb (x4 + (2 : Int32)) L) (bind2 (F_Law_needs (xs (Int32.toNatClampNeg (x4 + (1 : Int32)))) (xs (Int32.toNatClampNeg (x4 + (2 : Int32)))) o0 o4 o14) (fun v183 o_184 => bind2 (F_Mod_needs (xs (Int32.toNatClampNeg (x4 + (1 : Int32)))) (xs (Int32.toNatClampNeg (x4 + (2 : Int32)))) o13) (fun v188 o_189 => bind1 (F_Mod_thrown o_189) (fun v191 => if v191 = v183 then (if v183 = 0 then (chk (inb (0 : Int32) 1) (if (b2i v188) = 0 then (if (lg_cmp (g64 o_184 0 (Int32.toNatClampNeg (0 : Int32))) (0 : Int64)) = 0 then (k23 (x4 + (6 : Int32)) o0 o1 o2 o3 o4 o5 o6 o7 o8 o9 o10 o11 o12 o_189 o_184) else (none)) else (if (lg_cmp (g64 o_184 0 (Int32.toNatClampNeg (0 : Int32))) (1 : Int64)) = 0 then (k23 (x4 + (6 : Int32)) o0 o1 o2 o3 o4 o5 o6 o7 o8 o9 o10 o11 o12 o_189 o_184) else (none)))) else (k23 (x4 + (6 : Int32)) o0 o1 o2 o3 o4 o5 o6 o7 o8 o9 o10 o11 o12 o_189 o_184)) else (none))))))
set_option maxHeartbeats 8000000 in
set_option maxRecDepth 100000 in
theorem k_Law_law_752 {p : Program} {l : Launch} {e : Env} {s : State} {m : MethodId} {below : List Frame} {meth : Method} {c : Code} {b L : Nat} {xs : Nat → Int32} {A : Nat → Prop} {ct dC : Nat → ClassId} {dI : Nat → Nat → Nat} (C0 : lcx p s m meth c b L xs A ct dC dI) (hl0 : l.stackTraces = false) {it : Nat} (hit : it + 1 ≤ 600) {k23 : Int32 → Ob → Ob → Ob → Ob → Ob → Ob → Ob → Ob → Ob → Ob → Ob → Ob → Ob → Ob → Ob → Option Unit} (hk23 : ∀ (a0 a1 a2 a3 a4 a5 a6 a7 a8 a9 a10 a11 a12 a13 a14 : Nat → Nat) (v0 : Nat → Nat) (x4 : Int32) (o0 o1 o2 o3 o4 o5 o6 o7 o8 o9 o10 o11 o12 o13 o14 : Ob) (H : Heap) (locs : List Loc) (ls : Array Slot), bw_N A [adPF a0, adReader a1, adText a2, adSteps a3, adText a4, adSteps a5, adReckoner a6, adCells a7, adCells a8, adCells a9, adCells a10, adCells a11, adCells a12, adMod a13, adOut a14] → (v0 0 = a9 0 ∧ v0 1 = a10 0 ∧ v0 2 = a11 0 ∧ v0 3 = a12 0) → bw_P (dC, dI) vwCl [wPF ct a0 (a1 0) (a4 0) (a6 0) (a7 0) (a8 0) v0 o0, wReader ct a1 (a2 0) o1, wText ct a2 (a3 0) o2, wSteps ct a3 o3, wText ct a4 (a5 0) o4, wSteps ct a5 o5, wReckoner ct a6 o6, wCells ct a7 o7, wCells ct a8 o8, wCells ct a9 o9, wCells ct a10 o10, wCells ct a11 o11, wCells ct a12 o12, wMod ct a13 o13, wOut ct a14 o14] H → va_S A s.heap H locs → lv_has ls 8 [(0, .ref b), (1, .ref (a0 0)), (2, .ref (a13 0)), (3, .ref (a14 0)), (4, .int x4)] → k23 x4 o0 o1 o2 o3 o4 o5 o6 o7 o8 o9 o10 o11 o12 o13 o14 = some () → W p l e room_1 s m #[Value.ref b] below meth c H locs (200 + (it + 1)) (40000 + 6 * (it + 1)) (lw_Z below #[Value.ref b] s) (F0 m 23 ls [])) : ∀ (a0 a1 a2 a3 a4 a5 a6 a7 a8 a9 a10 a11 a12 a13 a14 : Nat → Nat) (v0 : Nat → Nat) (x4 : Int32) (o0 o1 o2 o3 o4 o5 o6 o7 o8 o9 o10 o11 o12 o13 o14 : Ob) (H : Heap) (locs : List Loc) (ls : Array Slot), bw_N A [adPF a0, adReader a1, adText a2, adSteps a3, adText a4, adSteps a5, adReckoner a6, adCells a7, adCells a8, adCells a9, adCells a10, adCells a11, adCells a12, adMod a13, adOut a14] → (v0 0 = a9 0 ∧ v0 1 = a10 0 ∧ v0 2 = a11 0 ∧ v0 3 = a12 0) → bw_P (dC, dI) vwCl [wPF ct a0 (a1 0) (a4 0) (a6 0) (a7 0) (a8 0) v0 o0, wReader ct a1 (a2 0) o1, wText ct a2 (a3 0) o2, wSteps ct a3 o3, wText ct a4 (a5 0) o4, wSteps ct a5 o5, wReckoner ct a6 o6, wCells ct a7 o7, wCells ct a8 o8, wCells ct a9 o9, wCells ct a10 o10, wCells ct a11 o11, wCells ct a12 o12, wMod ct a13 o13, wOut ct a14 o14] H → va_S A s.heap H locs → lv_has ls 8 [(0, .ref b), (1, .ref (a0 0)), (2, .ref (a13 0)), (3, .ref (a14 0)), (4, .int x4)] → F_Law_law_752 L xs k23 x4 o0 o1 o2 o3 o4 o5 o6 o7 o8 o9 o10 o11 o12 o13 o14 = some () → W p l e room_1 s m #[Value.ref b] below meth c H locs (200 + it) (40000 + 6 * it) (lw_Z below #[Value.ref b] s) (F0 m 752 ls []) := by
  obtain ⟨hx, hb, hr, hml, hown, hlocks, hts, hK, hA, hAs, hX, hbl, hnx, hthy, hex9, hsx⟩ := id C0
  have hbA : ¬ A b := fun z => absurd (hAs b z) (Nat.not_le.mpr hbl)
  intro a0 a1 a2 a3 a4 a5 a6 a7 a8 a9 a10 a11 a12 a13 a14 v0 x4 o0 o1 o2 o3 o4 o5 o6 o7 o8 o9 o10 o11 o12 o13 o14 H locs ls hN hver hP hS hl h
  rw [F_Law_law_752] at h
  refine lv_aload_n hx hb d_Law_law_752 rfl (lv_at hl 1 rfl) ?_
  refine lv_aload_n hx hb d_Law_law_753 rfl (lv_at hl 0 rfl) ?_
  refine lv_iload hx hb d_Law_law_754 (lv_at hl 4 rfl) ?_
  refine lv_iconst (v := 1) hx hb d_Law_law_756 (by decide) ?_
  refine lv_iadd hx hb d_Law_law_757 ?_
  obtain ⟨hi180, h⟩ := chk_some h
  refine va_sld hx hb hX hbl hbA hS (inb_in hi180) d_Law_law_758 ?_
  refine lv_aload_n hx hb d_Law_law_759 rfl (lv_at hl 0 rfl) ?_
  refine lv_iload hx hb d_Law_law_760 (lv_at hl 4 rfl) ?_
  refine lv_iconst (v := 2) hx hb d_Law_law_762 (by decide) ?_
  refine lv_iadd hx hb d_Law_law_763 ?_
  obtain ⟨hi181, h⟩ := chk_some h
  refine va_sld hx hb hX hbl hbA hS (inb_in hi181) d_Law_law_764 ?_
  refine lv_aload_n hx hb d_Law_law_765 rfl (lv_at hl 3 rfl) ?_
  obtain ⟨v183, o_184, hG182, h⟩ := bind2_some h
  refine bw_call (Lc := [wPF ct a0 (a1 0) (a4 0) (a6 0) (a7 0) (a8 0) v0 o0, wText ct a4 (a5 0) o4, wOut ct a14 o14]) (Lc' := [wPF ct a0 (a1 0) (a4 0) (a6 0) (a7 0) (a8 0) v0 o0, wText ct a4 (a5 0) o4, wOut ct a14 o_184]) (L' := [wPF ct a0 (a1 0) (a4 0) (a6 0) (a7 0) (a8 0) v0 o0, wReader ct a1 (a2 0) o1, wText ct a2 (a3 0) o2, wSteps ct a3 o3, wText ct a4 (a5 0) o4, wSteps ct a5 o5, wReckoner ct a6 o6, wCells ct a7 o7, wCells ct a8 o8, wCells ct a9 o9, wCells ct a10 o10, wCells ct a11 o11, wCells ct a12 o12, wMod ct a13 o13, wOut ct a14 o_184]) [0, 4, 14] (bt_runSW (As := [.ref (a0 0), .int (xs (Int32.toNatClampNeg (x4 + (1 : Int32)))), .int (xs (Int32.toNatClampNeg (x4 + (2 : Int32)))), .ref (a14 0)]) (rest := []) ⟨hx, hb, hml, hown, hts⟩ (c_Law_needs l hl0 ct dC dI a0 a4 a14 (a1 0) (a6 0) (a7 0) (a8 0) v0 (a5 0) _ (xs (Int32.toNatClampNeg (x4 + (1 : Int32)))) (xs (Int32.toNatClampNeg (x4 + (2 : Int32)))) o0 o4 o14 v183 o_184 hG182) (gd_any cd_Law_needs) rfl rfl rfl (hts _ ini_Law) (hts _ ml_Law_113) (hts _ st_Law_needs) (by decide +kernel) ⟨Nat.le_of_ble_eq_true rfl, Nat.le_of_ble_eq_true rfl⟩ ⟨bw_blind thh_call, fun U hU hW => ⟨rfl, by rw [hU], by rw [hU]; exact hP.sub [0, 4, 14] rfl, va_K.moved hW.alike hK, (hN.sub [0, 4, 14] (by decide) rfl).weaken (fun _ _ => trivial), ⟨nx_warm hW hnx, thy_x hthy hS hAs hW hU, exX.moved hW.alike hex9⟩⟩⟩ rfl rfl hl.1 rfl (Nat.le_of_ble_eq_true rfl) d_Law_law_766 ⟨by rw [room_c]; omega, by rw [room_s]; omega⟩) hP hN hS hA rfl rfl rfl (fun H locs hP hS => ?_)
  refine lv_istore (lv' := [(5, .int v183), (0, .ref b), (1, .ref (a0 0)), (2, .ref (a13 0)), (3, .ref (a14 0)), (4, .int x4)]) hx hb d_Law_law_769 hl (by decide) rfl (fun ls hl => ?_)
  refine lv_aload_n hx hb d_Law_law_771 rfl (lv_at hl 3 rfl) ?_
  refine lv_aload_n hx hb d_Law_law_772 rfl (lv_at hl 1 rfl) ?_
  refine lv_iload hx hb d_Law_law_773 (lv_at hl 5 rfl) ?_
  refine lv_iconst (v := 1) hx hb d_Law_law_775 (by decide) ?_
  refine lv_iadd hx hb d_Law_law_776 ?_
  refine va_sld hx hb hX hbl hbA hS (inb_in hi180) d_Law_law_777 ?_
  refine lv_aload_n hx hb d_Law_law_778 rfl (lv_at hl 1 rfl) ?_
  refine lv_iload hx hb d_Law_law_779 (lv_at hl 5 rfl) ?_
  refine lv_iconst (v := 2) hx hb d_Law_law_781 (by decide) ?_
  refine lv_iadd hx hb d_Law_law_782 ?_
  refine va_sld hx hb hX hbl hbA hS (inb_in hi181) d_Law_law_783 ?_
  obtain ⟨v188, o_189, hG187, h⟩ := bind2_some h
  refine bw_call (Lc := [wMod ct a13 o13]) (Lc' := [wMod ct a13 o_189]) (L' := [wPF ct a0 (a1 0) (a4 0) (a6 0) (a7 0) (a8 0) v0 o0, wReader ct a1 (a2 0) o1, wText ct a2 (a3 0) o2, wSteps ct a3 o3, wText ct a4 (a5 0) o4, wSteps ct a5 o5, wReckoner ct a6 o6, wCells ct a7 o7, wCells ct a8 o8, wCells ct a9 o9, wCells ct a10 o10, wCells ct a11 o11, wCells ct a12 o12, wMod ct a13 o_189, wOut ct a14 o_184]) [13] (va_runV (As := [.int (xs (Int32.toNatClampNeg (x4 + (1 : Int32)))), .int (xs (Int32.toNatClampNeg (x4 + (2 : Int32))))]) (rest := []) ⟨hx, hb, hml, hown, hts⟩ (c_Mod_needs l ct dC dI a13 _ (xs (Int32.toNatClampNeg (x4 + (1 : Int32)))) (xs (Int32.toNatClampNeg (x4 + (2 : Int32)))) o13 v188 o_189 hG187) (cwV 2 hts g_Law_115 rfl rfl rfl (by decide +kernel) ⟨Nat.le_of_ble_eq_true rfl, Nat.le_of_ble_eq_true rfl⟩) ⟨bw_blind nx_call, va_recv hK (hP 13 _ rfl) (ci := 6) (q0 := 0) rfl rfl, fun U hU hW => ⟨rfl, by rw [hU], by rw [hU]; exact hP.sub [13] rfl, va_K.moved hW.alike hK, (hN.sub [13] (by decide) rfl).weaken (fun _ _ => trivial), nx_warm hW hnx⟩⟩ rfl rfl hl.1 rfl (Nat.le_of_ble_eq_true rfl) d_Law_law_784 ⟨by rw [room_c]; omega, by rw [room_s]; omega⟩) hP hN hS hA rfl rfl rfl (fun H locs hP hS => ?_)
  refine lv_istore (lv' := [(6, .int (b2i v188)), (5, .int v183), (0, .ref b), (1, .ref (a0 0)), (2, .ref (a13 0)), (3, .ref (a14 0)), (4, .int x4)]) hx hb d_Law_law_787 hl (by decide) rfl (fun ls hl => ?_)
  refine lv_aload_n hx hb d_Law_law_789 rfl (lv_at hl 4 rfl) ?_
  obtain ⟨v191, hG190, h⟩ := bind1_some h
  refine bw_callR (va_runV (As := []) (rest := []) ⟨hx, hb, hml, hown, hts⟩ (c_Mod_thrown l ct dC dI a13 _ o_189 v191 hG190) (cwV 0 hts g_Law_83 rfl rfl rfl (by decide +kernel) ⟨Nat.le_of_ble_eq_true rfl, Nat.le_of_ble_eq_true rfl⟩) ⟨bw_blind nx_call, va_recv hK (hP 13 _ rfl) (ci := 6) (q0 := 0) rfl rfl, fun U hU hW => ⟨rfl, by rw [hU], by rw [hU]; exact hP.sub [13] rfl, va_K.moved hW.alike hK, (hN.sub [13] (by decide) rfl).weaken (fun _ _ => trivial), nx_warm hW hnx⟩⟩ rfl rfl hl.1 rfl (Nat.le_of_ble_eq_true rfl) d_Law_law_790 ⟨by rw [room_c]; omega, by rw [room_s]; omega⟩) ?_
  refine lv_iload hx hb d_Law_law_793 (lv_at hl 1 rfl) ?_
  refine lv_icmp_eq (tgt := 800) hx hb d_Law_law_795 (by decide) (fun c192 => ?_) (fun c192 => ?_)
  · have h := ite_t c192 h
    refine lv_iload hx hb d_Law_law_800 (lv_at hl 1 rfl) ?_
    refine lv_if_ne (tgt := 824) hx hb d_Law_law_802 (by decide) (fun c193 => ?_) (fun c193 => ?_)
    · have h := ite_f c193 h
      refine lv_goto (tgt := 1128) hx hb d_Law_law_824 (by decide) ?_
      refine lv_iinc (v := (x4 + (6 : Int32))) (lv' := [(4, .int (x4 + (6 : Int32))), (6, .int (b2i v188)), (5, .int v183), (0, .ref b), (1, .ref (a0 0)), (2, .ref (a13 0)), (3, .ref (a14 0))]) hx hb d_Law_law_1128 hl (k := 6) rfl rfl (by decide) rfl (fun ls hl => ?_)
      refine lv_goto (tgt := 23) hx hb d_Law_law_1131 (by decide) ?_
      refine W.widen (k := 200 + (it + 1)) (n := 40000 + 6 * (it + 1)) (by omega) (by omega) ?_
      exact hk23 a0 a1 a2 a3 a4 a5 a6 a7 a8 a9 a10 a11 a12 a13 a14 v0 (x4 + (6 : Int32)) o0 o1 o2 o3 o4 o5 o6 o7 o8 o9 o10 o11 o12 o_189 o_184 _ _ _ hN hver hP hS (lv_sub hl [3, 4, 5, 6, 0] rfl) h
    · have h := ite_t c193 h
      refine lv_aload_n hx hb d_Law_law_805 rfl (lv_at hl 5 rfl) ?_
      refine lv_iconst (v := 0) hx hb d_Law_law_806 (by decide) ?_
      obtain ⟨hi194, h⟩ := chk_some h
      refine va_lald (f := g64 o_184 0) hx hb hK (hP 14 _ rfl) 0 1 rfl rfl (inb_in hi194) d_Law_law_807 ?_
      refine lv_iload hx hb d_Law_law_808 (lv_at hl 0 rfl) ?_
      refine lv_if_eq (tgt := 817) hx hb d_Law_law_810 (by decide) (fun c195 => ?_) (fun c195 => ?_)
      · have h := ite_t c195 h
        refine lv_lconst (v := 0) hx hb d_Law_law_817 (by decide) ?_
        refine W.lcmp hx hb d_Law_law_818 ?_
        refine lv_if_eq (tgt := 824) hx hb d_Law_law_819 (by decide) (fun c196 => ?_) (fun c196 => ?_)
        · have h := ite_t c196 h
          refine lv_goto (tgt := 1128) hx hb d_Law_law_824 (by decide) ?_
          refine lv_iinc (v := (x4 + (6 : Int32))) (lv' := [(4, .int (x4 + (6 : Int32))), (6, .int (b2i v188)), (5, .int v183), (0, .ref b), (1, .ref (a0 0)), (2, .ref (a13 0)), (3, .ref (a14 0))]) hx hb d_Law_law_1128 hl (k := 6) rfl rfl (by decide) rfl (fun ls hl => ?_)
          refine lv_goto (tgt := 23) hx hb d_Law_law_1131 (by decide) ?_
          refine W.widen (k := 200 + (it + 1)) (n := 40000 + 6 * (it + 1)) (by omega) (by omega) ?_
          exact hk23 a0 a1 a2 a3 a4 a5 a6 a7 a8 a9 a10 a11 a12 a13 a14 v0 (x4 + (6 : Int32)) o0 o1 o2 o3 o4 o5 o6 o7 o8 o9 o10 o11 o12 o_189 o_184 _ _ _ hN hver hP hS (lv_sub hl [3, 4, 5, 6, 0] rfl) h
        · have h := ite_f c196 h
          refine lv_iconst (v := 0) hx hb d_Law_law_822 (by decide) ?_
          cases h
      · have h := ite_f c195 h
        refine lv_lconst (v := 1) hx hb d_Law_law_813 (by decide) ?_
        refine lv_goto (tgt := 818) hx hb d_Law_law_814 (by decide) ?_
        refine W.lcmp hx hb d_Law_law_818 ?_
        refine lv_if_eq (tgt := 824) hx hb d_Law_law_819 (by decide) (fun c197 => ?_) (fun c197 => ?_)
        · have h := ite_t c197 h
          refine lv_goto (tgt := 1128) hx hb d_Law_law_824 (by decide) ?_
          refine lv_iinc (v := (x4 + (6 : Int32))) (lv' := [(4, .int (x4 + (6 : Int32))), (6, .int (b2i v188)), (5, .int v183), (0, .ref b), (1, .ref (a0 0)), (2, .ref (a13 0)), (3, .ref (a14 0))]) hx hb d_Law_law_1128 hl (k := 6) rfl rfl (by decide) rfl (fun ls hl => ?_)
          refine lv_goto (tgt := 23) hx hb d_Law_law_1131 (by decide) ?_
          refine W.widen (k := 200 + (it + 1)) (n := 40000 + 6 * (it + 1)) (by omega) (by omega) ?_
          exact hk23 a0 a1 a2 a3 a4 a5 a6 a7 a8 a9 a10 a11 a12 a13 a14 v0 (x4 + (6 : Int32)) o0 o1 o2 o3 o4 o5 o6 o7 o8 o9 o10 o11 o12 o_189 o_184 _ _ _ hN hver hP hS (lv_sub hl [3, 4, 5, 6, 0] rfl) h
        · have h := ite_f c197 h
          refine lv_iconst (v := 0) hx hb d_Law_law_822 (by decide) ?_
          cases h
  · have h := ite_f c192 h
    refine lv_iconst (v := 0) hx hb d_Law_law_798 (by decide) ?_
    cases h
def F_Law_law_827 (L : Nat) (xs : Nat → Int32) (k23 : Int32 → Ob → Ob → Ob → Ob → Ob → Ob → Ob → Ob → Ob → Ob → Ob → Ob → Ob → Ob → Ob → Option Unit) (x4 : Int32) (o0 o1 o2 o3 o4 o5 o6 o7 o8 o9 o10 o11 o12 o13 o14 : Ob) : Option Unit :=
  chk (inb (x4 + (1 : Int32)) L) (chk (inb (x4 + (2 : Int32)) L) (bind3 (F_Law_limit (xs (Int32.toNatClampNeg (x4 + (1 : Int32)))) (xs (Int32.toNatClampNeg (x4 + (2 : Int32)))) o0 o7 o6 o4 o5 o14) (fun v201 o_202 o_203 => bind2 (F_Mod_limit (xs (Int32.toNatClampNeg (x4 + (1 : Int32)))) (xs (Int32.toNatClampNeg (x4 + (2 : Int32)))) o13) (fun v207 o_208 => bind1 (F_Mod_thrown o_208) (fun v210 => if v210 = v201 then (if v201 = 0 then (chk (inb (0 : Int32) 1) (if (lg_cmp (g64 o_203 0 (Int32.toNatClampNeg (0 : Int32))) (Int32.toInt64 v207)) = 0 then (k23 (x4 + (6 : Int32)) o0 o1 o2 o3 o4 o5 o_202 o7 o8 o9 o10 o11 o12 o_208 o_203) else (none))) else (k23 (x4 + (6 : Int32)) o0 o1 o2 o3 o4 o5 o_202 o7 o8 o9 o10 o11 o12 o_208 o_203)) else (none))))))
set_option maxHeartbeats 8000000 in
set_option maxRecDepth 100000 in
theorem k_Law_law_827 {p : Program} {l : Launch} {e : Env} {s : State} {m : MethodId} {below : List Frame} {meth : Method} {c : Code} {b L : Nat} {xs : Nat → Int32} {A : Nat → Prop} {ct dC : Nat → ClassId} {dI : Nat → Nat → Nat} (C0 : lcx p s m meth c b L xs A ct dC dI) (hl0 : l.stackTraces = false) {it : Nat} (hit : it + 1 ≤ 600) {k23 : Int32 → Ob → Ob → Ob → Ob → Ob → Ob → Ob → Ob → Ob → Ob → Ob → Ob → Ob → Ob → Ob → Option Unit} (hk23 : ∀ (a0 a1 a2 a3 a4 a5 a6 a7 a8 a9 a10 a11 a12 a13 a14 : Nat → Nat) (v0 : Nat → Nat) (x4 : Int32) (o0 o1 o2 o3 o4 o5 o6 o7 o8 o9 o10 o11 o12 o13 o14 : Ob) (H : Heap) (locs : List Loc) (ls : Array Slot), bw_N A [adPF a0, adReader a1, adText a2, adSteps a3, adText a4, adSteps a5, adReckoner a6, adCells a7, adCells a8, adCells a9, adCells a10, adCells a11, adCells a12, adMod a13, adOut a14] → (v0 0 = a9 0 ∧ v0 1 = a10 0 ∧ v0 2 = a11 0 ∧ v0 3 = a12 0) → bw_P (dC, dI) vwCl [wPF ct a0 (a1 0) (a4 0) (a6 0) (a7 0) (a8 0) v0 o0, wReader ct a1 (a2 0) o1, wText ct a2 (a3 0) o2, wSteps ct a3 o3, wText ct a4 (a5 0) o4, wSteps ct a5 o5, wReckoner ct a6 o6, wCells ct a7 o7, wCells ct a8 o8, wCells ct a9 o9, wCells ct a10 o10, wCells ct a11 o11, wCells ct a12 o12, wMod ct a13 o13, wOut ct a14 o14] H → va_S A s.heap H locs → lv_has ls 8 [(0, .ref b), (1, .ref (a0 0)), (2, .ref (a13 0)), (3, .ref (a14 0)), (4, .int x4)] → k23 x4 o0 o1 o2 o3 o4 o5 o6 o7 o8 o9 o10 o11 o12 o13 o14 = some () → W p l e room_1 s m #[Value.ref b] below meth c H locs (200 + (it + 1)) (40000 + 6 * (it + 1)) (lw_Z below #[Value.ref b] s) (F0 m 23 ls [])) : ∀ (a0 a1 a2 a3 a4 a5 a6 a7 a8 a9 a10 a11 a12 a13 a14 : Nat → Nat) (v0 : Nat → Nat) (x4 : Int32) (o0 o1 o2 o3 o4 o5 o6 o7 o8 o9 o10 o11 o12 o13 o14 : Ob) (H : Heap) (locs : List Loc) (ls : Array Slot), bw_N A [adPF a0, adReader a1, adText a2, adSteps a3, adText a4, adSteps a5, adReckoner a6, adCells a7, adCells a8, adCells a9, adCells a10, adCells a11, adCells a12, adMod a13, adOut a14] → (v0 0 = a9 0 ∧ v0 1 = a10 0 ∧ v0 2 = a11 0 ∧ v0 3 = a12 0) → bw_P (dC, dI) vwCl [wPF ct a0 (a1 0) (a4 0) (a6 0) (a7 0) (a8 0) v0 o0, wReader ct a1 (a2 0) o1, wText ct a2 (a3 0) o2, wSteps ct a3 o3, wText ct a4 (a5 0) o4, wSteps ct a5 o5, wReckoner ct a6 o6, wCells ct a7 o7, wCells ct a8 o8, wCells ct a9 o9, wCells ct a10 o10, wCells ct a11 o11, wCells ct a12 o12, wMod ct a13 o13, wOut ct a14 o14] H → va_S A s.heap H locs → lv_has ls 8 [(0, .ref b), (1, .ref (a0 0)), (2, .ref (a13 0)), (3, .ref (a14 0)), (4, .int x4)] → F_Law_law_827 L xs k23 x4 o0 o1 o2 o3 o4 o5 o6 o7 o8 o9 o10 o11 o12 o13 o14 = some () → W p l e room_1 s m #[Value.ref b] below meth c H locs (200 + it) (40000 + 6 * it) (lw_Z below #[Value.ref b] s) (F0 m 827 ls []) := by
  obtain ⟨hx, hb, hr, hml, hown, hlocks, hts, hK, hA, hAs, hX, hbl, hnx, hthy, hex9, hsx⟩ := id C0
  have hbA : ¬ A b := fun z => absurd (hAs b z) (Nat.not_le.mpr hbl)
  intro a0 a1 a2 a3 a4 a5 a6 a7 a8 a9 a10 a11 a12 a13 a14 v0 x4 o0 o1 o2 o3 o4 o5 o6 o7 o8 o9 o10 o11 o12 o13 o14 H locs ls hN hver hP hS hl h
  rw [F_Law_law_827] at h
  refine lv_aload_n hx hb d_Law_law_827 rfl (lv_at hl 1 rfl) ?_
  refine lv_aload_n hx hb d_Law_law_828 rfl (lv_at hl 0 rfl) ?_
  refine lv_iload hx hb d_Law_law_829 (lv_at hl 4 rfl) ?_
  refine lv_iconst (v := 1) hx hb d_Law_law_831 (by decide) ?_
  refine lv_iadd hx hb d_Law_law_832 ?_
  obtain ⟨hi198, h⟩ := chk_some h
  refine va_sld hx hb hX hbl hbA hS (inb_in hi198) d_Law_law_833 ?_
  refine lv_aload_n hx hb d_Law_law_834 rfl (lv_at hl 0 rfl) ?_
  refine lv_iload hx hb d_Law_law_835 (lv_at hl 4 rfl) ?_
  refine lv_iconst (v := 2) hx hb d_Law_law_837 (by decide) ?_
  refine lv_iadd hx hb d_Law_law_838 ?_
  obtain ⟨hi199, h⟩ := chk_some h
  refine va_sld hx hb hX hbl hbA hS (inb_in hi199) d_Law_law_839 ?_
  refine lv_aload_n hx hb d_Law_law_840 rfl (lv_at hl 3 rfl) ?_
  obtain ⟨v201, o_202, o_203, hG200, h⟩ := bind3_some h
  refine bw_call (Lc := [wPF ct a0 (a1 0) (a4 0) (a6 0) (a7 0) (a8 0) v0 o0, wCells ct a7 o7, wReckoner ct a6 o6, wText ct a4 (a5 0) o4, wSteps ct a5 o5, wOut ct a14 o14]) (Lc' := [wPF ct a0 (a1 0) (a4 0) (a6 0) (a7 0) (a8 0) v0 o0, wCells ct a7 o7, wReckoner ct a6 o_202, wText ct a4 (a5 0) o4, wSteps ct a5 o5, wOut ct a14 o_203]) (L' := [wPF ct a0 (a1 0) (a4 0) (a6 0) (a7 0) (a8 0) v0 o0, wReader ct a1 (a2 0) o1, wText ct a2 (a3 0) o2, wSteps ct a3 o3, wText ct a4 (a5 0) o4, wSteps ct a5 o5, wReckoner ct a6 o_202, wCells ct a7 o7, wCells ct a8 o8, wCells ct a9 o9, wCells ct a10 o10, wCells ct a11 o11, wCells ct a12 o12, wMod ct a13 o13, wOut ct a14 o_203]) [0, 7, 6, 4, 5, 14] (bt_runSW (As := [.ref (a0 0), .int (xs (Int32.toNatClampNeg (x4 + (1 : Int32)))), .int (xs (Int32.toNatClampNeg (x4 + (2 : Int32)))), .ref (a14 0)]) (rest := []) ⟨hx, hb, hml, hown, hts⟩ (c_Law_limit l hl0 ct dC dI a0 a7 a6 a4 a5 a14 (a1 0) (a8 0) v0 _ (xs (Int32.toNatClampNeg (x4 + (1 : Int32)))) (xs (Int32.toNatClampNeg (x4 + (2 : Int32)))) o0 o7 o6 o4 o5 o14 v201 o_202 o_203 hG200) (gd_any cd_Law_limit) rfl rfl rfl (hts _ ini_Law) (hts _ ml_Law_116) (hts _ st_Law_limit) (by decide +kernel) ⟨Nat.le_of_ble_eq_true rfl, Nat.le_of_ble_eq_true rfl⟩ ⟨bw_blind thh_call, fun U hU hW => ⟨rfl, by rw [hU], by rw [hU]; exact hP.sub [0, 7, 6, 4, 5, 14] rfl, va_K.moved hW.alike hK, (hN.sub [0, 7, 6, 4, 5, 14] (by decide) rfl).weaken (fun _ _ => trivial), ⟨nx_warm hW hnx, thy_x hthy hS hAs hW hU, exX.moved hW.alike hex9⟩⟩⟩ rfl rfl hl.1 rfl (Nat.le_of_ble_eq_true rfl) d_Law_law_841 ⟨by rw [room_c]; omega, by rw [room_s]; omega⟩) hP hN hS hA rfl rfl rfl (fun H locs hP hS => ?_)
  refine lv_istore (lv' := [(5, .int v201), (0, .ref b), (1, .ref (a0 0)), (2, .ref (a13 0)), (3, .ref (a14 0)), (4, .int x4)]) hx hb d_Law_law_844 hl (by decide) rfl (fun ls hl => ?_)
  refine lv_aload_n hx hb d_Law_law_846 rfl (lv_at hl 3 rfl) ?_
  refine lv_aload_n hx hb d_Law_law_847 rfl (lv_at hl 1 rfl) ?_
  refine lv_iload hx hb d_Law_law_848 (lv_at hl 5 rfl) ?_
  refine lv_iconst (v := 1) hx hb d_Law_law_850 (by decide) ?_
  refine lv_iadd hx hb d_Law_law_851 ?_
  refine va_sld hx hb hX hbl hbA hS (inb_in hi198) d_Law_law_852 ?_
  refine lv_aload_n hx hb d_Law_law_853 rfl (lv_at hl 1 rfl) ?_
  refine lv_iload hx hb d_Law_law_854 (lv_at hl 5 rfl) ?_
  refine lv_iconst (v := 2) hx hb d_Law_law_856 (by decide) ?_
  refine lv_iadd hx hb d_Law_law_857 ?_
  refine va_sld hx hb hX hbl hbA hS (inb_in hi199) d_Law_law_858 ?_
  obtain ⟨v207, o_208, hG206, h⟩ := bind2_some h
  refine bw_call (Lc := [wMod ct a13 o13]) (Lc' := [wMod ct a13 o_208]) (L' := [wPF ct a0 (a1 0) (a4 0) (a6 0) (a7 0) (a8 0) v0 o0, wReader ct a1 (a2 0) o1, wText ct a2 (a3 0) o2, wSteps ct a3 o3, wText ct a4 (a5 0) o4, wSteps ct a5 o5, wReckoner ct a6 o_202, wCells ct a7 o7, wCells ct a8 o8, wCells ct a9 o9, wCells ct a10 o10, wCells ct a11 o11, wCells ct a12 o12, wMod ct a13 o_208, wOut ct a14 o_203]) [13] (va_runV (As := [.int (xs (Int32.toNatClampNeg (x4 + (1 : Int32)))), .int (xs (Int32.toNatClampNeg (x4 + (2 : Int32))))]) (rest := []) ⟨hx, hb, hml, hown, hts⟩ (c_Mod_limit l ct dC dI a13 _ (xs (Int32.toNatClampNeg (x4 + (1 : Int32)))) (xs (Int32.toNatClampNeg (x4 + (2 : Int32)))) o13 v207 o_208 hG206) (cwV 2 hts g_Law_118 rfl rfl rfl (by decide +kernel) ⟨Nat.le_of_ble_eq_true rfl, Nat.le_of_ble_eq_true rfl⟩) ⟨bw_blind nx_call, va_recv hK (hP 13 _ rfl) (ci := 6) (q0 := 0) rfl rfl, fun U hU hW => ⟨rfl, by rw [hU], by rw [hU]; exact hP.sub [13] rfl, va_K.moved hW.alike hK, (hN.sub [13] (by decide) rfl).weaken (fun _ _ => trivial), nx_warm hW hnx⟩⟩ rfl rfl hl.1 rfl (Nat.le_of_ble_eq_true rfl) d_Law_law_859 ⟨by rw [room_c]; omega, by rw [room_s]; omega⟩) hP hN hS hA rfl rfl rfl (fun H locs hP hS => ?_)
  refine lv_istore (lv' := [(6, .int v207), (5, .int v201), (0, .ref b), (1, .ref (a0 0)), (2, .ref (a13 0)), (3, .ref (a14 0)), (4, .int x4)]) hx hb d_Law_law_862 hl (by decide) rfl (fun ls hl => ?_)
  refine lv_aload_n hx hb d_Law_law_864 rfl (lv_at hl 4 rfl) ?_
  obtain ⟨v210, hG209, h⟩ := bind1_some h
  refine bw_callR (va_runV (As := []) (rest := []) ⟨hx, hb, hml, hown, hts⟩ (c_Mod_thrown l ct dC dI a13 _ o_208 v210 hG209) (cwV 0 hts g_Law_83 rfl rfl rfl (by decide +kernel) ⟨Nat.le_of_ble_eq_true rfl, Nat.le_of_ble_eq_true rfl⟩) ⟨bw_blind nx_call, va_recv hK (hP 13 _ rfl) (ci := 6) (q0 := 0) rfl rfl, fun U hU hW => ⟨rfl, by rw [hU], by rw [hU]; exact hP.sub [13] rfl, va_K.moved hW.alike hK, (hN.sub [13] (by decide) rfl).weaken (fun _ _ => trivial), nx_warm hW hnx⟩⟩ rfl rfl hl.1 rfl (Nat.le_of_ble_eq_true rfl) d_Law_law_865 ⟨by rw [room_c]; omega, by rw [room_s]; omega⟩) ?_
  refine lv_iload hx hb d_Law_law_868 (lv_at hl 1 rfl) ?_
  refine lv_icmp_eq (tgt := 875) hx hb d_Law_law_870 (by decide) (fun c211 => ?_) (fun c211 => ?_)
  · have h := ite_t c211 h
    refine lv_iload hx hb d_Law_law_875 (lv_at hl 1 rfl) ?_
    refine lv_if_ne (tgt := 892) hx hb d_Law_law_877 (by decide) (fun c212 => ?_) (fun c212 => ?_)
    · have h := ite_f c212 h
      refine lv_goto (tgt := 1128) hx hb d_Law_law_892 (by decide) ?_
      refine lv_iinc (v := (x4 + (6 : Int32))) (lv' := [(4, .int (x4 + (6 : Int32))), (6, .int v207), (5, .int v201), (0, .ref b), (1, .ref (a0 0)), (2, .ref (a13 0)), (3, .ref (a14 0))]) hx hb d_Law_law_1128 hl (k := 6) rfl rfl (by decide) rfl (fun ls hl => ?_)
      refine lv_goto (tgt := 23) hx hb d_Law_law_1131 (by decide) ?_
      refine W.widen (k := 200 + (it + 1)) (n := 40000 + 6 * (it + 1)) (by omega) (by omega) ?_
      exact hk23 a0 a1 a2 a3 a4 a5 a6 a7 a8 a9 a10 a11 a12 a13 a14 v0 (x4 + (6 : Int32)) o0 o1 o2 o3 o4 o5 o_202 o7 o8 o9 o10 o11 o12 o_208 o_203 _ _ _ hN hver hP hS (lv_sub hl [3, 4, 5, 6, 0] rfl) h
    · have h := ite_t c212 h
      refine lv_aload_n hx hb d_Law_law_880 rfl (lv_at hl 5 rfl) ?_
      refine lv_iconst (v := 0) hx hb d_Law_law_881 (by decide) ?_
      obtain ⟨hi213, h⟩ := chk_some h
      refine va_lald (f := g64 o_203 0) hx hb hK (hP 14 _ rfl) 0 1 rfl rfl (inb_in hi213) d_Law_law_882 ?_
      refine lv_iload hx hb d_Law_law_883 (lv_at hl 0 rfl) ?_
      refine lv_i2l (v := (Int32.toInt64 v207)) hx hb d_Law_law_885 rfl ?_
      refine W.lcmp hx hb d_Law_law_886 ?_
      refine lv_if_eq (tgt := 892) hx hb d_Law_law_887 (by decide) (fun c214 => ?_) (fun c214 => ?_)
      · have h := ite_t c214 h
        refine lv_goto (tgt := 1128) hx hb d_Law_law_892 (by decide) ?_
        refine lv_iinc (v := (x4 + (6 : Int32))) (lv' := [(4, .int (x4 + (6 : Int32))), (6, .int v207), (5, .int v201), (0, .ref b), (1, .ref (a0 0)), (2, .ref (a13 0)), (3, .ref (a14 0))]) hx hb d_Law_law_1128 hl (k := 6) rfl rfl (by decide) rfl (fun ls hl => ?_)
        refine lv_goto (tgt := 23) hx hb d_Law_law_1131 (by decide) ?_
        refine W.widen (k := 200 + (it + 1)) (n := 40000 + 6 * (it + 1)) (by omega) (by omega) ?_
        exact hk23 a0 a1 a2 a3 a4 a5 a6 a7 a8 a9 a10 a11 a12 a13 a14 v0 (x4 + (6 : Int32)) o0 o1 o2 o3 o4 o5 o_202 o7 o8 o9 o10 o11 o12 o_208 o_203 _ _ _ hN hver hP hS (lv_sub hl [3, 4, 5, 6, 0] rfl) h
      · have h := ite_f c214 h
        refine lv_iconst (v := 0) hx hb d_Law_law_890 (by decide) ?_
        cases h
  · have h := ite_f c211 h
    refine lv_iconst (v := 0) hx hb d_Law_law_873 (by decide) ?_
    cases h
def F_Law_law_895 (L : Nat) (xs : Nat → Int32) (k23 : Int32 → Ob → Ob → Ob → Ob → Ob → Ob → Ob → Ob → Ob → Ob → Ob → Ob → Ob → Ob → Ob → Option Unit) (x4 : Int32) (o0 o1 o2 o3 o4 o5 o6 o7 o8 o9 o10 o11 o12 o13 o14 : Ob) : Option Unit :=
  chk (inb (x4 + (1 : Int32)) L) (bind4 (F_Law_check (xs (Int32.toNatClampNeg (x4 + (1 : Int32)))) o0 o7 o6 o4 o8 o5 o14) (fun v217 o_218 o_219 o_220 => bind2 (F_Mod_check (xs (Int32.toNatClampNeg (x4 + (1 : Int32)))) o13) (fun v223 o_224 => bind1 (F_Mod_thrown o_224) (fun v226 => if v226 = v217 then (if v217 = 0 then (chk (inb (0 : Int32) 1) (if (lg_cmp (g64 o_220 0 (Int32.toNatClampNeg (0 : Int32))) (Int32.toInt64 v223)) = 0 then (k23 (x4 + (6 : Int32)) o0 o1 o2 o3 o4 o5 o_218 o7 o_219 o9 o10 o11 o12 o_224 o_220) else (none))) else (k23 (x4 + (6 : Int32)) o0 o1 o2 o3 o4 o5 o_218 o7 o_219 o9 o10 o11 o12 o_224 o_220)) else (none)))))
set_option maxHeartbeats 8000000 in
set_option maxRecDepth 100000 in
theorem k_Law_law_895 {p : Program} {l : Launch} {e : Env} {s : State} {m : MethodId} {below : List Frame} {meth : Method} {c : Code} {b L : Nat} {xs : Nat → Int32} {A : Nat → Prop} {ct dC : Nat → ClassId} {dI : Nat → Nat → Nat} (C0 : lcx p s m meth c b L xs A ct dC dI) (hl0 : l.stackTraces = false) {it : Nat} (hit : it + 1 ≤ 600) {k23 : Int32 → Ob → Ob → Ob → Ob → Ob → Ob → Ob → Ob → Ob → Ob → Ob → Ob → Ob → Ob → Ob → Option Unit} (hk23 : ∀ (a0 a1 a2 a3 a4 a5 a6 a7 a8 a9 a10 a11 a12 a13 a14 : Nat → Nat) (v0 : Nat → Nat) (x4 : Int32) (o0 o1 o2 o3 o4 o5 o6 o7 o8 o9 o10 o11 o12 o13 o14 : Ob) (H : Heap) (locs : List Loc) (ls : Array Slot), bw_N A [adPF a0, adReader a1, adText a2, adSteps a3, adText a4, adSteps a5, adReckoner a6, adCells a7, adCells a8, adCells a9, adCells a10, adCells a11, adCells a12, adMod a13, adOut a14] → (v0 0 = a9 0 ∧ v0 1 = a10 0 ∧ v0 2 = a11 0 ∧ v0 3 = a12 0) → bw_P (dC, dI) vwCl [wPF ct a0 (a1 0) (a4 0) (a6 0) (a7 0) (a8 0) v0 o0, wReader ct a1 (a2 0) o1, wText ct a2 (a3 0) o2, wSteps ct a3 o3, wText ct a4 (a5 0) o4, wSteps ct a5 o5, wReckoner ct a6 o6, wCells ct a7 o7, wCells ct a8 o8, wCells ct a9 o9, wCells ct a10 o10, wCells ct a11 o11, wCells ct a12 o12, wMod ct a13 o13, wOut ct a14 o14] H → va_S A s.heap H locs → lv_has ls 8 [(0, .ref b), (1, .ref (a0 0)), (2, .ref (a13 0)), (3, .ref (a14 0)), (4, .int x4)] → k23 x4 o0 o1 o2 o3 o4 o5 o6 o7 o8 o9 o10 o11 o12 o13 o14 = some () → W p l e room_1 s m #[Value.ref b] below meth c H locs (200 + (it + 1)) (40000 + 6 * (it + 1)) (lw_Z below #[Value.ref b] s) (F0 m 23 ls [])) : ∀ (a0 a1 a2 a3 a4 a5 a6 a7 a8 a9 a10 a11 a12 a13 a14 : Nat → Nat) (v0 : Nat → Nat) (x4 : Int32) (o0 o1 o2 o3 o4 o5 o6 o7 o8 o9 o10 o11 o12 o13 o14 : Ob) (H : Heap) (locs : List Loc) (ls : Array Slot), bw_N A [adPF a0, adReader a1, adText a2, adSteps a3, adText a4, adSteps a5, adReckoner a6, adCells a7, adCells a8, adCells a9, adCells a10, adCells a11, adCells a12, adMod a13, adOut a14] → (v0 0 = a9 0 ∧ v0 1 = a10 0 ∧ v0 2 = a11 0 ∧ v0 3 = a12 0) → bw_P (dC, dI) vwCl [wPF ct a0 (a1 0) (a4 0) (a6 0) (a7 0) (a8 0) v0 o0, wReader ct a1 (a2 0) o1, wText ct a2 (a3 0) o2, wSteps ct a3 o3, wText ct a4 (a5 0) o4, wSteps ct a5 o5, wReckoner ct a6 o6, wCells ct a7 o7, wCells ct a8 o8, wCells ct a9 o9, wCells ct a10 o10, wCells ct a11 o11, wCells ct a12 o12, wMod ct a13 o13, wOut ct a14 o14] H → va_S A s.heap H locs → lv_has ls 8 [(0, .ref b), (1, .ref (a0 0)), (2, .ref (a13 0)), (3, .ref (a14 0)), (4, .int x4)] → F_Law_law_895 L xs k23 x4 o0 o1 o2 o3 o4 o5 o6 o7 o8 o9 o10 o11 o12 o13 o14 = some () → W p l e room_1 s m #[Value.ref b] below meth c H locs (200 + it) (40000 + 6 * it) (lw_Z below #[Value.ref b] s) (F0 m 895 ls []) := by
  obtain ⟨hx, hb, hr, hml, hown, hlocks, hts, hK, hA, hAs, hX, hbl, hnx, hthy, hex9, hsx⟩ := id C0
  have hbA : ¬ A b := fun z => absurd (hAs b z) (Nat.not_le.mpr hbl)
  intro a0 a1 a2 a3 a4 a5 a6 a7 a8 a9 a10 a11 a12 a13 a14 v0 x4 o0 o1 o2 o3 o4 o5 o6 o7 o8 o9 o10 o11 o12 o13 o14 H locs ls hN hver hP hS hl h
  rw [F_Law_law_895] at h
  refine lv_aload_n hx hb d_Law_law_895 rfl (lv_at hl 1 rfl) ?_
  refine lv_aload_n hx hb d_Law_law_896 rfl (lv_at hl 0 rfl) ?_
  refine lv_iload hx hb d_Law_law_897 (lv_at hl 4 rfl) ?_
  refine lv_iconst (v := 1) hx hb d_Law_law_899 (by decide) ?_
  refine lv_iadd hx hb d_Law_law_900 ?_
  obtain ⟨hi215, h⟩ := chk_some h
  refine va_sld hx hb hX hbl hbA hS (inb_in hi215) d_Law_law_901 ?_
  refine lv_aload_n hx hb d_Law_law_902 rfl (lv_at hl 3 rfl) ?_
  obtain ⟨v217, o_218, o_219, o_220, hG216, h⟩ := bind4_some h
  refine bw_call (Lc := [wPF ct a0 (a1 0) (a4 0) (a6 0) (a7 0) (a8 0) v0 o0, wCells ct a7 o7, wReckoner ct a6 o6, wText ct a4 (a5 0) o4, wCells ct a8 o8, wSteps ct a5 o5, wOut ct a14 o14]) (Lc' := [wPF ct a0 (a1 0) (a4 0) (a6 0) (a7 0) (a8 0) v0 o0, wCells ct a7 o7, wReckoner ct a6 o_218, wText ct a4 (a5 0) o4, wCells ct a8 o_219, wSteps ct a5 o5, wOut ct a14 o_220]) (L' := [wPF ct a0 (a1 0) (a4 0) (a6 0) (a7 0) (a8 0) v0 o0, wReader ct a1 (a2 0) o1, wText ct a2 (a3 0) o2, wSteps ct a3 o3, wText ct a4 (a5 0) o4, wSteps ct a5 o5, wReckoner ct a6 o_218, wCells ct a7 o7, wCells ct a8 o_219, wCells ct a9 o9, wCells ct a10 o10, wCells ct a11 o11, wCells ct a12 o12, wMod ct a13 o13, wOut ct a14 o_220]) [0, 7, 6, 4, 8, 5, 14] (bt_runSW (As := [.ref (a0 0), .int (xs (Int32.toNatClampNeg (x4 + (1 : Int32)))), .ref (a14 0)]) (rest := []) ⟨hx, hb, hml, hown, hts⟩ (c_Law_check l hl0 ct dC dI a0 a7 a6 a4 a8 a5 a14 (a1 0) v0 _ (xs (Int32.toNatClampNeg (x4 + (1 : Int32)))) o0 o7 o6 o4 o8 o5 o14 v217 o_218 o_219 o_220 hG216) (gd_any cd_Law_check) rfl rfl rfl (hts _ ini_Law) (hts _ ml_Law_119) (hts _ st_Law_check) (by decide +kernel) ⟨Nat.le_of_ble_eq_true rfl, Nat.le_of_ble_eq_true rfl⟩ ⟨bw_blind thh_call, fun U hU hW => ⟨rfl, by rw [hU], by rw [hU]; exact hP.sub [0, 7, 6, 4, 8, 5, 14] rfl, va_K.moved hW.alike hK, (hN.sub [0, 7, 6, 4, 8, 5, 14] (by decide) rfl).weaken (fun _ _ => trivial), ⟨nx_warm hW hnx, thy_x hthy hS hAs hW hU, exX.moved hW.alike hex9⟩⟩⟩ rfl rfl hl.1 rfl (Nat.le_of_ble_eq_true rfl) d_Law_law_903 ⟨by rw [room_c]; omega, by rw [room_s]; omega⟩) hP hN hS hA rfl rfl rfl (fun H locs hP hS => ?_)
  refine lv_istore (lv' := [(5, .int v217), (0, .ref b), (1, .ref (a0 0)), (2, .ref (a13 0)), (3, .ref (a14 0)), (4, .int x4)]) hx hb d_Law_law_906 hl (by decide) rfl (fun ls hl => ?_)
  refine lv_aload_n hx hb d_Law_law_908 rfl (lv_at hl 3 rfl) ?_
  refine lv_aload_n hx hb d_Law_law_909 rfl (lv_at hl 1 rfl) ?_
  refine lv_iload hx hb d_Law_law_910 (lv_at hl 5 rfl) ?_
  refine lv_iconst (v := 1) hx hb d_Law_law_912 (by decide) ?_
  refine lv_iadd hx hb d_Law_law_913 ?_
  refine va_sld hx hb hX hbl hbA hS (inb_in hi215) d_Law_law_914 ?_
  obtain ⟨v223, o_224, hG222, h⟩ := bind2_some h
  refine bw_call (Lc := [wMod ct a13 o13]) (Lc' := [wMod ct a13 o_224]) (L' := [wPF ct a0 (a1 0) (a4 0) (a6 0) (a7 0) (a8 0) v0 o0, wReader ct a1 (a2 0) o1, wText ct a2 (a3 0) o2, wSteps ct a3 o3, wText ct a4 (a5 0) o4, wSteps ct a5 o5, wReckoner ct a6 o_218, wCells ct a7 o7, wCells ct a8 o_219, wCells ct a9 o9, wCells ct a10 o10, wCells ct a11 o11, wCells ct a12 o12, wMod ct a13 o_224, wOut ct a14 o_220]) [13] (va_runV (As := [.int (xs (Int32.toNatClampNeg (x4 + (1 : Int32))))]) (rest := []) ⟨hx, hb, hml, hown, hts⟩ (c_Mod_check l ct dC dI a13 _ (xs (Int32.toNatClampNeg (x4 + (1 : Int32)))) o13 v223 o_224 hG222) (cwV 1 hts g_Law_121 rfl rfl rfl (by decide +kernel) ⟨Nat.le_of_ble_eq_true rfl, Nat.le_of_ble_eq_true rfl⟩) ⟨bw_blind nx_call, va_recv hK (hP 13 _ rfl) (ci := 6) (q0 := 0) rfl rfl, fun U hU hW => ⟨rfl, by rw [hU], by rw [hU]; exact hP.sub [13] rfl, va_K.moved hW.alike hK, (hN.sub [13] (by decide) rfl).weaken (fun _ _ => trivial), nx_warm hW hnx⟩⟩ rfl rfl hl.1 rfl (Nat.le_of_ble_eq_true rfl) d_Law_law_915 ⟨by rw [room_c]; omega, by rw [room_s]; omega⟩) hP hN hS hA rfl rfl rfl (fun H locs hP hS => ?_)
  refine lv_istore (lv' := [(6, .int v223), (5, .int v217), (0, .ref b), (1, .ref (a0 0)), (2, .ref (a13 0)), (3, .ref (a14 0)), (4, .int x4)]) hx hb d_Law_law_918 hl (by decide) rfl (fun ls hl => ?_)
  refine lv_aload_n hx hb d_Law_law_920 rfl (lv_at hl 4 rfl) ?_
  obtain ⟨v226, hG225, h⟩ := bind1_some h
  refine bw_callR (va_runV (As := []) (rest := []) ⟨hx, hb, hml, hown, hts⟩ (c_Mod_thrown l ct dC dI a13 _ o_224 v226 hG225) (cwV 0 hts g_Law_83 rfl rfl rfl (by decide +kernel) ⟨Nat.le_of_ble_eq_true rfl, Nat.le_of_ble_eq_true rfl⟩) ⟨bw_blind nx_call, va_recv hK (hP 13 _ rfl) (ci := 6) (q0 := 0) rfl rfl, fun U hU hW => ⟨rfl, by rw [hU], by rw [hU]; exact hP.sub [13] rfl, va_K.moved hW.alike hK, (hN.sub [13] (by decide) rfl).weaken (fun _ _ => trivial), nx_warm hW hnx⟩⟩ rfl rfl hl.1 rfl (Nat.le_of_ble_eq_true rfl) d_Law_law_921 ⟨by rw [room_c]; omega, by rw [room_s]; omega⟩) ?_
  refine lv_iload hx hb d_Law_law_924 (lv_at hl 1 rfl) ?_
  refine lv_icmp_eq (tgt := 931) hx hb d_Law_law_926 (by decide) (fun c227 => ?_) (fun c227 => ?_)
  · have h := ite_t c227 h
    refine lv_iload hx hb d_Law_law_931 (lv_at hl 1 rfl) ?_
    refine lv_if_ne (tgt := 948) hx hb d_Law_law_933 (by decide) (fun c228 => ?_) (fun c228 => ?_)
    · have h := ite_f c228 h
      refine lv_goto (tgt := 1128) hx hb d_Law_law_948 (by decide) ?_
      refine lv_iinc (v := (x4 + (6 : Int32))) (lv' := [(4, .int (x4 + (6 : Int32))), (6, .int v223), (5, .int v217), (0, .ref b), (1, .ref (a0 0)), (2, .ref (a13 0)), (3, .ref (a14 0))]) hx hb d_Law_law_1128 hl (k := 6) rfl rfl (by decide) rfl (fun ls hl => ?_)
      refine lv_goto (tgt := 23) hx hb d_Law_law_1131 (by decide) ?_
      refine W.widen (k := 200 + (it + 1)) (n := 40000 + 6 * (it + 1)) (by omega) (by omega) ?_
      exact hk23 a0 a1 a2 a3 a4 a5 a6 a7 a8 a9 a10 a11 a12 a13 a14 v0 (x4 + (6 : Int32)) o0 o1 o2 o3 o4 o5 o_218 o7 o_219 o9 o10 o11 o12 o_224 o_220 _ _ _ hN hver hP hS (lv_sub hl [3, 4, 5, 6, 0] rfl) h
    · have h := ite_t c228 h
      refine lv_aload_n hx hb d_Law_law_936 rfl (lv_at hl 5 rfl) ?_
      refine lv_iconst (v := 0) hx hb d_Law_law_937 (by decide) ?_
      obtain ⟨hi229, h⟩ := chk_some h
      refine va_lald (f := g64 o_220 0) hx hb hK (hP 14 _ rfl) 0 1 rfl rfl (inb_in hi229) d_Law_law_938 ?_
      refine lv_iload hx hb d_Law_law_939 (lv_at hl 0 rfl) ?_
      refine lv_i2l (v := (Int32.toInt64 v223)) hx hb d_Law_law_941 rfl ?_
      refine W.lcmp hx hb d_Law_law_942 ?_
      refine lv_if_eq (tgt := 948) hx hb d_Law_law_943 (by decide) (fun c230 => ?_) (fun c230 => ?_)
      · have h := ite_t c230 h
        refine lv_goto (tgt := 1128) hx hb d_Law_law_948 (by decide) ?_
        refine lv_iinc (v := (x4 + (6 : Int32))) (lv' := [(4, .int (x4 + (6 : Int32))), (6, .int v223), (5, .int v217), (0, .ref b), (1, .ref (a0 0)), (2, .ref (a13 0)), (3, .ref (a14 0))]) hx hb d_Law_law_1128 hl (k := 6) rfl rfl (by decide) rfl (fun ls hl => ?_)
        refine lv_goto (tgt := 23) hx hb d_Law_law_1131 (by decide) ?_
        refine W.widen (k := 200 + (it + 1)) (n := 40000 + 6 * (it + 1)) (by omega) (by omega) ?_
        exact hk23 a0 a1 a2 a3 a4 a5 a6 a7 a8 a9 a10 a11 a12 a13 a14 v0 (x4 + (6 : Int32)) o0 o1 o2 o3 o4 o5 o_218 o7 o_219 o9 o10 o11 o12 o_224 o_220 _ _ _ hN hver hP hS (lv_sub hl [3, 4, 5, 6, 0] rfl) h
      · have h := ite_f c230 h
        refine lv_iconst (v := 0) hx hb d_Law_law_946 (by decide) ?_
        cases h
  · have h := ite_f c227 h
    refine lv_iconst (v := 0) hx hb d_Law_law_929 (by decide) ?_
    cases h
def F_Law_law_951 (L : Nat) (xs : Nat → Int32) (k23 : Int32 → Ob → Ob → Ob → Ob → Ob → Ob → Ob → Ob → Ob → Ob → Ob → Ob → Ob → Ob → Ob → Option Unit) (x4 : Int32) (o0 o1 o2 o3 o4 o5 o6 o7 o8 o9 o10 o11 o12 o13 o14 : Ob) : Option Unit :=
  if (g32 o0 8 0) = 0 then (bind4 (F_Law_version o0 o7 o9 o14) (fun v233 o_234 o_235 o_236 => bind2 (F_Mod_version o13) (fun v238 o_239 => bind1 (F_Mod_thrown o_239) (fun v241 => if v241 = v233 then (if v233 = 0 then (chk (inb (0 : Int32) 1) (if (lg_cmp (g64 o_236 0 (Int32.toNatClampNeg (0 : Int32))) (Int32.toInt64 v238)) = 0 then (k23 (x4 + (6 : Int32)) o_234 o1 o2 o3 o4 o5 o6 o7 o8 o_235 o10 o11 o12 o_239 o_236) else (none))) else (k23 (x4 + (6 : Int32)) o_234 o1 o2 o3 o4 o5 o6 o7 o8 o_235 o10 o11 o12 o_239 o_236)) else (none))))) else (if (g32 o0 8 0) = 1 then (bind4 (F_Law_version o0 o7 o10 o14) (fun v248 o_249 o_250 o_251 => bind2 (F_Mod_version o13) (fun v253 o_254 => bind1 (F_Mod_thrown o_254) (fun v256 => if v256 = v248 then (if v248 = 0 then (chk (inb (0 : Int32) 1) (if (lg_cmp (g64 o_251 0 (Int32.toNatClampNeg (0 : Int32))) (Int32.toInt64 v253)) = 0 then (k23 (x4 + (6 : Int32)) o_249 o1 o2 o3 o4 o5 o6 o7 o8 o9 o_250 o11 o12 o_254 o_251) else (none))) else (k23 (x4 + (6 : Int32)) o_249 o1 o2 o3 o4 o5 o6 o7 o8 o9 o_250 o11 o12 o_254 o_251)) else (none))))) else (if (g32 o0 8 0) = 2 then (bind4 (F_Law_version o0 o7 o11 o14) (fun v263 o_264 o_265 o_266 => bind2 (F_Mod_version o13) (fun v268 o_269 => bind1 (F_Mod_thrown o_269) (fun v271 => if v271 = v263 then (if v263 = 0 then (chk (inb (0 : Int32) 1) (if (lg_cmp (g64 o_266 0 (Int32.toNatClampNeg (0 : Int32))) (Int32.toInt64 v268)) = 0 then (k23 (x4 + (6 : Int32)) o_264 o1 o2 o3 o4 o5 o6 o7 o8 o9 o10 o_265 o12 o_269 o_266) else (none))) else (k23 (x4 + (6 : Int32)) o_264 o1 o2 o3 o4 o5 o6 o7 o8 o9 o10 o_265 o12 o_269 o_266)) else (none))))) else (if (g32 o0 8 0) = 3 then (bind4 (F_Law_version o0 o7 o12 o14) (fun v278 o_279 o_280 o_281 => bind2 (F_Mod_version o13) (fun v283 o_284 => bind1 (F_Mod_thrown o_284) (fun v286 => if v286 = v278 then (if v278 = 0 then (chk (inb (0 : Int32) 1) (if (lg_cmp (g64 o_281 0 (Int32.toNatClampNeg (0 : Int32))) (Int32.toInt64 v283)) = 0 then (k23 (x4 + (6 : Int32)) o_279 o1 o2 o3 o4 o5 o6 o7 o8 o9 o10 o11 o_280 o_284 o_281) else (none))) else (k23 (x4 + (6 : Int32)) o_279 o1 o2 o3 o4 o5 o6 o7 o8 o9 o10 o11 o_280 o_284 o_281)) else (none))))) else (bind4 (F_Law_version o0 o7 o9 o14) (fun v293 o_294 o_295 o_296 => bind2 (F_Mod_version o13) (fun v298 o_299 => bind1 (F_Mod_thrown o_299) (fun v301 => if v301 = v293 then (if v293 = 0 then (chk (inb (0 : Int32) 1) (if (lg_cmp (g64 o_296 0 (Int32.toNatClampNeg (0 : Int32))) (Int32.toInt64 v298)) = 0 then (k23 (x4 + (6 : Int32)) o_294 o1 o2 o3 o4 o5 o6 o7 o8 o_295 o10 o11 o12 o_299 o_296) else (none))) else (k23 (x4 + (6 : Int32)) o_294 o1 o2 o3 o4 o5 o6 o7 o8 o_295 o10 o11 o12 o_299 o_296)) else (none))))))))
set_option maxHeartbeats 8000000 in
set_option maxRecDepth 100000 in
theorem k_Law_law_951 {p : Program} {l : Launch} {e : Env} {s : State} {m : MethodId} {below : List Frame} {meth : Method} {c : Code} {b L : Nat} {xs : Nat → Int32} {A : Nat → Prop} {ct dC : Nat → ClassId} {dI : Nat → Nat → Nat} (C0 : lcx p s m meth c b L xs A ct dC dI) (hl0 : l.stackTraces = false) {it : Nat} (hit : it + 1 ≤ 600) {k23 : Int32 → Ob → Ob → Ob → Ob → Ob → Ob → Ob → Ob → Ob → Ob → Ob → Ob → Ob → Ob → Ob → Option Unit} (hk23 : ∀ (a0 a1 a2 a3 a4 a5 a6 a7 a8 a9 a10 a11 a12 a13 a14 : Nat → Nat) (v0 : Nat → Nat) (x4 : Int32) (o0 o1 o2 o3 o4 o5 o6 o7 o8 o9 o10 o11 o12 o13 o14 : Ob) (H : Heap) (locs : List Loc) (ls : Array Slot), bw_N A [adPF a0, adReader a1, adText a2, adSteps a3, adText a4, adSteps a5, adReckoner a6, adCells a7, adCells a8, adCells a9, adCells a10, adCells a11, adCells a12, adMod a13, adOut a14] → (v0 0 = a9 0 ∧ v0 1 = a10 0 ∧ v0 2 = a11 0 ∧ v0 3 = a12 0) → bw_P (dC, dI) vwCl [wPF ct a0 (a1 0) (a4 0) (a6 0) (a7 0) (a8 0) v0 o0, wReader ct a1 (a2 0) o1, wText ct a2 (a3 0) o2, wSteps ct a3 o3, wText ct a4 (a5 0) o4, wSteps ct a5 o5, wReckoner ct a6 o6, wCells ct a7 o7, wCells ct a8 o8, wCells ct a9 o9, wCells ct a10 o10, wCells ct a11 o11, wCells ct a12 o12, wMod ct a13 o13, wOut ct a14 o14] H → va_S A s.heap H locs → lv_has ls 8 [(0, .ref b), (1, .ref (a0 0)), (2, .ref (a13 0)), (3, .ref (a14 0)), (4, .int x4)] → k23 x4 o0 o1 o2 o3 o4 o5 o6 o7 o8 o9 o10 o11 o12 o13 o14 = some () → W p l e room_1 s m #[Value.ref b] below meth c H locs (200 + (it + 1)) (40000 + 6 * (it + 1)) (lw_Z below #[Value.ref b] s) (F0 m 23 ls [])) : ∀ (a0 a1 a2 a3 a4 a5 a6 a7 a8 a9 a10 a11 a12 a13 a14 : Nat → Nat) (v0 : Nat → Nat) (x4 : Int32) (o0 o1 o2 o3 o4 o5 o6 o7 o8 o9 o10 o11 o12 o13 o14 : Ob) (H : Heap) (locs : List Loc) (ls : Array Slot), bw_N A [adPF a0, adReader a1, adText a2, adSteps a3, adText a4, adSteps a5, adReckoner a6, adCells a7, adCells a8, adCells a9, adCells a10, adCells a11, adCells a12, adMod a13, adOut a14] → (v0 0 = a9 0 ∧ v0 1 = a10 0 ∧ v0 2 = a11 0 ∧ v0 3 = a12 0) → bw_P (dC, dI) vwCl [wPF ct a0 (a1 0) (a4 0) (a6 0) (a7 0) (a8 0) v0 o0, wReader ct a1 (a2 0) o1, wText ct a2 (a3 0) o2, wSteps ct a3 o3, wText ct a4 (a5 0) o4, wSteps ct a5 o5, wReckoner ct a6 o6, wCells ct a7 o7, wCells ct a8 o8, wCells ct a9 o9, wCells ct a10 o10, wCells ct a11 o11, wCells ct a12 o12, wMod ct a13 o13, wOut ct a14 o14] H → va_S A s.heap H locs → lv_has ls 8 [(0, .ref b), (1, .ref (a0 0)), (2, .ref (a13 0)), (3, .ref (a14 0)), (4, .int x4)] → F_Law_law_951 L xs k23 x4 o0 o1 o2 o3 o4 o5 o6 o7 o8 o9 o10 o11 o12 o13 o14 = some () → W p l e room_1 s m #[Value.ref b] below meth c H locs (200 + it) (40000 + 6 * it) (lw_Z below #[Value.ref b] s) (F0 m 951 ls []) := by
  obtain ⟨hx, hb, hr, hml, hown, hlocks, hts, hK, hA, hAs, hX, hbl, hnx, hthy, hex9, hsx⟩ := id C0
  have hbA : ¬ A b := fun z => absurd (hAs b z) (Nat.not_le.mpr hbl)
  intro a0 a1 a2 a3 a4 a5 a6 a7 a8 a9 a10 a11 a12 a13 a14 v0 x4 o0 o1 o2 o3 o4 o5 o6 o7 o8 o9 o10 o11 o12 o13 o14 H locs ls hN hver hP hS hl h
  rw [F_Law_law_951] at h
  refine lv_aload_n hx hb d_Law_law_951 rfl (lv_at hl 1 rfl) ?_
  refine lv_aload_n hx hb d_Law_law_952 rfl (lv_at hl 3 rfl) ?_
  by_cases c231 : (g32 o0 8 0) = 0
  · have h := ite_t c231 h
    obtain ⟨v233, o_234, o_235, o_236, hG232, h⟩ := bind4_some h
    refine bw_call (Lc := [wPF ct a0 (a1 0) (a4 0) (a6 0) (a7 0) (a8 0) v0 o0, wCells ct a7 o7, wCells ct a9 o9, wOut ct a14 o14]) (Lc' := [wPF ct a0 (a1 0) (a4 0) (a6 0) (a7 0) (a8 0) v0 o_234, wCells ct a7 o7, wCells ct a9 o_235, wOut ct a14 o_236]) (L' := [wPF ct a0 (a1 0) (a4 0) (a6 0) (a7 0) (a8 0) v0 o_234, wReader ct a1 (a2 0) o1, wText ct a2 (a3 0) o2, wSteps ct a3 o3, wText ct a4 (a5 0) o4, wSteps ct a5 o5, wReckoner ct a6 o6, wCells ct a7 o7, wCells ct a8 o8, wCells ct a9 o_235, wCells ct a10 o10, wCells ct a11 o11, wCells ct a12 o12, wMod ct a13 o13, wOut ct a14 o_236]) [0, 7, 9, 14] (bt_runSW (As := [.ref (a0 0), .ref (a14 0)]) (rest := []) ⟨hx, hb, hml, hown, hts⟩ (c_Law_version l hl0 ct dC dI a0 a7 a9 a14 (a1 0) (a4 0) (a6 0) (a8 0) v0 _ o0 o7 o9 o14 v233 o_234 o_235 o_236 (fun _ => by rw [c231]; exact hver.1) hG232) (gd_any cd_Law_version) rfl rfl rfl (hts _ ini_Law) (hts _ ml_Law_122) (hts _ st_Law_version) (by decide +kernel) ⟨Nat.le_of_ble_eq_true rfl, Nat.le_of_ble_eq_true rfl⟩ ⟨bw_blind thh_call, fun U hU hW => ⟨rfl, by rw [hU], by rw [hU]; exact hP.sub [0, 7, 9, 14] rfl, va_K.moved hW.alike hK, (hN.sub [0, 7, 9, 14] (by decide) rfl).weaken (fun _ _ => trivial), ⟨nx_warm hW hnx, thy_x hthy hS hAs hW hU, exX.moved hW.alike hex9⟩⟩⟩ rfl rfl hl.1 rfl (Nat.le_of_ble_eq_true rfl) d_Law_law_953 ⟨by rw [room_c]; omega, by rw [room_s]; omega⟩) hP hN hS hA rfl rfl rfl (fun H locs hP hS => ?_)
    refine lv_istore (lv' := [(5, .int v233), (0, .ref b), (1, .ref (a0 0)), (2, .ref (a13 0)), (3, .ref (a14 0)), (4, .int x4)]) hx hb d_Law_law_956 hl (by decide) rfl (fun ls hl => ?_)
    refine lv_aload_n hx hb d_Law_law_958 rfl (lv_at hl 3 rfl) ?_
    obtain ⟨v238, o_239, hG237, h⟩ := bind2_some h
    refine bw_call (Lc := [wMod ct a13 o13]) (Lc' := [wMod ct a13 o_239]) (L' := [wPF ct a0 (a1 0) (a4 0) (a6 0) (a7 0) (a8 0) v0 o_234, wReader ct a1 (a2 0) o1, wText ct a2 (a3 0) o2, wSteps ct a3 o3, wText ct a4 (a5 0) o4, wSteps ct a5 o5, wReckoner ct a6 o6, wCells ct a7 o7, wCells ct a8 o8, wCells ct a9 o_235, wCells ct a10 o10, wCells ct a11 o11, wCells ct a12 o12, wMod ct a13 o_239, wOut ct a14 o_236]) [13] (va_runV (As := []) (rest := []) ⟨hx, hb, hml, hown, hts⟩ (c_Mod_version l ct dC dI a13 _ o13 v238 o_239 hG237) (cwV 0 hts g_Law_124 rfl rfl rfl (by decide +kernel) ⟨Nat.le_of_ble_eq_true rfl, Nat.le_of_ble_eq_true rfl⟩) ⟨bw_blind nx_call, va_recv hK (hP 13 _ rfl) (ci := 6) (q0 := 0) rfl rfl, fun U hU hW => ⟨rfl, by rw [hU], by rw [hU]; exact hP.sub [13] rfl, va_K.moved hW.alike hK, (hN.sub [13] (by decide) rfl).weaken (fun _ _ => trivial), nx_warm hW hnx⟩⟩ rfl rfl hl.1 rfl (Nat.le_of_ble_eq_true rfl) d_Law_law_959 ⟨by rw [room_c]; omega, by rw [room_s]; omega⟩) hP hN hS hA rfl rfl rfl (fun H locs hP hS => ?_)
    refine lv_istore (lv' := [(6, .int v238), (5, .int v233), (0, .ref b), (1, .ref (a0 0)), (2, .ref (a13 0)), (3, .ref (a14 0)), (4, .int x4)]) hx hb d_Law_law_962 hl (by decide) rfl (fun ls hl => ?_)
    refine lv_aload_n hx hb d_Law_law_964 rfl (lv_at hl 4 rfl) ?_
    obtain ⟨v241, hG240, h⟩ := bind1_some h
    refine bw_callR (va_runV (As := []) (rest := []) ⟨hx, hb, hml, hown, hts⟩ (c_Mod_thrown l ct dC dI a13 _ o_239 v241 hG240) (cwV 0 hts g_Law_83 rfl rfl rfl (by decide +kernel) ⟨Nat.le_of_ble_eq_true rfl, Nat.le_of_ble_eq_true rfl⟩) ⟨bw_blind nx_call, va_recv hK (hP 13 _ rfl) (ci := 6) (q0 := 0) rfl rfl, fun U hU hW => ⟨rfl, by rw [hU], by rw [hU]; exact hP.sub [13] rfl, va_K.moved hW.alike hK, (hN.sub [13] (by decide) rfl).weaken (fun _ _ => trivial), nx_warm hW hnx⟩⟩ rfl rfl hl.1 rfl (Nat.le_of_ble_eq_true rfl) d_Law_law_965 ⟨by rw [room_c]; omega, by rw [room_s]; omega⟩) ?_
    refine lv_iload hx hb d_Law_law_968 (lv_at hl 1 rfl) ?_
    refine lv_icmp_eq (tgt := 975) hx hb d_Law_law_970 (by decide) (fun c242 => ?_) (fun c242 => ?_)
    · have h := ite_t c242 h
      refine lv_iload hx hb d_Law_law_975 (lv_at hl 1 rfl) ?_
      refine lv_if_ne (tgt := 992) hx hb d_Law_law_977 (by decide) (fun c243 => ?_) (fun c243 => ?_)
      · have h := ite_f c243 h
        refine lv_goto (tgt := 1128) hx hb d_Law_law_992 (by decide) ?_
        refine lv_iinc (v := (x4 + (6 : Int32))) (lv' := [(4, .int (x4 + (6 : Int32))), (6, .int v238), (5, .int v233), (0, .ref b), (1, .ref (a0 0)), (2, .ref (a13 0)), (3, .ref (a14 0))]) hx hb d_Law_law_1128 hl (k := 6) rfl rfl (by decide) rfl (fun ls hl => ?_)
        refine lv_goto (tgt := 23) hx hb d_Law_law_1131 (by decide) ?_
        refine W.widen (k := 200 + (it + 1)) (n := 40000 + 6 * (it + 1)) (by omega) (by omega) ?_
        exact hk23 a0 a1 a2 a3 a4 a5 a6 a7 a8 a9 a10 a11 a12 a13 a14 v0 (x4 + (6 : Int32)) o_234 o1 o2 o3 o4 o5 o6 o7 o8 o_235 o10 o11 o12 o_239 o_236 _ _ _ hN hver hP hS (lv_sub hl [3, 4, 5, 6, 0] rfl) h
      · have h := ite_t c243 h
        refine lv_aload_n hx hb d_Law_law_980 rfl (lv_at hl 5 rfl) ?_
        refine lv_iconst (v := 0) hx hb d_Law_law_981 (by decide) ?_
        obtain ⟨hi244, h⟩ := chk_some h
        refine va_lald (f := g64 o_236 0) hx hb hK (hP 14 _ rfl) 0 1 rfl rfl (inb_in hi244) d_Law_law_982 ?_
        refine lv_iload hx hb d_Law_law_983 (lv_at hl 0 rfl) ?_
        refine lv_i2l (v := (Int32.toInt64 v238)) hx hb d_Law_law_985 rfl ?_
        refine W.lcmp hx hb d_Law_law_986 ?_
        refine lv_if_eq (tgt := 992) hx hb d_Law_law_987 (by decide) (fun c245 => ?_) (fun c245 => ?_)
        · have h := ite_t c245 h
          refine lv_goto (tgt := 1128) hx hb d_Law_law_992 (by decide) ?_
          refine lv_iinc (v := (x4 + (6 : Int32))) (lv' := [(4, .int (x4 + (6 : Int32))), (6, .int v238), (5, .int v233), (0, .ref b), (1, .ref (a0 0)), (2, .ref (a13 0)), (3, .ref (a14 0))]) hx hb d_Law_law_1128 hl (k := 6) rfl rfl (by decide) rfl (fun ls hl => ?_)
          refine lv_goto (tgt := 23) hx hb d_Law_law_1131 (by decide) ?_
          refine W.widen (k := 200 + (it + 1)) (n := 40000 + 6 * (it + 1)) (by omega) (by omega) ?_
          exact hk23 a0 a1 a2 a3 a4 a5 a6 a7 a8 a9 a10 a11 a12 a13 a14 v0 (x4 + (6 : Int32)) o_234 o1 o2 o3 o4 o5 o6 o7 o8 o_235 o10 o11 o12 o_239 o_236 _ _ _ hN hver hP hS (lv_sub hl [3, 4, 5, 6, 0] rfl) h
        · have h := ite_f c245 h
          refine lv_iconst (v := 0) hx hb d_Law_law_990 (by decide) ?_
          cases h
    · have h := ite_f c242 h
      refine lv_iconst (v := 0) hx hb d_Law_law_973 (by decide) ?_
      cases h
  · have h := ite_f c231 h
    by_cases c246 : (g32 o0 8 0) = 1
    · have h := ite_t c246 h
      obtain ⟨v248, o_249, o_250, o_251, hG247, h⟩ := bind4_some h
      refine bw_call (Lc := [wPF ct a0 (a1 0) (a4 0) (a6 0) (a7 0) (a8 0) v0 o0, wCells ct a7 o7, wCells ct a10 o10, wOut ct a14 o14]) (Lc' := [wPF ct a0 (a1 0) (a4 0) (a6 0) (a7 0) (a8 0) v0 o_249, wCells ct a7 o7, wCells ct a10 o_250, wOut ct a14 o_251]) (L' := [wPF ct a0 (a1 0) (a4 0) (a6 0) (a7 0) (a8 0) v0 o_249, wReader ct a1 (a2 0) o1, wText ct a2 (a3 0) o2, wSteps ct a3 o3, wText ct a4 (a5 0) o4, wSteps ct a5 o5, wReckoner ct a6 o6, wCells ct a7 o7, wCells ct a8 o8, wCells ct a9 o9, wCells ct a10 o_250, wCells ct a11 o11, wCells ct a12 o12, wMod ct a13 o13, wOut ct a14 o_251]) [0, 7, 10, 14] (bt_runSW (As := [.ref (a0 0), .ref (a14 0)]) (rest := []) ⟨hx, hb, hml, hown, hts⟩ (c_Law_version l hl0 ct dC dI a0 a7 a10 a14 (a1 0) (a4 0) (a6 0) (a8 0) v0 _ o0 o7 o10 o14 v248 o_249 o_250 o_251 (fun _ => by rw [c246]; exact hver.2.1) hG247) (gd_any cd_Law_version) rfl rfl rfl (hts _ ini_Law) (hts _ ml_Law_122) (hts _ st_Law_version) (by decide +kernel) ⟨Nat.le_of_ble_eq_true rfl, Nat.le_of_ble_eq_true rfl⟩ ⟨bw_blind thh_call, fun U hU hW => ⟨rfl, by rw [hU], by rw [hU]; exact hP.sub [0, 7, 10, 14] rfl, va_K.moved hW.alike hK, (hN.sub [0, 7, 10, 14] (by decide) rfl).weaken (fun _ _ => trivial), ⟨nx_warm hW hnx, thy_x hthy hS hAs hW hU, exX.moved hW.alike hex9⟩⟩⟩ rfl rfl hl.1 rfl (Nat.le_of_ble_eq_true rfl) d_Law_law_953 ⟨by rw [room_c]; omega, by rw [room_s]; omega⟩) hP hN hS hA rfl rfl rfl (fun H locs hP hS => ?_)
      refine lv_istore (lv' := [(5, .int v248), (0, .ref b), (1, .ref (a0 0)), (2, .ref (a13 0)), (3, .ref (a14 0)), (4, .int x4)]) hx hb d_Law_law_956 hl (by decide) rfl (fun ls hl => ?_)
      refine lv_aload_n hx hb d_Law_law_958 rfl (lv_at hl 3 rfl) ?_
      obtain ⟨v253, o_254, hG252, h⟩ := bind2_some h
      refine bw_call (Lc := [wMod ct a13 o13]) (Lc' := [wMod ct a13 o_254]) (L' := [wPF ct a0 (a1 0) (a4 0) (a6 0) (a7 0) (a8 0) v0 o_249, wReader ct a1 (a2 0) o1, wText ct a2 (a3 0) o2, wSteps ct a3 o3, wText ct a4 (a5 0) o4, wSteps ct a5 o5, wReckoner ct a6 o6, wCells ct a7 o7, wCells ct a8 o8, wCells ct a9 o9, wCells ct a10 o_250, wCells ct a11 o11, wCells ct a12 o12, wMod ct a13 o_254, wOut ct a14 o_251]) [13] (va_runV (As := []) (rest := []) ⟨hx, hb, hml, hown, hts⟩ (c_Mod_version l ct dC dI a13 _ o13 v253 o_254 hG252) (cwV 0 hts g_Law_124 rfl rfl rfl (by decide +kernel) ⟨Nat.le_of_ble_eq_true rfl, Nat.le_of_ble_eq_true rfl⟩) ⟨bw_blind nx_call, va_recv hK (hP 13 _ rfl) (ci := 6) (q0 := 0) rfl rfl, fun U hU hW => ⟨rfl, by rw [hU], by rw [hU]; exact hP.sub [13] rfl, va_K.moved hW.alike hK, (hN.sub [13] (by decide) rfl).weaken (fun _ _ => trivial), nx_warm hW hnx⟩⟩ rfl rfl hl.1 rfl (Nat.le_of_ble_eq_true rfl) d_Law_law_959 ⟨by rw [room_c]; omega, by rw [room_s]; omega⟩) hP hN hS hA rfl rfl rfl (fun H locs hP hS => ?_)
      refine lv_istore (lv' := [(6, .int v253), (5, .int v248), (0, .ref b), (1, .ref (a0 0)), (2, .ref (a13 0)), (3, .ref (a14 0)), (4, .int x4)]) hx hb d_Law_law_962 hl (by decide) rfl (fun ls hl => ?_)
      refine lv_aload_n hx hb d_Law_law_964 rfl (lv_at hl 4 rfl) ?_
      obtain ⟨v256, hG255, h⟩ := bind1_some h
      refine bw_callR (va_runV (As := []) (rest := []) ⟨hx, hb, hml, hown, hts⟩ (c_Mod_thrown l ct dC dI a13 _ o_254 v256 hG255) (cwV 0 hts g_Law_83 rfl rfl rfl (by decide +kernel) ⟨Nat.le_of_ble_eq_true rfl, Nat.le_of_ble_eq_true rfl⟩) ⟨bw_blind nx_call, va_recv hK (hP 13 _ rfl) (ci := 6) (q0 := 0) rfl rfl, fun U hU hW => ⟨rfl, by rw [hU], by rw [hU]; exact hP.sub [13] rfl, va_K.moved hW.alike hK, (hN.sub [13] (by decide) rfl).weaken (fun _ _ => trivial), nx_warm hW hnx⟩⟩ rfl rfl hl.1 rfl (Nat.le_of_ble_eq_true rfl) d_Law_law_965 ⟨by rw [room_c]; omega, by rw [room_s]; omega⟩) ?_
      refine lv_iload hx hb d_Law_law_968 (lv_at hl 1 rfl) ?_
      refine lv_icmp_eq (tgt := 975) hx hb d_Law_law_970 (by decide) (fun c257 => ?_) (fun c257 => ?_)
      · have h := ite_t c257 h
        refine lv_iload hx hb d_Law_law_975 (lv_at hl 1 rfl) ?_
        refine lv_if_ne (tgt := 992) hx hb d_Law_law_977 (by decide) (fun c258 => ?_) (fun c258 => ?_)
        · have h := ite_f c258 h
          refine lv_goto (tgt := 1128) hx hb d_Law_law_992 (by decide) ?_
          refine lv_iinc (v := (x4 + (6 : Int32))) (lv' := [(4, .int (x4 + (6 : Int32))), (6, .int v253), (5, .int v248), (0, .ref b), (1, .ref (a0 0)), (2, .ref (a13 0)), (3, .ref (a14 0))]) hx hb d_Law_law_1128 hl (k := 6) rfl rfl (by decide) rfl (fun ls hl => ?_)
          refine lv_goto (tgt := 23) hx hb d_Law_law_1131 (by decide) ?_
          refine W.widen (k := 200 + (it + 1)) (n := 40000 + 6 * (it + 1)) (by omega) (by omega) ?_
          exact hk23 a0 a1 a2 a3 a4 a5 a6 a7 a8 a9 a10 a11 a12 a13 a14 v0 (x4 + (6 : Int32)) o_249 o1 o2 o3 o4 o5 o6 o7 o8 o9 o_250 o11 o12 o_254 o_251 _ _ _ hN hver hP hS (lv_sub hl [3, 4, 5, 6, 0] rfl) h
        · have h := ite_t c258 h
          refine lv_aload_n hx hb d_Law_law_980 rfl (lv_at hl 5 rfl) ?_
          refine lv_iconst (v := 0) hx hb d_Law_law_981 (by decide) ?_
          obtain ⟨hi259, h⟩ := chk_some h
          refine va_lald (f := g64 o_251 0) hx hb hK (hP 14 _ rfl) 0 1 rfl rfl (inb_in hi259) d_Law_law_982 ?_
          refine lv_iload hx hb d_Law_law_983 (lv_at hl 0 rfl) ?_
          refine lv_i2l (v := (Int32.toInt64 v253)) hx hb d_Law_law_985 rfl ?_
          refine W.lcmp hx hb d_Law_law_986 ?_
          refine lv_if_eq (tgt := 992) hx hb d_Law_law_987 (by decide) (fun c260 => ?_) (fun c260 => ?_)
          · have h := ite_t c260 h
            refine lv_goto (tgt := 1128) hx hb d_Law_law_992 (by decide) ?_
            refine lv_iinc (v := (x4 + (6 : Int32))) (lv' := [(4, .int (x4 + (6 : Int32))), (6, .int v253), (5, .int v248), (0, .ref b), (1, .ref (a0 0)), (2, .ref (a13 0)), (3, .ref (a14 0))]) hx hb d_Law_law_1128 hl (k := 6) rfl rfl (by decide) rfl (fun ls hl => ?_)
            refine lv_goto (tgt := 23) hx hb d_Law_law_1131 (by decide) ?_
            refine W.widen (k := 200 + (it + 1)) (n := 40000 + 6 * (it + 1)) (by omega) (by omega) ?_
            exact hk23 a0 a1 a2 a3 a4 a5 a6 a7 a8 a9 a10 a11 a12 a13 a14 v0 (x4 + (6 : Int32)) o_249 o1 o2 o3 o4 o5 o6 o7 o8 o9 o_250 o11 o12 o_254 o_251 _ _ _ hN hver hP hS (lv_sub hl [3, 4, 5, 6, 0] rfl) h
          · have h := ite_f c260 h
            refine lv_iconst (v := 0) hx hb d_Law_law_990 (by decide) ?_
            cases h
      · have h := ite_f c257 h
        refine lv_iconst (v := 0) hx hb d_Law_law_973 (by decide) ?_
        cases h
    · have h := ite_f c246 h
      by_cases c261 : (g32 o0 8 0) = 2
      · have h := ite_t c261 h
        obtain ⟨v263, o_264, o_265, o_266, hG262, h⟩ := bind4_some h
        refine bw_call (Lc := [wPF ct a0 (a1 0) (a4 0) (a6 0) (a7 0) (a8 0) v0 o0, wCells ct a7 o7, wCells ct a11 o11, wOut ct a14 o14]) (Lc' := [wPF ct a0 (a1 0) (a4 0) (a6 0) (a7 0) (a8 0) v0 o_264, wCells ct a7 o7, wCells ct a11 o_265, wOut ct a14 o_266]) (L' := [wPF ct a0 (a1 0) (a4 0) (a6 0) (a7 0) (a8 0) v0 o_264, wReader ct a1 (a2 0) o1, wText ct a2 (a3 0) o2, wSteps ct a3 o3, wText ct a4 (a5 0) o4, wSteps ct a5 o5, wReckoner ct a6 o6, wCells ct a7 o7, wCells ct a8 o8, wCells ct a9 o9, wCells ct a10 o10, wCells ct a11 o_265, wCells ct a12 o12, wMod ct a13 o13, wOut ct a14 o_266]) [0, 7, 11, 14] (bt_runSW (As := [.ref (a0 0), .ref (a14 0)]) (rest := []) ⟨hx, hb, hml, hown, hts⟩ (c_Law_version l hl0 ct dC dI a0 a7 a11 a14 (a1 0) (a4 0) (a6 0) (a8 0) v0 _ o0 o7 o11 o14 v263 o_264 o_265 o_266 (fun _ => by rw [c261]; exact hver.2.2.1) hG262) (gd_any cd_Law_version) rfl rfl rfl (hts _ ini_Law) (hts _ ml_Law_122) (hts _ st_Law_version) (by decide +kernel) ⟨Nat.le_of_ble_eq_true rfl, Nat.le_of_ble_eq_true rfl⟩ ⟨bw_blind thh_call, fun U hU hW => ⟨rfl, by rw [hU], by rw [hU]; exact hP.sub [0, 7, 11, 14] rfl, va_K.moved hW.alike hK, (hN.sub [0, 7, 11, 14] (by decide) rfl).weaken (fun _ _ => trivial), ⟨nx_warm hW hnx, thy_x hthy hS hAs hW hU, exX.moved hW.alike hex9⟩⟩⟩ rfl rfl hl.1 rfl (Nat.le_of_ble_eq_true rfl) d_Law_law_953 ⟨by rw [room_c]; omega, by rw [room_s]; omega⟩) hP hN hS hA rfl rfl rfl (fun H locs hP hS => ?_)
        refine lv_istore (lv' := [(5, .int v263), (0, .ref b), (1, .ref (a0 0)), (2, .ref (a13 0)), (3, .ref (a14 0)), (4, .int x4)]) hx hb d_Law_law_956 hl (by decide) rfl (fun ls hl => ?_)
        refine lv_aload_n hx hb d_Law_law_958 rfl (lv_at hl 3 rfl) ?_
        obtain ⟨v268, o_269, hG267, h⟩ := bind2_some h
        refine bw_call (Lc := [wMod ct a13 o13]) (Lc' := [wMod ct a13 o_269]) (L' := [wPF ct a0 (a1 0) (a4 0) (a6 0) (a7 0) (a8 0) v0 o_264, wReader ct a1 (a2 0) o1, wText ct a2 (a3 0) o2, wSteps ct a3 o3, wText ct a4 (a5 0) o4, wSteps ct a5 o5, wReckoner ct a6 o6, wCells ct a7 o7, wCells ct a8 o8, wCells ct a9 o9, wCells ct a10 o10, wCells ct a11 o_265, wCells ct a12 o12, wMod ct a13 o_269, wOut ct a14 o_266]) [13] (va_runV (As := []) (rest := []) ⟨hx, hb, hml, hown, hts⟩ (c_Mod_version l ct dC dI a13 _ o13 v268 o_269 hG267) (cwV 0 hts g_Law_124 rfl rfl rfl (by decide +kernel) ⟨Nat.le_of_ble_eq_true rfl, Nat.le_of_ble_eq_true rfl⟩) ⟨bw_blind nx_call, va_recv hK (hP 13 _ rfl) (ci := 6) (q0 := 0) rfl rfl, fun U hU hW => ⟨rfl, by rw [hU], by rw [hU]; exact hP.sub [13] rfl, va_K.moved hW.alike hK, (hN.sub [13] (by decide) rfl).weaken (fun _ _ => trivial), nx_warm hW hnx⟩⟩ rfl rfl hl.1 rfl (Nat.le_of_ble_eq_true rfl) d_Law_law_959 ⟨by rw [room_c]; omega, by rw [room_s]; omega⟩) hP hN hS hA rfl rfl rfl (fun H locs hP hS => ?_)
        refine lv_istore (lv' := [(6, .int v268), (5, .int v263), (0, .ref b), (1, .ref (a0 0)), (2, .ref (a13 0)), (3, .ref (a14 0)), (4, .int x4)]) hx hb d_Law_law_962 hl (by decide) rfl (fun ls hl => ?_)
        refine lv_aload_n hx hb d_Law_law_964 rfl (lv_at hl 4 rfl) ?_
        obtain ⟨v271, hG270, h⟩ := bind1_some h
        refine bw_callR (va_runV (As := []) (rest := []) ⟨hx, hb, hml, hown, hts⟩ (c_Mod_thrown l ct dC dI a13 _ o_269 v271 hG270) (cwV 0 hts g_Law_83 rfl rfl rfl (by decide +kernel) ⟨Nat.le_of_ble_eq_true rfl, Nat.le_of_ble_eq_true rfl⟩) ⟨bw_blind nx_call, va_recv hK (hP 13 _ rfl) (ci := 6) (q0 := 0) rfl rfl, fun U hU hW => ⟨rfl, by rw [hU], by rw [hU]; exact hP.sub [13] rfl, va_K.moved hW.alike hK, (hN.sub [13] (by decide) rfl).weaken (fun _ _ => trivial), nx_warm hW hnx⟩⟩ rfl rfl hl.1 rfl (Nat.le_of_ble_eq_true rfl) d_Law_law_965 ⟨by rw [room_c]; omega, by rw [room_s]; omega⟩) ?_
        refine lv_iload hx hb d_Law_law_968 (lv_at hl 1 rfl) ?_
        refine lv_icmp_eq (tgt := 975) hx hb d_Law_law_970 (by decide) (fun c272 => ?_) (fun c272 => ?_)
        · have h := ite_t c272 h
          refine lv_iload hx hb d_Law_law_975 (lv_at hl 1 rfl) ?_
          refine lv_if_ne (tgt := 992) hx hb d_Law_law_977 (by decide) (fun c273 => ?_) (fun c273 => ?_)
          · have h := ite_f c273 h
            refine lv_goto (tgt := 1128) hx hb d_Law_law_992 (by decide) ?_
            refine lv_iinc (v := (x4 + (6 : Int32))) (lv' := [(4, .int (x4 + (6 : Int32))), (6, .int v268), (5, .int v263), (0, .ref b), (1, .ref (a0 0)), (2, .ref (a13 0)), (3, .ref (a14 0))]) hx hb d_Law_law_1128 hl (k := 6) rfl rfl (by decide) rfl (fun ls hl => ?_)
            refine lv_goto (tgt := 23) hx hb d_Law_law_1131 (by decide) ?_
            refine W.widen (k := 200 + (it + 1)) (n := 40000 + 6 * (it + 1)) (by omega) (by omega) ?_
            exact hk23 a0 a1 a2 a3 a4 a5 a6 a7 a8 a9 a10 a11 a12 a13 a14 v0 (x4 + (6 : Int32)) o_264 o1 o2 o3 o4 o5 o6 o7 o8 o9 o10 o_265 o12 o_269 o_266 _ _ _ hN hver hP hS (lv_sub hl [3, 4, 5, 6, 0] rfl) h
          · have h := ite_t c273 h
            refine lv_aload_n hx hb d_Law_law_980 rfl (lv_at hl 5 rfl) ?_
            refine lv_iconst (v := 0) hx hb d_Law_law_981 (by decide) ?_
            obtain ⟨hi274, h⟩ := chk_some h
            refine va_lald (f := g64 o_266 0) hx hb hK (hP 14 _ rfl) 0 1 rfl rfl (inb_in hi274) d_Law_law_982 ?_
            refine lv_iload hx hb d_Law_law_983 (lv_at hl 0 rfl) ?_
            refine lv_i2l (v := (Int32.toInt64 v268)) hx hb d_Law_law_985 rfl ?_
            refine W.lcmp hx hb d_Law_law_986 ?_
            refine lv_if_eq (tgt := 992) hx hb d_Law_law_987 (by decide) (fun c275 => ?_) (fun c275 => ?_)
            · have h := ite_t c275 h
              refine lv_goto (tgt := 1128) hx hb d_Law_law_992 (by decide) ?_
              refine lv_iinc (v := (x4 + (6 : Int32))) (lv' := [(4, .int (x4 + (6 : Int32))), (6, .int v268), (5, .int v263), (0, .ref b), (1, .ref (a0 0)), (2, .ref (a13 0)), (3, .ref (a14 0))]) hx hb d_Law_law_1128 hl (k := 6) rfl rfl (by decide) rfl (fun ls hl => ?_)
              refine lv_goto (tgt := 23) hx hb d_Law_law_1131 (by decide) ?_
              refine W.widen (k := 200 + (it + 1)) (n := 40000 + 6 * (it + 1)) (by omega) (by omega) ?_
              exact hk23 a0 a1 a2 a3 a4 a5 a6 a7 a8 a9 a10 a11 a12 a13 a14 v0 (x4 + (6 : Int32)) o_264 o1 o2 o3 o4 o5 o6 o7 o8 o9 o10 o_265 o12 o_269 o_266 _ _ _ hN hver hP hS (lv_sub hl [3, 4, 5, 6, 0] rfl) h
            · have h := ite_f c275 h
              refine lv_iconst (v := 0) hx hb d_Law_law_990 (by decide) ?_
              cases h
        · have h := ite_f c272 h
          refine lv_iconst (v := 0) hx hb d_Law_law_973 (by decide) ?_
          cases h
      · have h := ite_f c261 h
        by_cases c276 : (g32 o0 8 0) = 3
        · have h := ite_t c276 h
          obtain ⟨v278, o_279, o_280, o_281, hG277, h⟩ := bind4_some h
          refine bw_call (Lc := [wPF ct a0 (a1 0) (a4 0) (a6 0) (a7 0) (a8 0) v0 o0, wCells ct a7 o7, wCells ct a12 o12, wOut ct a14 o14]) (Lc' := [wPF ct a0 (a1 0) (a4 0) (a6 0) (a7 0) (a8 0) v0 o_279, wCells ct a7 o7, wCells ct a12 o_280, wOut ct a14 o_281]) (L' := [wPF ct a0 (a1 0) (a4 0) (a6 0) (a7 0) (a8 0) v0 o_279, wReader ct a1 (a2 0) o1, wText ct a2 (a3 0) o2, wSteps ct a3 o3, wText ct a4 (a5 0) o4, wSteps ct a5 o5, wReckoner ct a6 o6, wCells ct a7 o7, wCells ct a8 o8, wCells ct a9 o9, wCells ct a10 o10, wCells ct a11 o11, wCells ct a12 o_280, wMod ct a13 o13, wOut ct a14 o_281]) [0, 7, 12, 14] (bt_runSW (As := [.ref (a0 0), .ref (a14 0)]) (rest := []) ⟨hx, hb, hml, hown, hts⟩ (c_Law_version l hl0 ct dC dI a0 a7 a12 a14 (a1 0) (a4 0) (a6 0) (a8 0) v0 _ o0 o7 o12 o14 v278 o_279 o_280 o_281 (fun _ => by rw [c276]; exact hver.2.2.2) hG277) (gd_any cd_Law_version) rfl rfl rfl (hts _ ini_Law) (hts _ ml_Law_122) (hts _ st_Law_version) (by decide +kernel) ⟨Nat.le_of_ble_eq_true rfl, Nat.le_of_ble_eq_true rfl⟩ ⟨bw_blind thh_call, fun U hU hW => ⟨rfl, by rw [hU], by rw [hU]; exact hP.sub [0, 7, 12, 14] rfl, va_K.moved hW.alike hK, (hN.sub [0, 7, 12, 14] (by decide) rfl).weaken (fun _ _ => trivial), ⟨nx_warm hW hnx, thy_x hthy hS hAs hW hU, exX.moved hW.alike hex9⟩⟩⟩ rfl rfl hl.1 rfl (Nat.le_of_ble_eq_true rfl) d_Law_law_953 ⟨by rw [room_c]; omega, by rw [room_s]; omega⟩) hP hN hS hA rfl rfl rfl (fun H locs hP hS => ?_)
          refine lv_istore (lv' := [(5, .int v278), (0, .ref b), (1, .ref (a0 0)), (2, .ref (a13 0)), (3, .ref (a14 0)), (4, .int x4)]) hx hb d_Law_law_956 hl (by decide) rfl (fun ls hl => ?_)
          refine lv_aload_n hx hb d_Law_law_958 rfl (lv_at hl 3 rfl) ?_
          obtain ⟨v283, o_284, hG282, h⟩ := bind2_some h
          refine bw_call (Lc := [wMod ct a13 o13]) (Lc' := [wMod ct a13 o_284]) (L' := [wPF ct a0 (a1 0) (a4 0) (a6 0) (a7 0) (a8 0) v0 o_279, wReader ct a1 (a2 0) o1, wText ct a2 (a3 0) o2, wSteps ct a3 o3, wText ct a4 (a5 0) o4, wSteps ct a5 o5, wReckoner ct a6 o6, wCells ct a7 o7, wCells ct a8 o8, wCells ct a9 o9, wCells ct a10 o10, wCells ct a11 o11, wCells ct a12 o_280, wMod ct a13 o_284, wOut ct a14 o_281]) [13] (va_runV (As := []) (rest := []) ⟨hx, hb, hml, hown, hts⟩ (c_Mod_version l ct dC dI a13 _ o13 v283 o_284 hG282) (cwV 0 hts g_Law_124 rfl rfl rfl (by decide +kernel) ⟨Nat.le_of_ble_eq_true rfl, Nat.le_of_ble_eq_true rfl⟩) ⟨bw_blind nx_call, va_recv hK (hP 13 _ rfl) (ci := 6) (q0 := 0) rfl rfl, fun U hU hW => ⟨rfl, by rw [hU], by rw [hU]; exact hP.sub [13] rfl, va_K.moved hW.alike hK, (hN.sub [13] (by decide) rfl).weaken (fun _ _ => trivial), nx_warm hW hnx⟩⟩ rfl rfl hl.1 rfl (Nat.le_of_ble_eq_true rfl) d_Law_law_959 ⟨by rw [room_c]; omega, by rw [room_s]; omega⟩) hP hN hS hA rfl rfl rfl (fun H locs hP hS => ?_)
          refine lv_istore (lv' := [(6, .int v283), (5, .int v278), (0, .ref b), (1, .ref (a0 0)), (2, .ref (a13 0)), (3, .ref (a14 0)), (4, .int x4)]) hx hb d_Law_law_962 hl (by decide) rfl (fun ls hl => ?_)
          refine lv_aload_n hx hb d_Law_law_964 rfl (lv_at hl 4 rfl) ?_
          obtain ⟨v286, hG285, h⟩ := bind1_some h
          refine bw_callR (va_runV (As := []) (rest := []) ⟨hx, hb, hml, hown, hts⟩ (c_Mod_thrown l ct dC dI a13 _ o_284 v286 hG285) (cwV 0 hts g_Law_83 rfl rfl rfl (by decide +kernel) ⟨Nat.le_of_ble_eq_true rfl, Nat.le_of_ble_eq_true rfl⟩) ⟨bw_blind nx_call, va_recv hK (hP 13 _ rfl) (ci := 6) (q0 := 0) rfl rfl, fun U hU hW => ⟨rfl, by rw [hU], by rw [hU]; exact hP.sub [13] rfl, va_K.moved hW.alike hK, (hN.sub [13] (by decide) rfl).weaken (fun _ _ => trivial), nx_warm hW hnx⟩⟩ rfl rfl hl.1 rfl (Nat.le_of_ble_eq_true rfl) d_Law_law_965 ⟨by rw [room_c]; omega, by rw [room_s]; omega⟩) ?_
          refine lv_iload hx hb d_Law_law_968 (lv_at hl 1 rfl) ?_
          refine lv_icmp_eq (tgt := 975) hx hb d_Law_law_970 (by decide) (fun c287 => ?_) (fun c287 => ?_)
          · have h := ite_t c287 h
            refine lv_iload hx hb d_Law_law_975 (lv_at hl 1 rfl) ?_
            refine lv_if_ne (tgt := 992) hx hb d_Law_law_977 (by decide) (fun c288 => ?_) (fun c288 => ?_)
            · have h := ite_f c288 h
              refine lv_goto (tgt := 1128) hx hb d_Law_law_992 (by decide) ?_
              refine lv_iinc (v := (x4 + (6 : Int32))) (lv' := [(4, .int (x4 + (6 : Int32))), (6, .int v283), (5, .int v278), (0, .ref b), (1, .ref (a0 0)), (2, .ref (a13 0)), (3, .ref (a14 0))]) hx hb d_Law_law_1128 hl (k := 6) rfl rfl (by decide) rfl (fun ls hl => ?_)
              refine lv_goto (tgt := 23) hx hb d_Law_law_1131 (by decide) ?_
              refine W.widen (k := 200 + (it + 1)) (n := 40000 + 6 * (it + 1)) (by omega) (by omega) ?_
              exact hk23 a0 a1 a2 a3 a4 a5 a6 a7 a8 a9 a10 a11 a12 a13 a14 v0 (x4 + (6 : Int32)) o_279 o1 o2 o3 o4 o5 o6 o7 o8 o9 o10 o11 o_280 o_284 o_281 _ _ _ hN hver hP hS (lv_sub hl [3, 4, 5, 6, 0] rfl) h
            · have h := ite_t c288 h
              refine lv_aload_n hx hb d_Law_law_980 rfl (lv_at hl 5 rfl) ?_
              refine lv_iconst (v := 0) hx hb d_Law_law_981 (by decide) ?_
              obtain ⟨hi289, h⟩ := chk_some h
              refine va_lald (f := g64 o_281 0) hx hb hK (hP 14 _ rfl) 0 1 rfl rfl (inb_in hi289) d_Law_law_982 ?_
              refine lv_iload hx hb d_Law_law_983 (lv_at hl 0 rfl) ?_
              refine lv_i2l (v := (Int32.toInt64 v283)) hx hb d_Law_law_985 rfl ?_
              refine W.lcmp hx hb d_Law_law_986 ?_
              refine lv_if_eq (tgt := 992) hx hb d_Law_law_987 (by decide) (fun c290 => ?_) (fun c290 => ?_)
              · have h := ite_t c290 h
                refine lv_goto (tgt := 1128) hx hb d_Law_law_992 (by decide) ?_
                refine lv_iinc (v := (x4 + (6 : Int32))) (lv' := [(4, .int (x4 + (6 : Int32))), (6, .int v283), (5, .int v278), (0, .ref b), (1, .ref (a0 0)), (2, .ref (a13 0)), (3, .ref (a14 0))]) hx hb d_Law_law_1128 hl (k := 6) rfl rfl (by decide) rfl (fun ls hl => ?_)
                refine lv_goto (tgt := 23) hx hb d_Law_law_1131 (by decide) ?_
                refine W.widen (k := 200 + (it + 1)) (n := 40000 + 6 * (it + 1)) (by omega) (by omega) ?_
                exact hk23 a0 a1 a2 a3 a4 a5 a6 a7 a8 a9 a10 a11 a12 a13 a14 v0 (x4 + (6 : Int32)) o_279 o1 o2 o3 o4 o5 o6 o7 o8 o9 o10 o11 o_280 o_284 o_281 _ _ _ hN hver hP hS (lv_sub hl [3, 4, 5, 6, 0] rfl) h
              · have h := ite_f c290 h
                refine lv_iconst (v := 0) hx hb d_Law_law_990 (by decide) ?_
                cases h
          · have h := ite_f c287 h
            refine lv_iconst (v := 0) hx hb d_Law_law_973 (by decide) ?_
            cases h
        · have h := ite_f c276 h
          obtain ⟨v293, o_294, o_295, o_296, hG292, h⟩ := bind4_some h
          refine bw_call (Lc := [wPF ct a0 (a1 0) (a4 0) (a6 0) (a7 0) (a8 0) v0 o0, wCells ct a7 o7, wCells ct a9 o9, wOut ct a14 o14]) (Lc' := [wPF ct a0 (a1 0) (a4 0) (a6 0) (a7 0) (a8 0) v0 o_294, wCells ct a7 o7, wCells ct a9 o_295, wOut ct a14 o_296]) (L' := [wPF ct a0 (a1 0) (a4 0) (a6 0) (a7 0) (a8 0) v0 o_294, wReader ct a1 (a2 0) o1, wText ct a2 (a3 0) o2, wSteps ct a3 o3, wText ct a4 (a5 0) o4, wSteps ct a5 o5, wReckoner ct a6 o6, wCells ct a7 o7, wCells ct a8 o8, wCells ct a9 o_295, wCells ct a10 o10, wCells ct a11 o11, wCells ct a12 o12, wMod ct a13 o13, wOut ct a14 o_296]) [0, 7, 9, 14] (bt_runSW (As := [.ref (a0 0), .ref (a14 0)]) (rest := []) ⟨hx, hb, hml, hown, hts⟩ (c_Law_version l hl0 ct dC dI a0 a7 a9 a14 (a1 0) (a4 0) (a6 0) (a8 0) v0 _ o0 o7 o9 o14 v293 o_294 o_295 o_296 (fun z9 => ((inb4 z9).elim c231 fun z9 => z9.elim c246 fun z9 => z9.elim c261 c276).elim) hG292) (gd_any cd_Law_version) rfl rfl rfl (hts _ ini_Law) (hts _ ml_Law_122) (hts _ st_Law_version) (by decide +kernel) ⟨Nat.le_of_ble_eq_true rfl, Nat.le_of_ble_eq_true rfl⟩ ⟨bw_blind thh_call, fun U hU hW => ⟨rfl, by rw [hU], by rw [hU]; exact hP.sub [0, 7, 9, 14] rfl, va_K.moved hW.alike hK, (hN.sub [0, 7, 9, 14] (by decide) rfl).weaken (fun _ _ => trivial), ⟨nx_warm hW hnx, thy_x hthy hS hAs hW hU, exX.moved hW.alike hex9⟩⟩⟩ rfl rfl hl.1 rfl (Nat.le_of_ble_eq_true rfl) d_Law_law_953 ⟨by rw [room_c]; omega, by rw [room_s]; omega⟩) hP hN hS hA rfl rfl rfl (fun H locs hP hS => ?_)
          refine lv_istore (lv' := [(5, .int v293), (0, .ref b), (1, .ref (a0 0)), (2, .ref (a13 0)), (3, .ref (a14 0)), (4, .int x4)]) hx hb d_Law_law_956 hl (by decide) rfl (fun ls hl => ?_)
          refine lv_aload_n hx hb d_Law_law_958 rfl (lv_at hl 3 rfl) ?_
          obtain ⟨v298, o_299, hG297, h⟩ := bind2_some h
          refine bw_call (Lc := [wMod ct a13 o13]) (Lc' := [wMod ct a13 o_299]) (L' := [wPF ct a0 (a1 0) (a4 0) (a6 0) (a7 0) (a8 0) v0 o_294, wReader ct a1 (a2 0) o1, wText ct a2 (a3 0) o2, wSteps ct a3 o3, wText ct a4 (a5 0) o4, wSteps ct a5 o5, wReckoner ct a6 o6, wCells ct a7 o7, wCells ct a8 o8, wCells ct a9 o_295, wCells ct a10 o10, wCells ct a11 o11, wCells ct a12 o12, wMod ct a13 o_299, wOut ct a14 o_296]) [13] (va_runV (As := []) (rest := []) ⟨hx, hb, hml, hown, hts⟩ (c_Mod_version l ct dC dI a13 _ o13 v298 o_299 hG297) (cwV 0 hts g_Law_124 rfl rfl rfl (by decide +kernel) ⟨Nat.le_of_ble_eq_true rfl, Nat.le_of_ble_eq_true rfl⟩) ⟨bw_blind nx_call, va_recv hK (hP 13 _ rfl) (ci := 6) (q0 := 0) rfl rfl, fun U hU hW => ⟨rfl, by rw [hU], by rw [hU]; exact hP.sub [13] rfl, va_K.moved hW.alike hK, (hN.sub [13] (by decide) rfl).weaken (fun _ _ => trivial), nx_warm hW hnx⟩⟩ rfl rfl hl.1 rfl (Nat.le_of_ble_eq_true rfl) d_Law_law_959 ⟨by rw [room_c]; omega, by rw [room_s]; omega⟩) hP hN hS hA rfl rfl rfl (fun H locs hP hS => ?_)
          refine lv_istore (lv' := [(6, .int v298), (5, .int v293), (0, .ref b), (1, .ref (a0 0)), (2, .ref (a13 0)), (3, .ref (a14 0)), (4, .int x4)]) hx hb d_Law_law_962 hl (by decide) rfl (fun ls hl => ?_)
          refine lv_aload_n hx hb d_Law_law_964 rfl (lv_at hl 4 rfl) ?_
          obtain ⟨v301, hG300, h⟩ := bind1_some h
          refine bw_callR (va_runV (As := []) (rest := []) ⟨hx, hb, hml, hown, hts⟩ (c_Mod_thrown l ct dC dI a13 _ o_299 v301 hG300) (cwV 0 hts g_Law_83 rfl rfl rfl (by decide +kernel) ⟨Nat.le_of_ble_eq_true rfl, Nat.le_of_ble_eq_true rfl⟩) ⟨bw_blind nx_call, va_recv hK (hP 13 _ rfl) (ci := 6) (q0 := 0) rfl rfl, fun U hU hW => ⟨rfl, by rw [hU], by rw [hU]; exact hP.sub [13] rfl, va_K.moved hW.alike hK, (hN.sub [13] (by decide) rfl).weaken (fun _ _ => trivial), nx_warm hW hnx⟩⟩ rfl rfl hl.1 rfl (Nat.le_of_ble_eq_true rfl) d_Law_law_965 ⟨by rw [room_c]; omega, by rw [room_s]; omega⟩) ?_
          refine lv_iload hx hb d_Law_law_968 (lv_at hl 1 rfl) ?_
          refine lv_icmp_eq (tgt := 975) hx hb d_Law_law_970 (by decide) (fun c302 => ?_) (fun c302 => ?_)
          · have h := ite_t c302 h
            refine lv_iload hx hb d_Law_law_975 (lv_at hl 1 rfl) ?_
            refine lv_if_ne (tgt := 992) hx hb d_Law_law_977 (by decide) (fun c303 => ?_) (fun c303 => ?_)
            · have h := ite_f c303 h
              refine lv_goto (tgt := 1128) hx hb d_Law_law_992 (by decide) ?_
              refine lv_iinc (v := (x4 + (6 : Int32))) (lv' := [(4, .int (x4 + (6 : Int32))), (6, .int v298), (5, .int v293), (0, .ref b), (1, .ref (a0 0)), (2, .ref (a13 0)), (3, .ref (a14 0))]) hx hb d_Law_law_1128 hl (k := 6) rfl rfl (by decide) rfl (fun ls hl => ?_)
              refine lv_goto (tgt := 23) hx hb d_Law_law_1131 (by decide) ?_
              refine W.widen (k := 200 + (it + 1)) (n := 40000 + 6 * (it + 1)) (by omega) (by omega) ?_
              exact hk23 a0 a1 a2 a3 a4 a5 a6 a7 a8 a9 a10 a11 a12 a13 a14 v0 (x4 + (6 : Int32)) o_294 o1 o2 o3 o4 o5 o6 o7 o8 o_295 o10 o11 o12 o_299 o_296 _ _ _ hN hver hP hS (lv_sub hl [3, 4, 5, 6, 0] rfl) h
            · have h := ite_t c303 h
              refine lv_aload_n hx hb d_Law_law_980 rfl (lv_at hl 5 rfl) ?_
              refine lv_iconst (v := 0) hx hb d_Law_law_981 (by decide) ?_
              obtain ⟨hi304, h⟩ := chk_some h
              refine va_lald (f := g64 o_296 0) hx hb hK (hP 14 _ rfl) 0 1 rfl rfl (inb_in hi304) d_Law_law_982 ?_
              refine lv_iload hx hb d_Law_law_983 (lv_at hl 0 rfl) ?_
              refine lv_i2l (v := (Int32.toInt64 v298)) hx hb d_Law_law_985 rfl ?_
              refine W.lcmp hx hb d_Law_law_986 ?_
              refine lv_if_eq (tgt := 992) hx hb d_Law_law_987 (by decide) (fun c305 => ?_) (fun c305 => ?_)
              · have h := ite_t c305 h
                refine lv_goto (tgt := 1128) hx hb d_Law_law_992 (by decide) ?_
                refine lv_iinc (v := (x4 + (6 : Int32))) (lv' := [(4, .int (x4 + (6 : Int32))), (6, .int v298), (5, .int v293), (0, .ref b), (1, .ref (a0 0)), (2, .ref (a13 0)), (3, .ref (a14 0))]) hx hb d_Law_law_1128 hl (k := 6) rfl rfl (by decide) rfl (fun ls hl => ?_)
                refine lv_goto (tgt := 23) hx hb d_Law_law_1131 (by decide) ?_
                refine W.widen (k := 200 + (it + 1)) (n := 40000 + 6 * (it + 1)) (by omega) (by omega) ?_
                exact hk23 a0 a1 a2 a3 a4 a5 a6 a7 a8 a9 a10 a11 a12 a13 a14 v0 (x4 + (6 : Int32)) o_294 o1 o2 o3 o4 o5 o6 o7 o8 o_295 o10 o11 o12 o_299 o_296 _ _ _ hN hver hP hS (lv_sub hl [3, 4, 5, 6, 0] rfl) h
              · have h := ite_f c305 h
                refine lv_iconst (v := 0) hx hb d_Law_law_990 (by decide) ?_
                cases h
          · have h := ite_f c302 h
            refine lv_iconst (v := 0) hx hb d_Law_law_973 (by decide) ?_
            cases h
def F_Law_law_995 (L : Nat) (xs : Nat → Int32) (k23 : Int32 → Ob → Ob → Ob → Ob → Ob → Ob → Ob → Ob → Ob → Ob → Ob → Ob → Ob → Ob → Ob → Option Unit) (x4 : Int32) (o0 o1 o2 o3 o4 o5 o6 o7 o8 o9 o10 o11 o12 o13 o14 : Ob) : Option Unit :=
  chk (inb (x4 + (1 : Int32)) L) (chk (inb (x4 + (2 : Int32)) L) (if (xs (Int32.toNatClampNeg (x4 + (1 : Int32)))) = 0 then (bind2 (F_Law_differs (xs (Int32.toNatClampNeg (x4 + (1 : Int32)))) (xs (Int32.toNatClampNeg (x4 + (2 : Int32)))) o0 o7 o9 o14) (fun v310 o_311 => bind2 (F_Mod_differs (xs (Int32.toNatClampNeg (x4 + (1 : Int32)))) (xs (Int32.toNatClampNeg (x4 + (2 : Int32)))) o13) (fun v315 o_316 => bind1 (F_Mod_thrown o_316) (fun v318 => if v318 = v310 then (if v310 = 0 then (chk (inb (0 : Int32) 1) (if (lg_cmp (g64 o_311 0 (Int32.toNatClampNeg (0 : Int32))) (Int32.toInt64 v315)) = 0 then (k23 (x4 + (6 : Int32)) o0 o1 o2 o3 o4 o5 o6 o7 o8 o9 o10 o11 o12 o_316 o_311) else (none))) else (k23 (x4 + (6 : Int32)) o0 o1 o2 o3 o4 o5 o6 o7 o8 o9 o10 o11 o12 o_316 o_311)) else (none))))) else (if (xs (Int32.toNatClampNeg (x4 + (1 : Int32)))) = 1 then (bind2 (F_Law_differs (xs (Int32.toNatClampNeg (x4 + (1 : Int32)))) (xs (Int32.toNatClampNeg (x4 + (2 : Int32)))) o0 o7 o10 o14) (fun v325 o_326 => bind2 (F_Mod_differs (xs (Int32.toNatClampNeg (x4 + (1 : Int32)))) (xs (Int32.toNatClampNeg (x4 + (2 : Int32)))) o13) (fun v330 o_331 => bind1 (F_Mod_thrown o_331) (fun v333 => if v333 = v325 then (if v325 = 0 then (chk (inb (0 : Int32) 1) (if (lg_cmp (g64 o_326 0 (Int32.toNatClampNeg (0 : Int32))) (Int32.toInt64 v330)) = 0 then (k23 (x4 + (6 : Int32)) o0 o1 o2 o3 o4 o5 o6 o7 o8 o9 o10 o11 o12 o_331 o_326) else (none))) else (k23 (x4 + (6 : Int32)) o0 o1 o2 o3 o4 o5 o6 o7 o8 o9 o10 o11 o12 o_331 o_326)) else (none))))) else (if (xs (Int32.toNatClampNeg (x4 + (1 : Int32)))) = 2 then (bind2 (F_Law_differs (xs (Int32.toNatClampNeg (x4 + (1 : Int32)))) (xs (Int32.toNatClampNeg (x4 + (2 : Int32)))) o0 o7 o11 o14) (fun v340 o_341 => bind2 (F_Mod_differs (xs (Int32.toNatClampNeg (x4 + (1 : Int32)))) (xs (Int32.toNatClampNeg (x4 + (2 : Int32)))) o13) (fun v345 o_346 => bind1 (F_Mod_thrown o_346) (fun v348 => if v348 = v340 then (if v340 = 0 then (chk (inb (0 : Int32) 1) (if (lg_cmp (g64 o_341 0 (Int32.toNatClampNeg (0 : Int32))) (Int32.toInt64 v345)) = 0 then (k23 (x4 + (6 : Int32)) o0 o1 o2 o3 o4 o5 o6 o7 o8 o9 o10 o11 o12 o_346 o_341) else (none))) else (k23 (x4 + (6 : Int32)) o0 o1 o2 o3 o4 o5 o6 o7 o8 o9 o10 o11 o12 o_346 o_341)) else (none))))) else (if (xs (Int32.toNatClampNeg (x4 + (1 : Int32)))) = 3 then (bind2 (F_Law_differs (xs (Int32.toNatClampNeg (x4 + (1 : Int32)))) (xs (Int32.toNatClampNeg (x4 + (2 : Int32)))) o0 o7 o12 o14) (fun v355 o_356 => bind2 (F_Mod_differs (xs (Int32.toNatClampNeg (x4 + (1 : Int32)))) (xs (Int32.toNatClampNeg (x4 + (2 : Int32)))) o13) (fun v360 o_361 => bind1 (F_Mod_thrown o_361) (fun v363 => if v363 = v355 then (if v355 = 0 then (chk (inb (0 : Int32) 1) (if (lg_cmp (g64 o_356 0 (Int32.toNatClampNeg (0 : Int32))) (Int32.toInt64 v360)) = 0 then (k23 (x4 + (6 : Int32)) o0 o1 o2 o3 o4 o5 o6 o7 o8 o9 o10 o11 o12 o_361 o_356) else (none))) else (k23 (x4 + (6 : Int32)) o0 o1 o2 o3 o4 o5 o6 o7 o8 o9 o10 o11 o12 o_361 o_356)) else (none))))) else (bind2 (F_Law_differs (xs (Int32.toNatClampNeg (x4 + (1 : Int32)))) (xs (Int32.toNatClampNeg (x4 + (2 : Int32)))) o0 o7 o9 o14) (fun v370 o_371 => bind2 (F_Mod_differs (xs (Int32.toNatClampNeg (x4 + (1 : Int32)))) (xs (Int32.toNatClampNeg (x4 + (2 : Int32)))) o13) (fun v375 o_376 => bind1 (F_Mod_thrown o_376) (fun v378 => if v378 = v370 then (if v370 = 0 then (chk (inb (0 : Int32) 1) (if (lg_cmp (g64 o_371 0 (Int32.toNatClampNeg (0 : Int32))) (Int32.toInt64 v375)) = 0 then (k23 (x4 + (6 : Int32)) o0 o1 o2 o3 o4 o5 o6 o7 o8 o9 o10 o11 o12 o_376 o_371) else (none))) else (k23 (x4 + (6 : Int32)) o0 o1 o2 o3 o4 o5 o6 o7 o8 o9 o10 o11 o12 o_376 o_371)) else (none))))))))))
set_option maxHeartbeats 8000000 in
set_option maxRecDepth 100000 in
theorem k_Law_law_995 {p : Program} {l : Launch} {e : Env} {s : State} {m : MethodId} {below : List Frame} {meth : Method} {c : Code} {b L : Nat} {xs : Nat → Int32} {A : Nat → Prop} {ct dC : Nat → ClassId} {dI : Nat → Nat → Nat} (C0 : lcx p s m meth c b L xs A ct dC dI) (hl0 : l.stackTraces = false) {it : Nat} (hit : it + 1 ≤ 600) {k23 : Int32 → Ob → Ob → Ob → Ob → Ob → Ob → Ob → Ob → Ob → Ob → Ob → Ob → Ob → Ob → Ob → Option Unit} (hk23 : ∀ (a0 a1 a2 a3 a4 a5 a6 a7 a8 a9 a10 a11 a12 a13 a14 : Nat → Nat) (v0 : Nat → Nat) (x4 : Int32) (o0 o1 o2 o3 o4 o5 o6 o7 o8 o9 o10 o11 o12 o13 o14 : Ob) (H : Heap) (locs : List Loc) (ls : Array Slot), bw_N A [adPF a0, adReader a1, adText a2, adSteps a3, adText a4, adSteps a5, adReckoner a6, adCells a7, adCells a8, adCells a9, adCells a10, adCells a11, adCells a12, adMod a13, adOut a14] → (v0 0 = a9 0 ∧ v0 1 = a10 0 ∧ v0 2 = a11 0 ∧ v0 3 = a12 0) → bw_P (dC, dI) vwCl [wPF ct a0 (a1 0) (a4 0) (a6 0) (a7 0) (a8 0) v0 o0, wReader ct a1 (a2 0) o1, wText ct a2 (a3 0) o2, wSteps ct a3 o3, wText ct a4 (a5 0) o4, wSteps ct a5 o5, wReckoner ct a6 o6, wCells ct a7 o7, wCells ct a8 o8, wCells ct a9 o9, wCells ct a10 o10, wCells ct a11 o11, wCells ct a12 o12, wMod ct a13 o13, wOut ct a14 o14] H → va_S A s.heap H locs → lv_has ls 8 [(0, .ref b), (1, .ref (a0 0)), (2, .ref (a13 0)), (3, .ref (a14 0)), (4, .int x4)] → k23 x4 o0 o1 o2 o3 o4 o5 o6 o7 o8 o9 o10 o11 o12 o13 o14 = some () → W p l e room_1 s m #[Value.ref b] below meth c H locs (200 + (it + 1)) (40000 + 6 * (it + 1)) (lw_Z below #[Value.ref b] s) (F0 m 23 ls [])) : ∀ (a0 a1 a2 a3 a4 a5 a6 a7 a8 a9 a10 a11 a12 a13 a14 : Nat → Nat) (v0 : Nat → Nat) (x4 : Int32) (o0 o1 o2 o3 o4 o5 o6 o7 o8 o9 o10 o11 o12 o13 o14 : Ob) (H : Heap) (locs : List Loc) (ls : Array Slot), bw_N A [adPF a0, adReader a1, adText a2, adSteps a3, adText a4, adSteps a5, adReckoner a6, adCells a7, adCells a8, adCells a9, adCells a10, adCells a11, adCells a12, adMod a13, adOut a14] → (v0 0 = a9 0 ∧ v0 1 = a10 0 ∧ v0 2 = a11 0 ∧ v0 3 = a12 0) → bw_P (dC, dI) vwCl [wPF ct a0 (a1 0) (a4 0) (a6 0) (a7 0) (a8 0) v0 o0, wReader ct a1 (a2 0) o1, wText ct a2 (a3 0) o2, wSteps ct a3 o3, wText ct a4 (a5 0) o4, wSteps ct a5 o5, wReckoner ct a6 o6, wCells ct a7 o7, wCells ct a8 o8, wCells ct a9 o9, wCells ct a10 o10, wCells ct a11 o11, wCells ct a12 o12, wMod ct a13 o13, wOut ct a14 o14] H → va_S A s.heap H locs → lv_has ls 8 [(0, .ref b), (1, .ref (a0 0)), (2, .ref (a13 0)), (3, .ref (a14 0)), (4, .int x4)] → F_Law_law_995 L xs k23 x4 o0 o1 o2 o3 o4 o5 o6 o7 o8 o9 o10 o11 o12 o13 o14 = some () → W p l e room_1 s m #[Value.ref b] below meth c H locs (200 + it) (40000 + 6 * it) (lw_Z below #[Value.ref b] s) (F0 m 995 ls []) := by
  obtain ⟨hx, hb, hr, hml, hown, hlocks, hts, hK, hA, hAs, hX, hbl, hnx, hthy, hex9, hsx⟩ := id C0
  have hbA : ¬ A b := fun z => absurd (hAs b z) (Nat.not_le.mpr hbl)
  intro a0 a1 a2 a3 a4 a5 a6 a7 a8 a9 a10 a11 a12 a13 a14 v0 x4 o0 o1 o2 o3 o4 o5 o6 o7 o8 o9 o10 o11 o12 o13 o14 H locs ls hN hver hP hS hl h
  rw [F_Law_law_995] at h
  refine lv_aload_n hx hb d_Law_law_995 rfl (lv_at hl 1 rfl) ?_
  refine lv_aload_n hx hb d_Law_law_996 rfl (lv_at hl 0 rfl) ?_
  refine lv_iload hx hb d_Law_law_997 (lv_at hl 4 rfl) ?_
  refine lv_iconst (v := 1) hx hb d_Law_law_999 (by decide) ?_
  refine lv_iadd hx hb d_Law_law_1000 ?_
  obtain ⟨hi306, h⟩ := chk_some h
  refine va_sld hx hb hX hbl hbA hS (inb_in hi306) d_Law_law_1001 ?_
  refine lv_aload_n hx hb d_Law_law_1002 rfl (lv_at hl 0 rfl) ?_
  refine lv_iload hx hb d_Law_law_1003 (lv_at hl 4 rfl) ?_
  refine lv_iconst (v := 2) hx hb d_Law_law_1005 (by decide) ?_
  refine lv_iadd hx hb d_Law_law_1006 ?_
  obtain ⟨hi307, h⟩ := chk_some h
  refine va_sld hx hb hX hbl hbA hS (inb_in hi307) d_Law_law_1007 ?_
  refine lv_aload_n hx hb d_Law_law_1008 rfl (lv_at hl 3 rfl) ?_
  by_cases c308 : (xs (Int32.toNatClampNeg (x4 + (1 : Int32)))) = 0
  · have h := ite_t c308 h
    obtain ⟨v310, o_311, hG309, h⟩ := bind2_some h
    refine bw_call (Lc := [wPF ct a0 (a1 0) (a4 0) (a6 0) (a7 0) (a8 0) v0 o0, wCells ct a7 o7, wCells ct a9 o9, wOut ct a14 o14]) (Lc' := [wPF ct a0 (a1 0) (a4 0) (a6 0) (a7 0) (a8 0) v0 o0, wCells ct a7 o7, wCells ct a9 o9, wOut ct a14 o_311]) (L' := [wPF ct a0 (a1 0) (a4 0) (a6 0) (a7 0) (a8 0) v0 o0, wReader ct a1 (a2 0) o1, wText ct a2 (a3 0) o2, wSteps ct a3 o3, wText ct a4 (a5 0) o4, wSteps ct a5 o5, wReckoner ct a6 o6, wCells ct a7 o7, wCells ct a8 o8, wCells ct a9 o9, wCells ct a10 o10, wCells ct a11 o11, wCells ct a12 o12, wMod ct a13 o13, wOut ct a14 o_311]) [0, 7, 9, 14] (bt_runSW (As := [.ref (a0 0), .int (xs (Int32.toNatClampNeg (x4 + (1 : Int32)))), .int (xs (Int32.toNatClampNeg (x4 + (2 : Int32)))), .ref (a14 0)]) (rest := []) ⟨hx, hb, hml, hown, hts⟩ (c_Law_differs l hl0 ct dC dI a0 a7 a9 a14 (a1 0) (a4 0) (a6 0) (a8 0) v0 _ (xs (Int32.toNatClampNeg (x4 + (1 : Int32)))) (xs (Int32.toNatClampNeg (x4 + (2 : Int32)))) o0 o7 o9 o14 v310 o_311 (fun _ => by rw [c308]; exact hver.1) hG309) (gd_any cd_Law_differs) rfl rfl rfl (hts _ ini_Law) (hts _ ml_Law_125) (hts _ st_Law_differs) (by decide +kernel) ⟨Nat.le_of_ble_eq_true rfl, Nat.le_of_ble_eq_true rfl⟩ ⟨bw_blind thh_call, fun U hU hW => ⟨rfl, by rw [hU], by rw [hU]; exact hP.sub [0, 7, 9, 14] rfl, va_K.moved hW.alike hK, (hN.sub [0, 7, 9, 14] (by decide) rfl).weaken (fun _ _ => trivial), ⟨nx_warm hW hnx, thy_x hthy hS hAs hW hU, exX.moved hW.alike hex9⟩⟩⟩ rfl rfl hl.1 rfl (Nat.le_of_ble_eq_true rfl) d_Law_law_1009 ⟨by rw [room_c]; omega, by rw [room_s]; omega⟩) hP hN hS hA rfl rfl rfl (fun H locs hP hS => ?_)
    refine lv_istore (lv' := [(5, .int v310), (0, .ref b), (1, .ref (a0 0)), (2, .ref (a13 0)), (3, .ref (a14 0)), (4, .int x4)]) hx hb d_Law_law_1012 hl (by decide) rfl (fun ls hl => ?_)
    refine lv_aload_n hx hb d_Law_law_1014 rfl (lv_at hl 3 rfl) ?_
    refine lv_aload_n hx hb d_Law_law_1015 rfl (lv_at hl 1 rfl) ?_
    refine lv_iload hx hb d_Law_law_1016 (lv_at hl 5 rfl) ?_
    refine lv_iconst (v := 1) hx hb d_Law_law_1018 (by decide) ?_
    refine lv_iadd hx hb d_Law_law_1019 ?_
    refine va_sld hx hb hX hbl hbA hS (inb_in hi306) d_Law_law_1020 ?_
    refine lv_aload_n hx hb d_Law_law_1021 rfl (lv_at hl 1 rfl) ?_
    refine lv_iload hx hb d_Law_law_1022 (lv_at hl 5 rfl) ?_
    refine lv_iconst (v := 2) hx hb d_Law_law_1024 (by decide) ?_
    refine lv_iadd hx hb d_Law_law_1025 ?_
    refine va_sld hx hb hX hbl hbA hS (inb_in hi307) d_Law_law_1026 ?_
    obtain ⟨v315, o_316, hG314, h⟩ := bind2_some h
    refine bw_call (Lc := [wMod ct a13 o13]) (Lc' := [wMod ct a13 o_316]) (L' := [wPF ct a0 (a1 0) (a4 0) (a6 0) (a7 0) (a8 0) v0 o0, wReader ct a1 (a2 0) o1, wText ct a2 (a3 0) o2, wSteps ct a3 o3, wText ct a4 (a5 0) o4, wSteps ct a5 o5, wReckoner ct a6 o6, wCells ct a7 o7, wCells ct a8 o8, wCells ct a9 o9, wCells ct a10 o10, wCells ct a11 o11, wCells ct a12 o12, wMod ct a13 o_316, wOut ct a14 o_311]) [13] (va_runV (As := [.int (xs (Int32.toNatClampNeg (x4 + (1 : Int32)))), .int (xs (Int32.toNatClampNeg (x4 + (2 : Int32))))]) (rest := []) ⟨hx, hb, hml, hown, hts⟩ (c_Mod_differs l ct dC dI a13 _ (xs (Int32.toNatClampNeg (x4 + (1 : Int32)))) (xs (Int32.toNatClampNeg (x4 + (2 : Int32)))) o13 v315 o_316 hG314) (cwV 2 hts g_Law_127 rfl rfl rfl (by decide +kernel) ⟨Nat.le_of_ble_eq_true rfl, Nat.le_of_ble_eq_true rfl⟩) ⟨bw_blind nx_call, va_recv hK (hP 13 _ rfl) (ci := 6) (q0 := 0) rfl rfl, fun U hU hW => ⟨rfl, by rw [hU], by rw [hU]; exact hP.sub [13] rfl, va_K.moved hW.alike hK, (hN.sub [13] (by decide) rfl).weaken (fun _ _ => trivial), nx_warm hW hnx⟩⟩ rfl rfl hl.1 rfl (Nat.le_of_ble_eq_true rfl) d_Law_law_1027 ⟨by rw [room_c]; omega, by rw [room_s]; omega⟩) hP hN hS hA rfl rfl rfl (fun H locs hP hS => ?_)
    refine lv_istore (lv' := [(6, .int v315), (5, .int v310), (0, .ref b), (1, .ref (a0 0)), (2, .ref (a13 0)), (3, .ref (a14 0)), (4, .int x4)]) hx hb d_Law_law_1030 hl (by decide) rfl (fun ls hl => ?_)
    refine lv_aload_n hx hb d_Law_law_1032 rfl (lv_at hl 4 rfl) ?_
    obtain ⟨v318, hG317, h⟩ := bind1_some h
    refine bw_callR (va_runV (As := []) (rest := []) ⟨hx, hb, hml, hown, hts⟩ (c_Mod_thrown l ct dC dI a13 _ o_316 v318 hG317) (cwV 0 hts g_Law_83 rfl rfl rfl (by decide +kernel) ⟨Nat.le_of_ble_eq_true rfl, Nat.le_of_ble_eq_true rfl⟩) ⟨bw_blind nx_call, va_recv hK (hP 13 _ rfl) (ci := 6) (q0 := 0) rfl rfl, fun U hU hW => ⟨rfl, by rw [hU], by rw [hU]; exact hP.sub [13] rfl, va_K.moved hW.alike hK, (hN.sub [13] (by decide) rfl).weaken (fun _ _ => trivial), nx_warm hW hnx⟩⟩ rfl rfl hl.1 rfl (Nat.le_of_ble_eq_true rfl) d_Law_law_1033 ⟨by rw [room_c]; omega, by rw [room_s]; omega⟩) ?_
    refine lv_iload hx hb d_Law_law_1036 (lv_at hl 1 rfl) ?_
    refine lv_icmp_eq (tgt := 1043) hx hb d_Law_law_1038 (by decide) (fun c319 => ?_) (fun c319 => ?_)
    · have h := ite_t c319 h
      refine lv_iload hx hb d_Law_law_1043 (lv_at hl 1 rfl) ?_
      refine lv_if_ne (tgt := 1060) hx hb d_Law_law_1045 (by decide) (fun c320 => ?_) (fun c320 => ?_)
      · have h := ite_f c320 h
        refine lv_goto (tgt := 1128) hx hb d_Law_law_1060 (by decide) ?_
        refine lv_iinc (v := (x4 + (6 : Int32))) (lv' := [(4, .int (x4 + (6 : Int32))), (6, .int v315), (5, .int v310), (0, .ref b), (1, .ref (a0 0)), (2, .ref (a13 0)), (3, .ref (a14 0))]) hx hb d_Law_law_1128 hl (k := 6) rfl rfl (by decide) rfl (fun ls hl => ?_)
        refine lv_goto (tgt := 23) hx hb d_Law_law_1131 (by decide) ?_
        refine W.widen (k := 200 + (it + 1)) (n := 40000 + 6 * (it + 1)) (by omega) (by omega) ?_
        exact hk23 a0 a1 a2 a3 a4 a5 a6 a7 a8 a9 a10 a11 a12 a13 a14 v0 (x4 + (6 : Int32)) o0 o1 o2 o3 o4 o5 o6 o7 o8 o9 o10 o11 o12 o_316 o_311 _ _ _ hN hver hP hS (lv_sub hl [3, 4, 5, 6, 0] rfl) h
      · have h := ite_t c320 h
        refine lv_aload_n hx hb d_Law_law_1048 rfl (lv_at hl 5 rfl) ?_
        refine lv_iconst (v := 0) hx hb d_Law_law_1049 (by decide) ?_
        obtain ⟨hi321, h⟩ := chk_some h
        refine va_lald (f := g64 o_311 0) hx hb hK (hP 14 _ rfl) 0 1 rfl rfl (inb_in hi321) d_Law_law_1050 ?_
        refine lv_iload hx hb d_Law_law_1051 (lv_at hl 0 rfl) ?_
        refine lv_i2l (v := (Int32.toInt64 v315)) hx hb d_Law_law_1053 rfl ?_
        refine W.lcmp hx hb d_Law_law_1054 ?_
        refine lv_if_eq (tgt := 1060) hx hb d_Law_law_1055 (by decide) (fun c322 => ?_) (fun c322 => ?_)
        · have h := ite_t c322 h
          refine lv_goto (tgt := 1128) hx hb d_Law_law_1060 (by decide) ?_
          refine lv_iinc (v := (x4 + (6 : Int32))) (lv' := [(4, .int (x4 + (6 : Int32))), (6, .int v315), (5, .int v310), (0, .ref b), (1, .ref (a0 0)), (2, .ref (a13 0)), (3, .ref (a14 0))]) hx hb d_Law_law_1128 hl (k := 6) rfl rfl (by decide) rfl (fun ls hl => ?_)
          refine lv_goto (tgt := 23) hx hb d_Law_law_1131 (by decide) ?_
          refine W.widen (k := 200 + (it + 1)) (n := 40000 + 6 * (it + 1)) (by omega) (by omega) ?_
          exact hk23 a0 a1 a2 a3 a4 a5 a6 a7 a8 a9 a10 a11 a12 a13 a14 v0 (x4 + (6 : Int32)) o0 o1 o2 o3 o4 o5 o6 o7 o8 o9 o10 o11 o12 o_316 o_311 _ _ _ hN hver hP hS (lv_sub hl [3, 4, 5, 6, 0] rfl) h
        · have h := ite_f c322 h
          refine lv_iconst (v := 0) hx hb d_Law_law_1058 (by decide) ?_
          cases h
    · have h := ite_f c319 h
      refine lv_iconst (v := 0) hx hb d_Law_law_1041 (by decide) ?_
      cases h
  · have h := ite_f c308 h
    by_cases c323 : (xs (Int32.toNatClampNeg (x4 + (1 : Int32)))) = 1
    · have h := ite_t c323 h
      obtain ⟨v325, o_326, hG324, h⟩ := bind2_some h
      refine bw_call (Lc := [wPF ct a0 (a1 0) (a4 0) (a6 0) (a7 0) (a8 0) v0 o0, wCells ct a7 o7, wCells ct a10 o10, wOut ct a14 o14]) (Lc' := [wPF ct a0 (a1 0) (a4 0) (a6 0) (a7 0) (a8 0) v0 o0, wCells ct a7 o7, wCells ct a10 o10, wOut ct a14 o_326]) (L' := [wPF ct a0 (a1 0) (a4 0) (a6 0) (a7 0) (a8 0) v0 o0, wReader ct a1 (a2 0) o1, wText ct a2 (a3 0) o2, wSteps ct a3 o3, wText ct a4 (a5 0) o4, wSteps ct a5 o5, wReckoner ct a6 o6, wCells ct a7 o7, wCells ct a8 o8, wCells ct a9 o9, wCells ct a10 o10, wCells ct a11 o11, wCells ct a12 o12, wMod ct a13 o13, wOut ct a14 o_326]) [0, 7, 10, 14] (bt_runSW (As := [.ref (a0 0), .int (xs (Int32.toNatClampNeg (x4 + (1 : Int32)))), .int (xs (Int32.toNatClampNeg (x4 + (2 : Int32)))), .ref (a14 0)]) (rest := []) ⟨hx, hb, hml, hown, hts⟩ (c_Law_differs l hl0 ct dC dI a0 a7 a10 a14 (a1 0) (a4 0) (a6 0) (a8 0) v0 _ (xs (Int32.toNatClampNeg (x4 + (1 : Int32)))) (xs (Int32.toNatClampNeg (x4 + (2 : Int32)))) o0 o7 o10 o14 v325 o_326 (fun _ => by rw [c323]; exact hver.2.1) hG324) (gd_any cd_Law_differs) rfl rfl rfl (hts _ ini_Law) (hts _ ml_Law_125) (hts _ st_Law_differs) (by decide +kernel) ⟨Nat.le_of_ble_eq_true rfl, Nat.le_of_ble_eq_true rfl⟩ ⟨bw_blind thh_call, fun U hU hW => ⟨rfl, by rw [hU], by rw [hU]; exact hP.sub [0, 7, 10, 14] rfl, va_K.moved hW.alike hK, (hN.sub [0, 7, 10, 14] (by decide) rfl).weaken (fun _ _ => trivial), ⟨nx_warm hW hnx, thy_x hthy hS hAs hW hU, exX.moved hW.alike hex9⟩⟩⟩ rfl rfl hl.1 rfl (Nat.le_of_ble_eq_true rfl) d_Law_law_1009 ⟨by rw [room_c]; omega, by rw [room_s]; omega⟩) hP hN hS hA rfl rfl rfl (fun H locs hP hS => ?_)
      refine lv_istore (lv' := [(5, .int v325), (0, .ref b), (1, .ref (a0 0)), (2, .ref (a13 0)), (3, .ref (a14 0)), (4, .int x4)]) hx hb d_Law_law_1012 hl (by decide) rfl (fun ls hl => ?_)
      refine lv_aload_n hx hb d_Law_law_1014 rfl (lv_at hl 3 rfl) ?_
      refine lv_aload_n hx hb d_Law_law_1015 rfl (lv_at hl 1 rfl) ?_
      refine lv_iload hx hb d_Law_law_1016 (lv_at hl 5 rfl) ?_
      refine lv_iconst (v := 1) hx hb d_Law_law_1018 (by decide) ?_
      refine lv_iadd hx hb d_Law_law_1019 ?_
      refine va_sld hx hb hX hbl hbA hS (inb_in hi306) d_Law_law_1020 ?_
      refine lv_aload_n hx hb d_Law_law_1021 rfl (lv_at hl 1 rfl) ?_
      refine lv_iload hx hb d_Law_law_1022 (lv_at hl 5 rfl) ?_
      refine lv_iconst (v := 2) hx hb d_Law_law_1024 (by decide) ?_
      refine lv_iadd hx hb d_Law_law_1025 ?_
      refine va_sld hx hb hX hbl hbA hS (inb_in hi307) d_Law_law_1026 ?_
      obtain ⟨v330, o_331, hG329, h⟩ := bind2_some h
      refine bw_call (Lc := [wMod ct a13 o13]) (Lc' := [wMod ct a13 o_331]) (L' := [wPF ct a0 (a1 0) (a4 0) (a6 0) (a7 0) (a8 0) v0 o0, wReader ct a1 (a2 0) o1, wText ct a2 (a3 0) o2, wSteps ct a3 o3, wText ct a4 (a5 0) o4, wSteps ct a5 o5, wReckoner ct a6 o6, wCells ct a7 o7, wCells ct a8 o8, wCells ct a9 o9, wCells ct a10 o10, wCells ct a11 o11, wCells ct a12 o12, wMod ct a13 o_331, wOut ct a14 o_326]) [13] (va_runV (As := [.int (xs (Int32.toNatClampNeg (x4 + (1 : Int32)))), .int (xs (Int32.toNatClampNeg (x4 + (2 : Int32))))]) (rest := []) ⟨hx, hb, hml, hown, hts⟩ (c_Mod_differs l ct dC dI a13 _ (xs (Int32.toNatClampNeg (x4 + (1 : Int32)))) (xs (Int32.toNatClampNeg (x4 + (2 : Int32)))) o13 v330 o_331 hG329) (cwV 2 hts g_Law_127 rfl rfl rfl (by decide +kernel) ⟨Nat.le_of_ble_eq_true rfl, Nat.le_of_ble_eq_true rfl⟩) ⟨bw_blind nx_call, va_recv hK (hP 13 _ rfl) (ci := 6) (q0 := 0) rfl rfl, fun U hU hW => ⟨rfl, by rw [hU], by rw [hU]; exact hP.sub [13] rfl, va_K.moved hW.alike hK, (hN.sub [13] (by decide) rfl).weaken (fun _ _ => trivial), nx_warm hW hnx⟩⟩ rfl rfl hl.1 rfl (Nat.le_of_ble_eq_true rfl) d_Law_law_1027 ⟨by rw [room_c]; omega, by rw [room_s]; omega⟩) hP hN hS hA rfl rfl rfl (fun H locs hP hS => ?_)
      refine lv_istore (lv' := [(6, .int v330), (5, .int v325), (0, .ref b), (1, .ref (a0 0)), (2, .ref (a13 0)), (3, .ref (a14 0)), (4, .int x4)]) hx hb d_Law_law_1030 hl (by decide) rfl (fun ls hl => ?_)
      refine lv_aload_n hx hb d_Law_law_1032 rfl (lv_at hl 4 rfl) ?_
      obtain ⟨v333, hG332, h⟩ := bind1_some h
      refine bw_callR (va_runV (As := []) (rest := []) ⟨hx, hb, hml, hown, hts⟩ (c_Mod_thrown l ct dC dI a13 _ o_331 v333 hG332) (cwV 0 hts g_Law_83 rfl rfl rfl (by decide +kernel) ⟨Nat.le_of_ble_eq_true rfl, Nat.le_of_ble_eq_true rfl⟩) ⟨bw_blind nx_call, va_recv hK (hP 13 _ rfl) (ci := 6) (q0 := 0) rfl rfl, fun U hU hW => ⟨rfl, by rw [hU], by rw [hU]; exact hP.sub [13] rfl, va_K.moved hW.alike hK, (hN.sub [13] (by decide) rfl).weaken (fun _ _ => trivial), nx_warm hW hnx⟩⟩ rfl rfl hl.1 rfl (Nat.le_of_ble_eq_true rfl) d_Law_law_1033 ⟨by rw [room_c]; omega, by rw [room_s]; omega⟩) ?_
      refine lv_iload hx hb d_Law_law_1036 (lv_at hl 1 rfl) ?_
      refine lv_icmp_eq (tgt := 1043) hx hb d_Law_law_1038 (by decide) (fun c334 => ?_) (fun c334 => ?_)
      · have h := ite_t c334 h
        refine lv_iload hx hb d_Law_law_1043 (lv_at hl 1 rfl) ?_
        refine lv_if_ne (tgt := 1060) hx hb d_Law_law_1045 (by decide) (fun c335 => ?_) (fun c335 => ?_)
        · have h := ite_f c335 h
          refine lv_goto (tgt := 1128) hx hb d_Law_law_1060 (by decide) ?_
          refine lv_iinc (v := (x4 + (6 : Int32))) (lv' := [(4, .int (x4 + (6 : Int32))), (6, .int v330), (5, .int v325), (0, .ref b), (1, .ref (a0 0)), (2, .ref (a13 0)), (3, .ref (a14 0))]) hx hb d_Law_law_1128 hl (k := 6) rfl rfl (by decide) rfl (fun ls hl => ?_)
          refine lv_goto (tgt := 23) hx hb d_Law_law_1131 (by decide) ?_
          refine W.widen (k := 200 + (it + 1)) (n := 40000 + 6 * (it + 1)) (by omega) (by omega) ?_
          exact hk23 a0 a1 a2 a3 a4 a5 a6 a7 a8 a9 a10 a11 a12 a13 a14 v0 (x4 + (6 : Int32)) o0 o1 o2 o3 o4 o5 o6 o7 o8 o9 o10 o11 o12 o_331 o_326 _ _ _ hN hver hP hS (lv_sub hl [3, 4, 5, 6, 0] rfl) h
        · have h := ite_t c335 h
          refine lv_aload_n hx hb d_Law_law_1048 rfl (lv_at hl 5 rfl) ?_
          refine lv_iconst (v := 0) hx hb d_Law_law_1049 (by decide) ?_
          obtain ⟨hi336, h⟩ := chk_some h
          refine va_lald (f := g64 o_326 0) hx hb hK (hP 14 _ rfl) 0 1 rfl rfl (inb_in hi336) d_Law_law_1050 ?_
          refine lv_iload hx hb d_Law_law_1051 (lv_at hl 0 rfl) ?_
          refine lv_i2l (v := (Int32.toInt64 v330)) hx hb d_Law_law_1053 rfl ?_
          refine W.lcmp hx hb d_Law_law_1054 ?_
          refine lv_if_eq (tgt := 1060) hx hb d_Law_law_1055 (by decide) (fun c337 => ?_) (fun c337 => ?_)
          · have h := ite_t c337 h
            refine lv_goto (tgt := 1128) hx hb d_Law_law_1060 (by decide) ?_
            refine lv_iinc (v := (x4 + (6 : Int32))) (lv' := [(4, .int (x4 + (6 : Int32))), (6, .int v330), (5, .int v325), (0, .ref b), (1, .ref (a0 0)), (2, .ref (a13 0)), (3, .ref (a14 0))]) hx hb d_Law_law_1128 hl (k := 6) rfl rfl (by decide) rfl (fun ls hl => ?_)
            refine lv_goto (tgt := 23) hx hb d_Law_law_1131 (by decide) ?_
            refine W.widen (k := 200 + (it + 1)) (n := 40000 + 6 * (it + 1)) (by omega) (by omega) ?_
            exact hk23 a0 a1 a2 a3 a4 a5 a6 a7 a8 a9 a10 a11 a12 a13 a14 v0 (x4 + (6 : Int32)) o0 o1 o2 o3 o4 o5 o6 o7 o8 o9 o10 o11 o12 o_331 o_326 _ _ _ hN hver hP hS (lv_sub hl [3, 4, 5, 6, 0] rfl) h
          · have h := ite_f c337 h
            refine lv_iconst (v := 0) hx hb d_Law_law_1058 (by decide) ?_
            cases h
      · have h := ite_f c334 h
        refine lv_iconst (v := 0) hx hb d_Law_law_1041 (by decide) ?_
        cases h
    · have h := ite_f c323 h
      by_cases c338 : (xs (Int32.toNatClampNeg (x4 + (1 : Int32)))) = 2
      · have h := ite_t c338 h
        obtain ⟨v340, o_341, hG339, h⟩ := bind2_some h
        refine bw_call (Lc := [wPF ct a0 (a1 0) (a4 0) (a6 0) (a7 0) (a8 0) v0 o0, wCells ct a7 o7, wCells ct a11 o11, wOut ct a14 o14]) (Lc' := [wPF ct a0 (a1 0) (a4 0) (a6 0) (a7 0) (a8 0) v0 o0, wCells ct a7 o7, wCells ct a11 o11, wOut ct a14 o_341]) (L' := [wPF ct a0 (a1 0) (a4 0) (a6 0) (a7 0) (a8 0) v0 o0, wReader ct a1 (a2 0) o1, wText ct a2 (a3 0) o2, wSteps ct a3 o3, wText ct a4 (a5 0) o4, wSteps ct a5 o5, wReckoner ct a6 o6, wCells ct a7 o7, wCells ct a8 o8, wCells ct a9 o9, wCells ct a10 o10, wCells ct a11 o11, wCells ct a12 o12, wMod ct a13 o13, wOut ct a14 o_341]) [0, 7, 11, 14] (bt_runSW (As := [.ref (a0 0), .int (xs (Int32.toNatClampNeg (x4 + (1 : Int32)))), .int (xs (Int32.toNatClampNeg (x4 + (2 : Int32)))), .ref (a14 0)]) (rest := []) ⟨hx, hb, hml, hown, hts⟩ (c_Law_differs l hl0 ct dC dI a0 a7 a11 a14 (a1 0) (a4 0) (a6 0) (a8 0) v0 _ (xs (Int32.toNatClampNeg (x4 + (1 : Int32)))) (xs (Int32.toNatClampNeg (x4 + (2 : Int32)))) o0 o7 o11 o14 v340 o_341 (fun _ => by rw [c338]; exact hver.2.2.1) hG339) (gd_any cd_Law_differs) rfl rfl rfl (hts _ ini_Law) (hts _ ml_Law_125) (hts _ st_Law_differs) (by decide +kernel) ⟨Nat.le_of_ble_eq_true rfl, Nat.le_of_ble_eq_true rfl⟩ ⟨bw_blind thh_call, fun U hU hW => ⟨rfl, by rw [hU], by rw [hU]; exact hP.sub [0, 7, 11, 14] rfl, va_K.moved hW.alike hK, (hN.sub [0, 7, 11, 14] (by decide) rfl).weaken (fun _ _ => trivial), ⟨nx_warm hW hnx, thy_x hthy hS hAs hW hU, exX.moved hW.alike hex9⟩⟩⟩ rfl rfl hl.1 rfl (Nat.le_of_ble_eq_true rfl) d_Law_law_1009 ⟨by rw [room_c]; omega, by rw [room_s]; omega⟩) hP hN hS hA rfl rfl rfl (fun H locs hP hS => ?_)
        refine lv_istore (lv' := [(5, .int v340), (0, .ref b), (1, .ref (a0 0)), (2, .ref (a13 0)), (3, .ref (a14 0)), (4, .int x4)]) hx hb d_Law_law_1012 hl (by decide) rfl (fun ls hl => ?_)
        refine lv_aload_n hx hb d_Law_law_1014 rfl (lv_at hl 3 rfl) ?_
        refine lv_aload_n hx hb d_Law_law_1015 rfl (lv_at hl 1 rfl) ?_
        refine lv_iload hx hb d_Law_law_1016 (lv_at hl 5 rfl) ?_
        refine lv_iconst (v := 1) hx hb d_Law_law_1018 (by decide) ?_
        refine lv_iadd hx hb d_Law_law_1019 ?_
        refine va_sld hx hb hX hbl hbA hS (inb_in hi306) d_Law_law_1020 ?_
        refine lv_aload_n hx hb d_Law_law_1021 rfl (lv_at hl 1 rfl) ?_
        refine lv_iload hx hb d_Law_law_1022 (lv_at hl 5 rfl) ?_
        refine lv_iconst (v := 2) hx hb d_Law_law_1024 (by decide) ?_
        refine lv_iadd hx hb d_Law_law_1025 ?_
        refine va_sld hx hb hX hbl hbA hS (inb_in hi307) d_Law_law_1026 ?_
        obtain ⟨v345, o_346, hG344, h⟩ := bind2_some h
        refine bw_call (Lc := [wMod ct a13 o13]) (Lc' := [wMod ct a13 o_346]) (L' := [wPF ct a0 (a1 0) (a4 0) (a6 0) (a7 0) (a8 0) v0 o0, wReader ct a1 (a2 0) o1, wText ct a2 (a3 0) o2, wSteps ct a3 o3, wText ct a4 (a5 0) o4, wSteps ct a5 o5, wReckoner ct a6 o6, wCells ct a7 o7, wCells ct a8 o8, wCells ct a9 o9, wCells ct a10 o10, wCells ct a11 o11, wCells ct a12 o12, wMod ct a13 o_346, wOut ct a14 o_341]) [13] (va_runV (As := [.int (xs (Int32.toNatClampNeg (x4 + (1 : Int32)))), .int (xs (Int32.toNatClampNeg (x4 + (2 : Int32))))]) (rest := []) ⟨hx, hb, hml, hown, hts⟩ (c_Mod_differs l ct dC dI a13 _ (xs (Int32.toNatClampNeg (x4 + (1 : Int32)))) (xs (Int32.toNatClampNeg (x4 + (2 : Int32)))) o13 v345 o_346 hG344) (cwV 2 hts g_Law_127 rfl rfl rfl (by decide +kernel) ⟨Nat.le_of_ble_eq_true rfl, Nat.le_of_ble_eq_true rfl⟩) ⟨bw_blind nx_call, va_recv hK (hP 13 _ rfl) (ci := 6) (q0 := 0) rfl rfl, fun U hU hW => ⟨rfl, by rw [hU], by rw [hU]; exact hP.sub [13] rfl, va_K.moved hW.alike hK, (hN.sub [13] (by decide) rfl).weaken (fun _ _ => trivial), nx_warm hW hnx⟩⟩ rfl rfl hl.1 rfl (Nat.le_of_ble_eq_true rfl) d_Law_law_1027 ⟨by rw [room_c]; omega, by rw [room_s]; omega⟩) hP hN hS hA rfl rfl rfl (fun H locs hP hS => ?_)
        refine lv_istore (lv' := [(6, .int v345), (5, .int v340), (0, .ref b), (1, .ref (a0 0)), (2, .ref (a13 0)), (3, .ref (a14 0)), (4, .int x4)]) hx hb d_Law_law_1030 hl (by decide) rfl (fun ls hl => ?_)
        refine lv_aload_n hx hb d_Law_law_1032 rfl (lv_at hl 4 rfl) ?_
        obtain ⟨v348, hG347, h⟩ := bind1_some h
        refine bw_callR (va_runV (As := []) (rest := []) ⟨hx, hb, hml, hown, hts⟩ (c_Mod_thrown l ct dC dI a13 _ o_346 v348 hG347) (cwV 0 hts g_Law_83 rfl rfl rfl (by decide +kernel) ⟨Nat.le_of_ble_eq_true rfl, Nat.le_of_ble_eq_true rfl⟩) ⟨bw_blind nx_call, va_recv hK (hP 13 _ rfl) (ci := 6) (q0 := 0) rfl rfl, fun U hU hW => ⟨rfl, by rw [hU], by rw [hU]; exact hP.sub [13] rfl, va_K.moved hW.alike hK, (hN.sub [13] (by decide) rfl).weaken (fun _ _ => trivial), nx_warm hW hnx⟩⟩ rfl rfl hl.1 rfl (Nat.le_of_ble_eq_true rfl) d_Law_law_1033 ⟨by rw [room_c]; omega, by rw [room_s]; omega⟩) ?_
        refine lv_iload hx hb d_Law_law_1036 (lv_at hl 1 rfl) ?_
        refine lv_icmp_eq (tgt := 1043) hx hb d_Law_law_1038 (by decide) (fun c349 => ?_) (fun c349 => ?_)
        · have h := ite_t c349 h
          refine lv_iload hx hb d_Law_law_1043 (lv_at hl 1 rfl) ?_
          refine lv_if_ne (tgt := 1060) hx hb d_Law_law_1045 (by decide) (fun c350 => ?_) (fun c350 => ?_)
          · have h := ite_f c350 h
            refine lv_goto (tgt := 1128) hx hb d_Law_law_1060 (by decide) ?_
            refine lv_iinc (v := (x4 + (6 : Int32))) (lv' := [(4, .int (x4 + (6 : Int32))), (6, .int v345), (5, .int v340), (0, .ref b), (1, .ref (a0 0)), (2, .ref (a13 0)), (3, .ref (a14 0))]) hx hb d_Law_law_1128 hl (k := 6) rfl rfl (by decide) rfl (fun ls hl => ?_)
            refine lv_goto (tgt := 23) hx hb d_Law_law_1131 (by decide) ?_
            refine W.widen (k := 200 + (it + 1)) (n := 40000 + 6 * (it + 1)) (by omega) (by omega) ?_
            exact hk23 a0 a1 a2 a3 a4 a5 a6 a7 a8 a9 a10 a11 a12 a13 a14 v0 (x4 + (6 : Int32)) o0 o1 o2 o3 o4 o5 o6 o7 o8 o9 o10 o11 o12 o_346 o_341 _ _ _ hN hver hP hS (lv_sub hl [3, 4, 5, 6, 0] rfl) h
          · have h := ite_t c350 h
            refine lv_aload_n hx hb d_Law_law_1048 rfl (lv_at hl 5 rfl) ?_
            refine lv_iconst (v := 0) hx hb d_Law_law_1049 (by decide) ?_
            obtain ⟨hi351, h⟩ := chk_some h
            refine va_lald (f := g64 o_341 0) hx hb hK (hP 14 _ rfl) 0 1 rfl rfl (inb_in hi351) d_Law_law_1050 ?_
            refine lv_iload hx hb d_Law_law_1051 (lv_at hl 0 rfl) ?_
            refine lv_i2l (v := (Int32.toInt64 v345)) hx hb d_Law_law_1053 rfl ?_
            refine W.lcmp hx hb d_Law_law_1054 ?_
            refine lv_if_eq (tgt := 1060) hx hb d_Law_law_1055 (by decide) (fun c352 => ?_) (fun c352 => ?_)
            · have h := ite_t c352 h
              refine lv_goto (tgt := 1128) hx hb d_Law_law_1060 (by decide) ?_
              refine lv_iinc (v := (x4 + (6 : Int32))) (lv' := [(4, .int (x4 + (6 : Int32))), (6, .int v345), (5, .int v340), (0, .ref b), (1, .ref (a0 0)), (2, .ref (a13 0)), (3, .ref (a14 0))]) hx hb d_Law_law_1128 hl (k := 6) rfl rfl (by decide) rfl (fun ls hl => ?_)
              refine lv_goto (tgt := 23) hx hb d_Law_law_1131 (by decide) ?_
              refine W.widen (k := 200 + (it + 1)) (n := 40000 + 6 * (it + 1)) (by omega) (by omega) ?_
              exact hk23 a0 a1 a2 a3 a4 a5 a6 a7 a8 a9 a10 a11 a12 a13 a14 v0 (x4 + (6 : Int32)) o0 o1 o2 o3 o4 o5 o6 o7 o8 o9 o10 o11 o12 o_346 o_341 _ _ _ hN hver hP hS (lv_sub hl [3, 4, 5, 6, 0] rfl) h
            · have h := ite_f c352 h
              refine lv_iconst (v := 0) hx hb d_Law_law_1058 (by decide) ?_
              cases h
        · have h := ite_f c349 h
          refine lv_iconst (v := 0) hx hb d_Law_law_1041 (by decide) ?_
          cases h
      · have h := ite_f c338 h
        by_cases c353 : (xs (Int32.toNatClampNeg (x4 + (1 : Int32)))) = 3
        · have h := ite_t c353 h
          obtain ⟨v355, o_356, hG354, h⟩ := bind2_some h
          refine bw_call (Lc := [wPF ct a0 (a1 0) (a4 0) (a6 0) (a7 0) (a8 0) v0 o0, wCells ct a7 o7, wCells ct a12 o12, wOut ct a14 o14]) (Lc' := [wPF ct a0 (a1 0) (a4 0) (a6 0) (a7 0) (a8 0) v0 o0, wCells ct a7 o7, wCells ct a12 o12, wOut ct a14 o_356]) (L' := [wPF ct a0 (a1 0) (a4 0) (a6 0) (a7 0) (a8 0) v0 o0, wReader ct a1 (a2 0) o1, wText ct a2 (a3 0) o2, wSteps ct a3 o3, wText ct a4 (a5 0) o4, wSteps ct a5 o5, wReckoner ct a6 o6, wCells ct a7 o7, wCells ct a8 o8, wCells ct a9 o9, wCells ct a10 o10, wCells ct a11 o11, wCells ct a12 o12, wMod ct a13 o13, wOut ct a14 o_356]) [0, 7, 12, 14] (bt_runSW (As := [.ref (a0 0), .int (xs (Int32.toNatClampNeg (x4 + (1 : Int32)))), .int (xs (Int32.toNatClampNeg (x4 + (2 : Int32)))), .ref (a14 0)]) (rest := []) ⟨hx, hb, hml, hown, hts⟩ (c_Law_differs l hl0 ct dC dI a0 a7 a12 a14 (a1 0) (a4 0) (a6 0) (a8 0) v0 _ (xs (Int32.toNatClampNeg (x4 + (1 : Int32)))) (xs (Int32.toNatClampNeg (x4 + (2 : Int32)))) o0 o7 o12 o14 v355 o_356 (fun _ => by rw [c353]; exact hver.2.2.2) hG354) (gd_any cd_Law_differs) rfl rfl rfl (hts _ ini_Law) (hts _ ml_Law_125) (hts _ st_Law_differs) (by decide +kernel) ⟨Nat.le_of_ble_eq_true rfl, Nat.le_of_ble_eq_true rfl⟩ ⟨bw_blind thh_call, fun U hU hW => ⟨rfl, by rw [hU], by rw [hU]; exact hP.sub [0, 7, 12, 14] rfl, va_K.moved hW.alike hK, (hN.sub [0, 7, 12, 14] (by decide) rfl).weaken (fun _ _ => trivial), ⟨nx_warm hW hnx, thy_x hthy hS hAs hW hU, exX.moved hW.alike hex9⟩⟩⟩ rfl rfl hl.1 rfl (Nat.le_of_ble_eq_true rfl) d_Law_law_1009 ⟨by rw [room_c]; omega, by rw [room_s]; omega⟩) hP hN hS hA rfl rfl rfl (fun H locs hP hS => ?_)
          refine lv_istore (lv' := [(5, .int v355), (0, .ref b), (1, .ref (a0 0)), (2, .ref (a13 0)), (3, .ref (a14 0)), (4, .int x4)]) hx hb d_Law_law_1012 hl (by decide) rfl (fun ls hl => ?_)
          refine lv_aload_n hx hb d_Law_law_1014 rfl (lv_at hl 3 rfl) ?_
          refine lv_aload_n hx hb d_Law_law_1015 rfl (lv_at hl 1 rfl) ?_
          refine lv_iload hx hb d_Law_law_1016 (lv_at hl 5 rfl) ?_
          refine lv_iconst (v := 1) hx hb d_Law_law_1018 (by decide) ?_
          refine lv_iadd hx hb d_Law_law_1019 ?_
          refine va_sld hx hb hX hbl hbA hS (inb_in hi306) d_Law_law_1020 ?_
          refine lv_aload_n hx hb d_Law_law_1021 rfl (lv_at hl 1 rfl) ?_
          refine lv_iload hx hb d_Law_law_1022 (lv_at hl 5 rfl) ?_
          refine lv_iconst (v := 2) hx hb d_Law_law_1024 (by decide) ?_
          refine lv_iadd hx hb d_Law_law_1025 ?_
          refine va_sld hx hb hX hbl hbA hS (inb_in hi307) d_Law_law_1026 ?_
          obtain ⟨v360, o_361, hG359, h⟩ := bind2_some h
          refine bw_call (Lc := [wMod ct a13 o13]) (Lc' := [wMod ct a13 o_361]) (L' := [wPF ct a0 (a1 0) (a4 0) (a6 0) (a7 0) (a8 0) v0 o0, wReader ct a1 (a2 0) o1, wText ct a2 (a3 0) o2, wSteps ct a3 o3, wText ct a4 (a5 0) o4, wSteps ct a5 o5, wReckoner ct a6 o6, wCells ct a7 o7, wCells ct a8 o8, wCells ct a9 o9, wCells ct a10 o10, wCells ct a11 o11, wCells ct a12 o12, wMod ct a13 o_361, wOut ct a14 o_356]) [13] (va_runV (As := [.int (xs (Int32.toNatClampNeg (x4 + (1 : Int32)))), .int (xs (Int32.toNatClampNeg (x4 + (2 : Int32))))]) (rest := []) ⟨hx, hb, hml, hown, hts⟩ (c_Mod_differs l ct dC dI a13 _ (xs (Int32.toNatClampNeg (x4 + (1 : Int32)))) (xs (Int32.toNatClampNeg (x4 + (2 : Int32)))) o13 v360 o_361 hG359) (cwV 2 hts g_Law_127 rfl rfl rfl (by decide +kernel) ⟨Nat.le_of_ble_eq_true rfl, Nat.le_of_ble_eq_true rfl⟩) ⟨bw_blind nx_call, va_recv hK (hP 13 _ rfl) (ci := 6) (q0 := 0) rfl rfl, fun U hU hW => ⟨rfl, by rw [hU], by rw [hU]; exact hP.sub [13] rfl, va_K.moved hW.alike hK, (hN.sub [13] (by decide) rfl).weaken (fun _ _ => trivial), nx_warm hW hnx⟩⟩ rfl rfl hl.1 rfl (Nat.le_of_ble_eq_true rfl) d_Law_law_1027 ⟨by rw [room_c]; omega, by rw [room_s]; omega⟩) hP hN hS hA rfl rfl rfl (fun H locs hP hS => ?_)
          refine lv_istore (lv' := [(6, .int v360), (5, .int v355), (0, .ref b), (1, .ref (a0 0)), (2, .ref (a13 0)), (3, .ref (a14 0)), (4, .int x4)]) hx hb d_Law_law_1030 hl (by decide) rfl (fun ls hl => ?_)
          refine lv_aload_n hx hb d_Law_law_1032 rfl (lv_at hl 4 rfl) ?_
          obtain ⟨v363, hG362, h⟩ := bind1_some h
          refine bw_callR (va_runV (As := []) (rest := []) ⟨hx, hb, hml, hown, hts⟩ (c_Mod_thrown l ct dC dI a13 _ o_361 v363 hG362) (cwV 0 hts g_Law_83 rfl rfl rfl (by decide +kernel) ⟨Nat.le_of_ble_eq_true rfl, Nat.le_of_ble_eq_true rfl⟩) ⟨bw_blind nx_call, va_recv hK (hP 13 _ rfl) (ci := 6) (q0 := 0) rfl rfl, fun U hU hW => ⟨rfl, by rw [hU], by rw [hU]; exact hP.sub [13] rfl, va_K.moved hW.alike hK, (hN.sub [13] (by decide) rfl).weaken (fun _ _ => trivial), nx_warm hW hnx⟩⟩ rfl rfl hl.1 rfl (Nat.le_of_ble_eq_true rfl) d_Law_law_1033 ⟨by rw [room_c]; omega, by rw [room_s]; omega⟩) ?_
          refine lv_iload hx hb d_Law_law_1036 (lv_at hl 1 rfl) ?_
          refine lv_icmp_eq (tgt := 1043) hx hb d_Law_law_1038 (by decide) (fun c364 => ?_) (fun c364 => ?_)
          · have h := ite_t c364 h
            refine lv_iload hx hb d_Law_law_1043 (lv_at hl 1 rfl) ?_
            refine lv_if_ne (tgt := 1060) hx hb d_Law_law_1045 (by decide) (fun c365 => ?_) (fun c365 => ?_)
            · have h := ite_f c365 h
              refine lv_goto (tgt := 1128) hx hb d_Law_law_1060 (by decide) ?_
              refine lv_iinc (v := (x4 + (6 : Int32))) (lv' := [(4, .int (x4 + (6 : Int32))), (6, .int v360), (5, .int v355), (0, .ref b), (1, .ref (a0 0)), (2, .ref (a13 0)), (3, .ref (a14 0))]) hx hb d_Law_law_1128 hl (k := 6) rfl rfl (by decide) rfl (fun ls hl => ?_)
              refine lv_goto (tgt := 23) hx hb d_Law_law_1131 (by decide) ?_
              refine W.widen (k := 200 + (it + 1)) (n := 40000 + 6 * (it + 1)) (by omega) (by omega) ?_
              exact hk23 a0 a1 a2 a3 a4 a5 a6 a7 a8 a9 a10 a11 a12 a13 a14 v0 (x4 + (6 : Int32)) o0 o1 o2 o3 o4 o5 o6 o7 o8 o9 o10 o11 o12 o_361 o_356 _ _ _ hN hver hP hS (lv_sub hl [3, 4, 5, 6, 0] rfl) h
            · have h := ite_t c365 h
              refine lv_aload_n hx hb d_Law_law_1048 rfl (lv_at hl 5 rfl) ?_
              refine lv_iconst (v := 0) hx hb d_Law_law_1049 (by decide) ?_
              obtain ⟨hi366, h⟩ := chk_some h
              refine va_lald (f := g64 o_356 0) hx hb hK (hP 14 _ rfl) 0 1 rfl rfl (inb_in hi366) d_Law_law_1050 ?_
              refine lv_iload hx hb d_Law_law_1051 (lv_at hl 0 rfl) ?_
              refine lv_i2l (v := (Int32.toInt64 v360)) hx hb d_Law_law_1053 rfl ?_
              refine W.lcmp hx hb d_Law_law_1054 ?_
              refine lv_if_eq (tgt := 1060) hx hb d_Law_law_1055 (by decide) (fun c367 => ?_) (fun c367 => ?_)
              · have h := ite_t c367 h
                refine lv_goto (tgt := 1128) hx hb d_Law_law_1060 (by decide) ?_
                refine lv_iinc (v := (x4 + (6 : Int32))) (lv' := [(4, .int (x4 + (6 : Int32))), (6, .int v360), (5, .int v355), (0, .ref b), (1, .ref (a0 0)), (2, .ref (a13 0)), (3, .ref (a14 0))]) hx hb d_Law_law_1128 hl (k := 6) rfl rfl (by decide) rfl (fun ls hl => ?_)
                refine lv_goto (tgt := 23) hx hb d_Law_law_1131 (by decide) ?_
                refine W.widen (k := 200 + (it + 1)) (n := 40000 + 6 * (it + 1)) (by omega) (by omega) ?_
                exact hk23 a0 a1 a2 a3 a4 a5 a6 a7 a8 a9 a10 a11 a12 a13 a14 v0 (x4 + (6 : Int32)) o0 o1 o2 o3 o4 o5 o6 o7 o8 o9 o10 o11 o12 o_361 o_356 _ _ _ hN hver hP hS (lv_sub hl [3, 4, 5, 6, 0] rfl) h
              · have h := ite_f c367 h
                refine lv_iconst (v := 0) hx hb d_Law_law_1058 (by decide) ?_
                cases h
          · have h := ite_f c364 h
            refine lv_iconst (v := 0) hx hb d_Law_law_1041 (by decide) ?_
            cases h
        · have h := ite_f c353 h
          obtain ⟨v370, o_371, hG369, h⟩ := bind2_some h
          refine bw_call (Lc := [wPF ct a0 (a1 0) (a4 0) (a6 0) (a7 0) (a8 0) v0 o0, wCells ct a7 o7, wCells ct a9 o9, wOut ct a14 o14]) (Lc' := [wPF ct a0 (a1 0) (a4 0) (a6 0) (a7 0) (a8 0) v0 o0, wCells ct a7 o7, wCells ct a9 o9, wOut ct a14 o_371]) (L' := [wPF ct a0 (a1 0) (a4 0) (a6 0) (a7 0) (a8 0) v0 o0, wReader ct a1 (a2 0) o1, wText ct a2 (a3 0) o2, wSteps ct a3 o3, wText ct a4 (a5 0) o4, wSteps ct a5 o5, wReckoner ct a6 o6, wCells ct a7 o7, wCells ct a8 o8, wCells ct a9 o9, wCells ct a10 o10, wCells ct a11 o11, wCells ct a12 o12, wMod ct a13 o13, wOut ct a14 o_371]) [0, 7, 9, 14] (bt_runSW (As := [.ref (a0 0), .int (xs (Int32.toNatClampNeg (x4 + (1 : Int32)))), .int (xs (Int32.toNatClampNeg (x4 + (2 : Int32)))), .ref (a14 0)]) (rest := []) ⟨hx, hb, hml, hown, hts⟩ (c_Law_differs l hl0 ct dC dI a0 a7 a9 a14 (a1 0) (a4 0) (a6 0) (a8 0) v0 _ (xs (Int32.toNatClampNeg (x4 + (1 : Int32)))) (xs (Int32.toNatClampNeg (x4 + (2 : Int32)))) o0 o7 o9 o14 v370 o_371 (fun z9 => ((inb4 z9).elim c308 fun z9 => z9.elim c323 fun z9 => z9.elim c338 c353).elim) hG369) (gd_any cd_Law_differs) rfl rfl rfl (hts _ ini_Law) (hts _ ml_Law_125) (hts _ st_Law_differs) (by decide +kernel) ⟨Nat.le_of_ble_eq_true rfl, Nat.le_of_ble_eq_true rfl⟩ ⟨bw_blind thh_call, fun U hU hW => ⟨rfl, by rw [hU], by rw [hU]; exact hP.sub [0, 7, 9, 14] rfl, va_K.moved hW.alike hK, (hN.sub [0, 7, 9, 14] (by decide) rfl).weaken (fun _ _ => trivial), ⟨nx_warm hW hnx, thy_x hthy hS hAs hW hU, exX.moved hW.alike hex9⟩⟩⟩ rfl rfl hl.1 rfl (Nat.le_of_ble_eq_true rfl) d_Law_law_1009 ⟨by rw [room_c]; omega, by rw [room_s]; omega⟩) hP hN hS hA rfl rfl rfl (fun H locs hP hS => ?_)
          refine lv_istore (lv' := [(5, .int v370), (0, .ref b), (1, .ref (a0 0)), (2, .ref (a13 0)), (3, .ref (a14 0)), (4, .int x4)]) hx hb d_Law_law_1012 hl (by decide) rfl (fun ls hl => ?_)
          refine lv_aload_n hx hb d_Law_law_1014 rfl (lv_at hl 3 rfl) ?_
          refine lv_aload_n hx hb d_Law_law_1015 rfl (lv_at hl 1 rfl) ?_
          refine lv_iload hx hb d_Law_law_1016 (lv_at hl 5 rfl) ?_
          refine lv_iconst (v := 1) hx hb d_Law_law_1018 (by decide) ?_
          refine lv_iadd hx hb d_Law_law_1019 ?_
          refine va_sld hx hb hX hbl hbA hS (inb_in hi306) d_Law_law_1020 ?_
          refine lv_aload_n hx hb d_Law_law_1021 rfl (lv_at hl 1 rfl) ?_
          refine lv_iload hx hb d_Law_law_1022 (lv_at hl 5 rfl) ?_
          refine lv_iconst (v := 2) hx hb d_Law_law_1024 (by decide) ?_
          refine lv_iadd hx hb d_Law_law_1025 ?_
          refine va_sld hx hb hX hbl hbA hS (inb_in hi307) d_Law_law_1026 ?_
          obtain ⟨v375, o_376, hG374, h⟩ := bind2_some h
          refine bw_call (Lc := [wMod ct a13 o13]) (Lc' := [wMod ct a13 o_376]) (L' := [wPF ct a0 (a1 0) (a4 0) (a6 0) (a7 0) (a8 0) v0 o0, wReader ct a1 (a2 0) o1, wText ct a2 (a3 0) o2, wSteps ct a3 o3, wText ct a4 (a5 0) o4, wSteps ct a5 o5, wReckoner ct a6 o6, wCells ct a7 o7, wCells ct a8 o8, wCells ct a9 o9, wCells ct a10 o10, wCells ct a11 o11, wCells ct a12 o12, wMod ct a13 o_376, wOut ct a14 o_371]) [13] (va_runV (As := [.int (xs (Int32.toNatClampNeg (x4 + (1 : Int32)))), .int (xs (Int32.toNatClampNeg (x4 + (2 : Int32))))]) (rest := []) ⟨hx, hb, hml, hown, hts⟩ (c_Mod_differs l ct dC dI a13 _ (xs (Int32.toNatClampNeg (x4 + (1 : Int32)))) (xs (Int32.toNatClampNeg (x4 + (2 : Int32)))) o13 v375 o_376 hG374) (cwV 2 hts g_Law_127 rfl rfl rfl (by decide +kernel) ⟨Nat.le_of_ble_eq_true rfl, Nat.le_of_ble_eq_true rfl⟩) ⟨bw_blind nx_call, va_recv hK (hP 13 _ rfl) (ci := 6) (q0 := 0) rfl rfl, fun U hU hW => ⟨rfl, by rw [hU], by rw [hU]; exact hP.sub [13] rfl, va_K.moved hW.alike hK, (hN.sub [13] (by decide) rfl).weaken (fun _ _ => trivial), nx_warm hW hnx⟩⟩ rfl rfl hl.1 rfl (Nat.le_of_ble_eq_true rfl) d_Law_law_1027 ⟨by rw [room_c]; omega, by rw [room_s]; omega⟩) hP hN hS hA rfl rfl rfl (fun H locs hP hS => ?_)
          refine lv_istore (lv' := [(6, .int v375), (5, .int v370), (0, .ref b), (1, .ref (a0 0)), (2, .ref (a13 0)), (3, .ref (a14 0)), (4, .int x4)]) hx hb d_Law_law_1030 hl (by decide) rfl (fun ls hl => ?_)
          refine lv_aload_n hx hb d_Law_law_1032 rfl (lv_at hl 4 rfl) ?_
          obtain ⟨v378, hG377, h⟩ := bind1_some h
          refine bw_callR (va_runV (As := []) (rest := []) ⟨hx, hb, hml, hown, hts⟩ (c_Mod_thrown l ct dC dI a13 _ o_376 v378 hG377) (cwV 0 hts g_Law_83 rfl rfl rfl (by decide +kernel) ⟨Nat.le_of_ble_eq_true rfl, Nat.le_of_ble_eq_true rfl⟩) ⟨bw_blind nx_call, va_recv hK (hP 13 _ rfl) (ci := 6) (q0 := 0) rfl rfl, fun U hU hW => ⟨rfl, by rw [hU], by rw [hU]; exact hP.sub [13] rfl, va_K.moved hW.alike hK, (hN.sub [13] (by decide) rfl).weaken (fun _ _ => trivial), nx_warm hW hnx⟩⟩ rfl rfl hl.1 rfl (Nat.le_of_ble_eq_true rfl) d_Law_law_1033 ⟨by rw [room_c]; omega, by rw [room_s]; omega⟩) ?_
          refine lv_iload hx hb d_Law_law_1036 (lv_at hl 1 rfl) ?_
          refine lv_icmp_eq (tgt := 1043) hx hb d_Law_law_1038 (by decide) (fun c379 => ?_) (fun c379 => ?_)
          · have h := ite_t c379 h
            refine lv_iload hx hb d_Law_law_1043 (lv_at hl 1 rfl) ?_
            refine lv_if_ne (tgt := 1060) hx hb d_Law_law_1045 (by decide) (fun c380 => ?_) (fun c380 => ?_)
            · have h := ite_f c380 h
              refine lv_goto (tgt := 1128) hx hb d_Law_law_1060 (by decide) ?_
              refine lv_iinc (v := (x4 + (6 : Int32))) (lv' := [(4, .int (x4 + (6 : Int32))), (6, .int v375), (5, .int v370), (0, .ref b), (1, .ref (a0 0)), (2, .ref (a13 0)), (3, .ref (a14 0))]) hx hb d_Law_law_1128 hl (k := 6) rfl rfl (by decide) rfl (fun ls hl => ?_)
              refine lv_goto (tgt := 23) hx hb d_Law_law_1131 (by decide) ?_
              refine W.widen (k := 200 + (it + 1)) (n := 40000 + 6 * (it + 1)) (by omega) (by omega) ?_
              exact hk23 a0 a1 a2 a3 a4 a5 a6 a7 a8 a9 a10 a11 a12 a13 a14 v0 (x4 + (6 : Int32)) o0 o1 o2 o3 o4 o5 o6 o7 o8 o9 o10 o11 o12 o_376 o_371 _ _ _ hN hver hP hS (lv_sub hl [3, 4, 5, 6, 0] rfl) h
            · have h := ite_t c380 h
              refine lv_aload_n hx hb d_Law_law_1048 rfl (lv_at hl 5 rfl) ?_
              refine lv_iconst (v := 0) hx hb d_Law_law_1049 (by decide) ?_
              obtain ⟨hi381, h⟩ := chk_some h
              refine va_lald (f := g64 o_371 0) hx hb hK (hP 14 _ rfl) 0 1 rfl rfl (inb_in hi381) d_Law_law_1050 ?_
              refine lv_iload hx hb d_Law_law_1051 (lv_at hl 0 rfl) ?_
              refine lv_i2l (v := (Int32.toInt64 v375)) hx hb d_Law_law_1053 rfl ?_
              refine W.lcmp hx hb d_Law_law_1054 ?_
              refine lv_if_eq (tgt := 1060) hx hb d_Law_law_1055 (by decide) (fun c382 => ?_) (fun c382 => ?_)
              · have h := ite_t c382 h
                refine lv_goto (tgt := 1128) hx hb d_Law_law_1060 (by decide) ?_
                refine lv_iinc (v := (x4 + (6 : Int32))) (lv' := [(4, .int (x4 + (6 : Int32))), (6, .int v375), (5, .int v370), (0, .ref b), (1, .ref (a0 0)), (2, .ref (a13 0)), (3, .ref (a14 0))]) hx hb d_Law_law_1128 hl (k := 6) rfl rfl (by decide) rfl (fun ls hl => ?_)
                refine lv_goto (tgt := 23) hx hb d_Law_law_1131 (by decide) ?_
                refine W.widen (k := 200 + (it + 1)) (n := 40000 + 6 * (it + 1)) (by omega) (by omega) ?_
                exact hk23 a0 a1 a2 a3 a4 a5 a6 a7 a8 a9 a10 a11 a12 a13 a14 v0 (x4 + (6 : Int32)) o0 o1 o2 o3 o4 o5 o6 o7 o8 o9 o10 o11 o12 o_376 o_371 _ _ _ hN hver hP hS (lv_sub hl [3, 4, 5, 6, 0] rfl) h
              · have h := ite_f c382 h
                refine lv_iconst (v := 0) hx hb d_Law_law_1058 (by decide) ?_
                cases h
          · have h := ite_f c379 h
            refine lv_iconst (v := 0) hx hb d_Law_law_1041 (by decide) ?_
            cases h
def F_Law_law_1063 (L : Nat) (xs : Nat → Int32) (k23 : Int32 → Ob → Ob → Ob → Ob → Ob → Ob → Ob → Ob → Ob → Ob → Ob → Ob → Ob → Ob → Ob → Option Unit) (x4 : Int32) (o0 o1 o2 o3 o4 o5 o6 o7 o8 o9 o10 o11 o12 o13 o14 : Ob) : Option Unit :=
  bind4 (F_Law_same o0 o7 o6 o4 o8 o5 o14) (fun v384 o_385 o_386 o_387 => bind2 (F_Mod_same o13) (fun v389 o_390 => bind1 (F_Mod_thrown o_390) (fun v392 => if v392 = v384 then (if v384 = 0 then (chk (inb (0 : Int32) 1) (if (b2i v389) = 0 then (if (lg_cmp (g64 o_387 0 (Int32.toNatClampNeg (0 : Int32))) (0 : Int64)) = 0 then (k23 (x4 + (6 : Int32)) o0 o1 o2 o3 o4 o5 o_385 o7 o_386 o9 o10 o11 o12 o_390 o_387) else (none)) else (if (lg_cmp (g64 o_387 0 (Int32.toNatClampNeg (0 : Int32))) (1 : Int64)) = 0 then (k23 (x4 + (6 : Int32)) o0 o1 o2 o3 o4 o5 o_385 o7 o_386 o9 o10 o11 o12 o_390 o_387) else (none)))) else (k23 (x4 + (6 : Int32)) o0 o1 o2 o3 o4 o5 o_385 o7 o_386 o9 o10 o11 o12 o_390 o_387)) else (none))))
set_option maxHeartbeats 8000000 in
set_option maxRecDepth 100000 in
theorem k_Law_law_1063 {p : Program} {l : Launch} {e : Env} {s : State} {m : MethodId} {below : List Frame} {meth : Method} {c : Code} {b L : Nat} {xs : Nat → Int32} {A : Nat → Prop} {ct dC : Nat → ClassId} {dI : Nat → Nat → Nat} (C0 : lcx p s m meth c b L xs A ct dC dI) (hl0 : l.stackTraces = false) {it : Nat} (hit : it + 1 ≤ 600) {k23 : Int32 → Ob → Ob → Ob → Ob → Ob → Ob → Ob → Ob → Ob → Ob → Ob → Ob → Ob → Ob → Ob → Option Unit} (hk23 : ∀ (a0 a1 a2 a3 a4 a5 a6 a7 a8 a9 a10 a11 a12 a13 a14 : Nat → Nat) (v0 : Nat → Nat) (x4 : Int32) (o0 o1 o2 o3 o4 o5 o6 o7 o8 o9 o10 o11 o12 o13 o14 : Ob) (H : Heap) (locs : List Loc) (ls : Array Slot), bw_N A [adPF a0, adReader a1, adText a2, adSteps a3, adText a4, adSteps a5, adReckoner a6, adCells a7, adCells a8, adCells a9, adCells a10, adCells a11, adCells a12, adMod a13, adOut a14] → (v0 0 = a9 0 ∧ v0 1 = a10 0 ∧ v0 2 = a11 0 ∧ v0 3 = a12 0) → bw_P (dC, dI) vwCl [wPF ct a0 (a1 0) (a4 0) (a6 0) (a7 0) (a8 0) v0 o0, wReader ct a1 (a2 0) o1, wText ct a2 (a3 0) o2, wSteps ct a3 o3, wText ct a4 (a5 0) o4, wSteps ct a5 o5, wReckoner ct a6 o6, wCells ct a7 o7, wCells ct a8 o8, wCells ct a9 o9, wCells ct a10 o10, wCells ct a11 o11, wCells ct a12 o12, wMod ct a13 o13, wOut ct a14 o14] H → va_S A s.heap H locs → lv_has ls 8 [(0, .ref b), (1, .ref (a0 0)), (2, .ref (a13 0)), (3, .ref (a14 0)), (4, .int x4)] → k23 x4 o0 o1 o2 o3 o4 o5 o6 o7 o8 o9 o10 o11 o12 o13 o14 = some () → W p l e room_1 s m #[Value.ref b] below meth c H locs (200 + (it + 1)) (40000 + 6 * (it + 1)) (lw_Z below #[Value.ref b] s) (F0 m 23 ls [])) : ∀ (a0 a1 a2 a3 a4 a5 a6 a7 a8 a9 a10 a11 a12 a13 a14 : Nat → Nat) (v0 : Nat → Nat) (x4 : Int32) (o0 o1 o2 o3 o4 o5 o6 o7 o8 o9 o10 o11 o12 o13 o14 : Ob) (H : Heap) (locs : List Loc) (ls : Array Slot), bw_N A [adPF a0, adReader a1, adText a2, adSteps a3, adText a4, adSteps a5, adReckoner a6, adCells a7, adCells a8, adCells a9, adCells a10, adCells a11, adCells a12, adMod a13, adOut a14] → (v0 0 = a9 0 ∧ v0 1 = a10 0 ∧ v0 2 = a11 0 ∧ v0 3 = a12 0) → bw_P (dC, dI) vwCl [wPF ct a0 (a1 0) (a4 0) (a6 0) (a7 0) (a8 0) v0 o0, wReader ct a1 (a2 0) o1, wText ct a2 (a3 0) o2, wSteps ct a3 o3, wText ct a4 (a5 0) o4, wSteps ct a5 o5, wReckoner ct a6 o6, wCells ct a7 o7, wCells ct a8 o8, wCells ct a9 o9, wCells ct a10 o10, wCells ct a11 o11, wCells ct a12 o12, wMod ct a13 o13, wOut ct a14 o14] H → va_S A s.heap H locs → lv_has ls 8 [(0, .ref b), (1, .ref (a0 0)), (2, .ref (a13 0)), (3, .ref (a14 0)), (4, .int x4)] → F_Law_law_1063 L xs k23 x4 o0 o1 o2 o3 o4 o5 o6 o7 o8 o9 o10 o11 o12 o13 o14 = some () → W p l e room_1 s m #[Value.ref b] below meth c H locs (200 + it) (40000 + 6 * it) (lw_Z below #[Value.ref b] s) (F0 m 1063 ls []) := by
  obtain ⟨hx, hb, hr, hml, hown, hlocks, hts, hK, hA, hAs, hX, hbl, hnx, hthy, hex9, hsx⟩ := id C0
  have hbA : ¬ A b := fun z => absurd (hAs b z) (Nat.not_le.mpr hbl)
  intro a0 a1 a2 a3 a4 a5 a6 a7 a8 a9 a10 a11 a12 a13 a14 v0 x4 o0 o1 o2 o3 o4 o5 o6 o7 o8 o9 o10 o11 o12 o13 o14 H locs ls hN hver hP hS hl h
  rw [F_Law_law_1063] at h
  refine lv_aload_n hx hb d_Law_law_1063 rfl (lv_at hl 1 rfl) ?_
  refine lv_aload_n hx hb d_Law_law_1064 rfl (lv_at hl 3 rfl) ?_
  obtain ⟨v384, o_385, o_386, o_387, hG383, h⟩ := bind4_some h
  refine bw_call (Lc := [wPF ct a0 (a1 0) (a4 0) (a6 0) (a7 0) (a8 0) v0 o0, wCells ct a7 o7, wReckoner ct a6 o6, wText ct a4 (a5 0) o4, wCells ct a8 o8, wSteps ct a5 o5, wOut ct a14 o14]) (Lc' := [wPF ct a0 (a1 0) (a4 0) (a6 0) (a7 0) (a8 0) v0 o0, wCells ct a7 o7, wReckoner ct a6 o_385, wText ct a4 (a5 0) o4, wCells ct a8 o_386, wSteps ct a5 o5, wOut ct a14 o_387]) (L' := [wPF ct a0 (a1 0) (a4 0) (a6 0) (a7 0) (a8 0) v0 o0, wReader ct a1 (a2 0) o1, wText ct a2 (a3 0) o2, wSteps ct a3 o3, wText ct a4 (a5 0) o4, wSteps ct a5 o5, wReckoner ct a6 o_385, wCells ct a7 o7, wCells ct a8 o_386, wCells ct a9 o9, wCells ct a10 o10, wCells ct a11 o11, wCells ct a12 o12, wMod ct a13 o13, wOut ct a14 o_387]) [0, 7, 6, 4, 8, 5, 14] (bt_runSW (As := [.ref (a0 0), .ref (a14 0)]) (rest := []) ⟨hx, hb, hml, hown, hts⟩ (c_Law_same l hl0 ct dC dI a0 a7 a6 a4 a8 a5 a14 (a1 0) v0 _ o0 o7 o6 o4 o8 o5 o14 v384 o_385 o_386 o_387 hG383) (gd_any cd_Law_same) rfl rfl rfl (hts _ ini_Law) (hts _ ml_Law_128) (hts _ st_Law_same) (by decide +kernel) ⟨Nat.le_of_ble_eq_true rfl, Nat.le_of_ble_eq_true rfl⟩ ⟨bw_blind thh_call, fun U hU hW => ⟨rfl, by rw [hU], by rw [hU]; exact hP.sub [0, 7, 6, 4, 8, 5, 14] rfl, va_K.moved hW.alike hK, (hN.sub [0, 7, 6, 4, 8, 5, 14] (by decide) rfl).weaken (fun _ _ => trivial), ⟨nx_warm hW hnx, thy_x hthy hS hAs hW hU, exX.moved hW.alike hex9⟩⟩⟩ rfl rfl hl.1 rfl (Nat.le_of_ble_eq_true rfl) d_Law_law_1065 ⟨by rw [room_c]; omega, by rw [room_s]; omega⟩) hP hN hS hA rfl rfl rfl (fun H locs hP hS => ?_)
  refine lv_istore (lv' := [(5, .int v384), (0, .ref b), (1, .ref (a0 0)), (2, .ref (a13 0)), (3, .ref (a14 0)), (4, .int x4)]) hx hb d_Law_law_1068 hl (by decide) rfl (fun ls hl => ?_)
  refine lv_aload_n hx hb d_Law_law_1070 rfl (lv_at hl 3 rfl) ?_
  obtain ⟨v389, o_390, hG388, h⟩ := bind2_some h
  refine bw_call (Lc := [wMod ct a13 o13]) (Lc' := [wMod ct a13 o_390]) (L' := [wPF ct a0 (a1 0) (a4 0) (a6 0) (a7 0) (a8 0) v0 o0, wReader ct a1 (a2 0) o1, wText ct a2 (a3 0) o2, wSteps ct a3 o3, wText ct a4 (a5 0) o4, wSteps ct a5 o5, wReckoner ct a6 o_385, wCells ct a7 o7, wCells ct a8 o_386, wCells ct a9 o9, wCells ct a10 o10, wCells ct a11 o11, wCells ct a12 o12, wMod ct a13 o_390, wOut ct a14 o_387]) [13] (va_runV (As := []) (rest := []) ⟨hx, hb, hml, hown, hts⟩ (c_Mod_same l ct dC dI a13 _ o13 v389 o_390 hG388) (cwV 0 hts g_Law_130 rfl rfl rfl (by decide +kernel) ⟨Nat.le_of_ble_eq_true rfl, Nat.le_of_ble_eq_true rfl⟩) ⟨bw_blind nx_call, va_recv hK (hP 13 _ rfl) (ci := 6) (q0 := 0) rfl rfl, fun U hU hW => ⟨rfl, by rw [hU], by rw [hU]; exact hP.sub [13] rfl, va_K.moved hW.alike hK, (hN.sub [13] (by decide) rfl).weaken (fun _ _ => trivial), nx_warm hW hnx⟩⟩ rfl rfl hl.1 rfl (Nat.le_of_ble_eq_true rfl) d_Law_law_1071 ⟨by rw [room_c]; omega, by rw [room_s]; omega⟩) hP hN hS hA rfl rfl rfl (fun H locs hP hS => ?_)
  refine lv_istore (lv' := [(6, .int (b2i v389)), (5, .int v384), (0, .ref b), (1, .ref (a0 0)), (2, .ref (a13 0)), (3, .ref (a14 0)), (4, .int x4)]) hx hb d_Law_law_1074 hl (by decide) rfl (fun ls hl => ?_)
  refine lv_aload_n hx hb d_Law_law_1076 rfl (lv_at hl 4 rfl) ?_
  obtain ⟨v392, hG391, h⟩ := bind1_some h
  refine bw_callR (va_runV (As := []) (rest := []) ⟨hx, hb, hml, hown, hts⟩ (c_Mod_thrown l ct dC dI a13 _ o_390 v392 hG391) (cwV 0 hts g_Law_83 rfl rfl rfl (by decide +kernel) ⟨Nat.le_of_ble_eq_true rfl, Nat.le_of_ble_eq_true rfl⟩) ⟨bw_blind nx_call, va_recv hK (hP 13 _ rfl) (ci := 6) (q0 := 0) rfl rfl, fun U hU hW => ⟨rfl, by rw [hU], by rw [hU]; exact hP.sub [13] rfl, va_K.moved hW.alike hK, (hN.sub [13] (by decide) rfl).weaken (fun _ _ => trivial), nx_warm hW hnx⟩⟩ rfl rfl hl.1 rfl (Nat.le_of_ble_eq_true rfl) d_Law_law_1077 ⟨by rw [room_c]; omega, by rw [room_s]; omega⟩) ?_
  refine lv_iload hx hb d_Law_law_1080 (lv_at hl 1 rfl) ?_
  refine lv_icmp_eq (tgt := 1087) hx hb d_Law_law_1082 (by decide) (fun c393 => ?_) (fun c393 => ?_)
  · have h := ite_t c393 h
    refine lv_iload hx hb d_Law_law_1087 (lv_at hl 1 rfl) ?_
    refine lv_if_ne (tgt := 1111) hx hb d_Law_law_1089 (by decide) (fun c394 => ?_) (fun c394 => ?_)
    · have h := ite_f c394 h
      refine lv_goto (tgt := 1128) hx hb d_Law_law_1111 (by decide) ?_
      refine lv_iinc (v := (x4 + (6 : Int32))) (lv' := [(4, .int (x4 + (6 : Int32))), (6, .int (b2i v389)), (5, .int v384), (0, .ref b), (1, .ref (a0 0)), (2, .ref (a13 0)), (3, .ref (a14 0))]) hx hb d_Law_law_1128 hl (k := 6) rfl rfl (by decide) rfl (fun ls hl => ?_)
      refine lv_goto (tgt := 23) hx hb d_Law_law_1131 (by decide) ?_
      refine W.widen (k := 200 + (it + 1)) (n := 40000 + 6 * (it + 1)) (by omega) (by omega) ?_
      exact hk23 a0 a1 a2 a3 a4 a5 a6 a7 a8 a9 a10 a11 a12 a13 a14 v0 (x4 + (6 : Int32)) o0 o1 o2 o3 o4 o5 o_385 o7 o_386 o9 o10 o11 o12 o_390 o_387 _ _ _ hN hver hP hS (lv_sub hl [3, 4, 5, 6, 0] rfl) h
    · have h := ite_t c394 h
      refine lv_aload_n hx hb d_Law_law_1092 rfl (lv_at hl 5 rfl) ?_
      refine lv_iconst (v := 0) hx hb d_Law_law_1093 (by decide) ?_
      obtain ⟨hi395, h⟩ := chk_some h
      refine va_lald (f := g64 o_387 0) hx hb hK (hP 14 _ rfl) 0 1 rfl rfl (inb_in hi395) d_Law_law_1094 ?_
      refine lv_iload hx hb d_Law_law_1095 (lv_at hl 0 rfl) ?_
      refine lv_if_eq (tgt := 1104) hx hb d_Law_law_1097 (by decide) (fun c396 => ?_) (fun c396 => ?_)
      · have h := ite_t c396 h
        refine lv_lconst (v := 0) hx hb d_Law_law_1104 (by decide) ?_
        refine W.lcmp hx hb d_Law_law_1105 ?_
        refine lv_if_eq (tgt := 1111) hx hb d_Law_law_1106 (by decide) (fun c397 => ?_) (fun c397 => ?_)
        · have h := ite_t c397 h
          refine lv_goto (tgt := 1128) hx hb d_Law_law_1111 (by decide) ?_
          refine lv_iinc (v := (x4 + (6 : Int32))) (lv' := [(4, .int (x4 + (6 : Int32))), (6, .int (b2i v389)), (5, .int v384), (0, .ref b), (1, .ref (a0 0)), (2, .ref (a13 0)), (3, .ref (a14 0))]) hx hb d_Law_law_1128 hl (k := 6) rfl rfl (by decide) rfl (fun ls hl => ?_)
          refine lv_goto (tgt := 23) hx hb d_Law_law_1131 (by decide) ?_
          refine W.widen (k := 200 + (it + 1)) (n := 40000 + 6 * (it + 1)) (by omega) (by omega) ?_
          exact hk23 a0 a1 a2 a3 a4 a5 a6 a7 a8 a9 a10 a11 a12 a13 a14 v0 (x4 + (6 : Int32)) o0 o1 o2 o3 o4 o5 o_385 o7 o_386 o9 o10 o11 o12 o_390 o_387 _ _ _ hN hver hP hS (lv_sub hl [3, 4, 5, 6, 0] rfl) h
        · have h := ite_f c397 h
          refine lv_iconst (v := 0) hx hb d_Law_law_1109 (by decide) ?_
          cases h
      · have h := ite_f c396 h
        refine lv_lconst (v := 1) hx hb d_Law_law_1100 (by decide) ?_
        refine lv_goto (tgt := 1105) hx hb d_Law_law_1101 (by decide) ?_
        refine W.lcmp hx hb d_Law_law_1105 ?_
        refine lv_if_eq (tgt := 1111) hx hb d_Law_law_1106 (by decide) (fun c398 => ?_) (fun c398 => ?_)
        · have h := ite_t c398 h
          refine lv_goto (tgt := 1128) hx hb d_Law_law_1111 (by decide) ?_
          refine lv_iinc (v := (x4 + (6 : Int32))) (lv' := [(4, .int (x4 + (6 : Int32))), (6, .int (b2i v389)), (5, .int v384), (0, .ref b), (1, .ref (a0 0)), (2, .ref (a13 0)), (3, .ref (a14 0))]) hx hb d_Law_law_1128 hl (k := 6) rfl rfl (by decide) rfl (fun ls hl => ?_)
          refine lv_goto (tgt := 23) hx hb d_Law_law_1131 (by decide) ?_
          refine W.widen (k := 200 + (it + 1)) (n := 40000 + 6 * (it + 1)) (by omega) (by omega) ?_
          exact hk23 a0 a1 a2 a3 a4 a5 a6 a7 a8 a9 a10 a11 a12 a13 a14 v0 (x4 + (6 : Int32)) o0 o1 o2 o3 o4 o5 o_385 o7 o_386 o9 o10 o11 o12 o_390 o_387 _ _ _ hN hver hP hS (lv_sub hl [3, 4, 5, 6, 0] rfl) h
        · have h := ite_f c398 h
          refine lv_iconst (v := 0) hx hb d_Law_law_1109 (by decide) ?_
          cases h
  · have h := ite_f c393 h
    refine lv_iconst (v := 0) hx hb d_Law_law_1085 (by decide) ?_
    cases h
def F_Law_law_1114 (L : Nat) (xs : Nat → Int32) (k23 : Int32 → Ob → Ob → Ob → Ob → Ob → Ob → Ob → Ob → Ob → Ob → Ob → Ob → Ob → Ob → Ob → Option Unit) (x4 : Int32) (o0 o1 o2 o3 o4 o5 o6 o7 o8 o9 o10 o11 o12 o13 o14 : Ob) : Option Unit :=
  bind1 (F_PF_reckoned o0) (fun v400 => bind2 (F_Mod_reckoned o13) (fun v402 o_403 => if (lg_cmp v400 v402) = 0 then (k23 (x4 + (6 : Int32)) o0 o1 o2 o3 o4 o5 o6 o7 o8 o9 o10 o11 o12 o_403 o14) else (none)))
set_option maxHeartbeats 8000000 in
set_option maxRecDepth 100000 in
theorem k_Law_law_1114 {p : Program} {l : Launch} {e : Env} {s : State} {m : MethodId} {below : List Frame} {meth : Method} {c : Code} {b L : Nat} {xs : Nat → Int32} {A : Nat → Prop} {ct dC : Nat → ClassId} {dI : Nat → Nat → Nat} (C0 : lcx p s m meth c b L xs A ct dC dI) (hl0 : l.stackTraces = false) {it : Nat} (hit : it + 1 ≤ 600) {k23 : Int32 → Ob → Ob → Ob → Ob → Ob → Ob → Ob → Ob → Ob → Ob → Ob → Ob → Ob → Ob → Ob → Option Unit} (hk23 : ∀ (a0 a1 a2 a3 a4 a5 a6 a7 a8 a9 a10 a11 a12 a13 a14 : Nat → Nat) (v0 : Nat → Nat) (x4 : Int32) (o0 o1 o2 o3 o4 o5 o6 o7 o8 o9 o10 o11 o12 o13 o14 : Ob) (H : Heap) (locs : List Loc) (ls : Array Slot), bw_N A [adPF a0, adReader a1, adText a2, adSteps a3, adText a4, adSteps a5, adReckoner a6, adCells a7, adCells a8, adCells a9, adCells a10, adCells a11, adCells a12, adMod a13, adOut a14] → (v0 0 = a9 0 ∧ v0 1 = a10 0 ∧ v0 2 = a11 0 ∧ v0 3 = a12 0) → bw_P (dC, dI) vwCl [wPF ct a0 (a1 0) (a4 0) (a6 0) (a7 0) (a8 0) v0 o0, wReader ct a1 (a2 0) o1, wText ct a2 (a3 0) o2, wSteps ct a3 o3, wText ct a4 (a5 0) o4, wSteps ct a5 o5, wReckoner ct a6 o6, wCells ct a7 o7, wCells ct a8 o8, wCells ct a9 o9, wCells ct a10 o10, wCells ct a11 o11, wCells ct a12 o12, wMod ct a13 o13, wOut ct a14 o14] H → va_S A s.heap H locs → lv_has ls 8 [(0, .ref b), (1, .ref (a0 0)), (2, .ref (a13 0)), (3, .ref (a14 0)), (4, .int x4)] → k23 x4 o0 o1 o2 o3 o4 o5 o6 o7 o8 o9 o10 o11 o12 o13 o14 = some () → W p l e room_1 s m #[Value.ref b] below meth c H locs (200 + (it + 1)) (40000 + 6 * (it + 1)) (lw_Z below #[Value.ref b] s) (F0 m 23 ls [])) : ∀ (a0 a1 a2 a3 a4 a5 a6 a7 a8 a9 a10 a11 a12 a13 a14 : Nat → Nat) (v0 : Nat → Nat) (x4 : Int32) (o0 o1 o2 o3 o4 o5 o6 o7 o8 o9 o10 o11 o12 o13 o14 : Ob) (H : Heap) (locs : List Loc) (ls : Array Slot), bw_N A [adPF a0, adReader a1, adText a2, adSteps a3, adText a4, adSteps a5, adReckoner a6, adCells a7, adCells a8, adCells a9, adCells a10, adCells a11, adCells a12, adMod a13, adOut a14] → (v0 0 = a9 0 ∧ v0 1 = a10 0 ∧ v0 2 = a11 0 ∧ v0 3 = a12 0) → bw_P (dC, dI) vwCl [wPF ct a0 (a1 0) (a4 0) (a6 0) (a7 0) (a8 0) v0 o0, wReader ct a1 (a2 0) o1, wText ct a2 (a3 0) o2, wSteps ct a3 o3, wText ct a4 (a5 0) o4, wSteps ct a5 o5, wReckoner ct a6 o6, wCells ct a7 o7, wCells ct a8 o8, wCells ct a9 o9, wCells ct a10 o10, wCells ct a11 o11, wCells ct a12 o12, wMod ct a13 o13, wOut ct a14 o14] H → va_S A s.heap H locs → lv_has ls 8 [(0, .ref b), (1, .ref (a0 0)), (2, .ref (a13 0)), (3, .ref (a14 0)), (4, .int x4)] → F_Law_law_1114 L xs k23 x4 o0 o1 o2 o3 o4 o5 o6 o7 o8 o9 o10 o11 o12 o13 o14 = some () → W p l e room_1 s m #[Value.ref b] below meth c H locs (200 + it) (40000 + 6 * it) (lw_Z below #[Value.ref b] s) (F0 m 1114 ls []) := by
  obtain ⟨hx, hb, hr, hml, hown, hlocks, hts, hK, hA, hAs, hX, hbl, hnx, hthy, hex9, hsx⟩ := id C0
  have hbA : ¬ A b := fun z => absurd (hAs b z) (Nat.not_le.mpr hbl)
  intro a0 a1 a2 a3 a4 a5 a6 a7 a8 a9 a10 a11 a12 a13 a14 v0 x4 o0 o1 o2 o3 o4 o5 o6 o7 o8 o9 o10 o11 o12 o13 o14 H locs ls hN hver hP hS hl h
  rw [F_Law_law_1114] at h
  refine lv_aload_n hx hb d_Law_law_1114 rfl (lv_at hl 1 rfl) ?_
  obtain ⟨v400, hG399, h⟩ := bind1_some h
  refine bw_callR (va_runV (As := []) (rest := []) ⟨hx, hb, hml, hown, hts⟩ (c_PF_reckoned l ct dC dI a0 (a1 0) (a4 0) (a6 0) (a7 0) (a8 0) v0 _ o0 v400 hG399) (cwV 0 hts g_Law_131 rfl rfl rfl (by decide +kernel) ⟨Nat.le_of_ble_eq_true rfl, Nat.le_of_ble_eq_true rfl⟩) ⟨bw_blind nx_call, va_recv hK (hP 0 _ rfl) (ci := 5) (q0 := 0) rfl rfl, fun U hU hW => ⟨rfl, by rw [hU], by rw [hU]; exact hP.sub [0] rfl, va_K.moved hW.alike hK, (hN.sub [0] (by decide) rfl).weaken (fun _ _ => trivial), nx_warm hW hnx⟩⟩ rfl rfl hl.1 rfl (Nat.le_of_ble_eq_true rfl) d_Law_law_1115 ⟨by rw [room_c]; omega, by rw [room_s]; omega⟩) ?_
  refine lv_aload_n hx hb d_Law_law_1118 rfl (lv_at hl 2 rfl) ?_
  obtain ⟨v402, o_403, hG401, h⟩ := bind2_some h
  refine bw_call (Lc := [wMod ct a13 o13]) (Lc' := [wMod ct a13 o_403]) (L' := [wPF ct a0 (a1 0) (a4 0) (a6 0) (a7 0) (a8 0) v0 o0, wReader ct a1 (a2 0) o1, wText ct a2 (a3 0) o2, wSteps ct a3 o3, wText ct a4 (a5 0) o4, wSteps ct a5 o5, wReckoner ct a6 o6, wCells ct a7 o7, wCells ct a8 o8, wCells ct a9 o9, wCells ct a10 o10, wCells ct a11 o11, wCells ct a12 o12, wMod ct a13 o_403, wOut ct a14 o14]) [13] (va_runV (As := []) (rest := [.long v400]) ⟨hx, hb, hml, hown, hts⟩ (c_Mod_reckoned l ct dC dI a13 _ o13 v402 o_403 hG401) (cwV 0 hts g_Law_135 rfl rfl rfl (by decide +kernel) ⟨Nat.le_of_ble_eq_true rfl, Nat.le_of_ble_eq_true rfl⟩) ⟨bw_blind nx_call, va_recv hK (hP 13 _ rfl) (ci := 6) (q0 := 0) rfl rfl, fun U hU hW => ⟨rfl, by rw [hU], by rw [hU]; exact hP.sub [13] rfl, va_K.moved hW.alike hK, (hN.sub [13] (by decide) rfl).weaken (fun _ _ => trivial), nx_warm hW hnx⟩⟩ rfl rfl hl.1 rfl (Nat.le_of_ble_eq_true rfl) d_Law_law_1119 ⟨by rw [room_c]; omega, by rw [room_s]; omega⟩) hP hN hS hA rfl rfl rfl (fun H locs hP hS => ?_)
  refine W.lcmp hx hb d_Law_law_1122 ?_
  refine lv_if_eq (tgt := 1128) hx hb d_Law_law_1123 (by decide) (fun c404 => ?_) (fun c404 => ?_)
  · have h := ite_t c404 h
    refine lv_iinc (v := (x4 + (6 : Int32))) (lv' := [(4, .int (x4 + (6 : Int32))), (0, .ref b), (1, .ref (a0 0)), (2, .ref (a13 0)), (3, .ref (a14 0))]) hx hb d_Law_law_1128 hl (k := 4) rfl rfl (by decide) rfl (fun ls hl => ?_)
    refine lv_goto (tgt := 23) hx hb d_Law_law_1131 (by decide) ?_
    refine W.widen (k := 200 + (it + 1)) (n := 40000 + 6 * (it + 1)) (by omega) (by omega) ?_
    exact hk23 a0 a1 a2 a3 a4 a5 a6 a7 a8 a9 a10 a11 a12 a13 a14 v0 (x4 + (6 : Int32)) o0 o1 o2 o3 o4 o5 o6 o7 o8 o9 o10 o11 o12 o_403 o14 _ _ _ hN hver hP hS (lv_sub hl [1, 2, 3, 4, 0] rfl) h
  · have h := ite_f c404 h
    refine lv_iconst (v := 0) hx hb d_Law_law_1126 (by decide) ?_
    cases h
def F_Law_law_23 (L : Nat) (xs : Nat → Int32) : Nat → Int32 → Ob → Ob → Ob → Ob → Ob → Ob → Ob → Ob → Ob → Ob → Ob → Ob → Ob → Ob → Ob → Option Unit
  | 0, _, _, _, _, _, _, _, _, _, _, _, _, _, _, _, _ => none
  | n + 1, x4, o0, o1, o2, o3, o4, o5, o6, o7, o8, o9, o10, o11, o12, o13, o14 =>
    if ((Int32.ofNat L) - (6 : Int32)) < x4 then (some ()) else (chk (inb x4 L) (if ((xs (Int32.toNatClampNeg x4)) &&& (31 : Int32)) = 0 then (F_Law_law_124 L xs (F_Law_law_23 L xs n) x4 o0 o1 o2 o3 o4 o5 o6 o7 o8 o9 o10 o11 o12 o13 o14) else (if ((xs (Int32.toNatClampNeg x4)) &&& (31 : Int32)) = 1 then (F_Law_law_149 L xs (F_Law_law_23 L xs n) x4 o0 o1 o2 o3 o4 o5 o6 o7 o8 o9 o10 o11 o12 o13 o14) else (if ((xs (Int32.toNatClampNeg x4)) &&& (31 : Int32)) = 2 then (F_Law_law_162 L xs (F_Law_law_23 L xs n) x4 o0 o1 o2 o3 o4 o5 o6 o7 o8 o9 o10 o11 o12 o13 o14) else (if ((xs (Int32.toNatClampNeg x4)) &&& (31 : Int32)) = 3 then (F_Law_law_218 L xs (F_Law_law_23 L xs n) x4 o0 o1 o2 o3 o4 o5 o6 o7 o8 o9 o10 o11 o12 o13 o14) else (if ((xs (Int32.toNatClampNeg x4)) &&& (31 : Int32)) = 4 then (F_Law_law_369 L xs (F_Law_law_23 L xs n) x4 o0 o1 o2 o3 o4 o5 o6 o7 o8 o9 o10 o11 o12 o13 o14) else (if ((xs (Int32.toNatClampNeg x4)) &&& (31 : Int32)) = 5 then (F_Law_law_413 L xs (F_Law_law_23 L xs n) x4 o0 o1 o2 o3 o4 o5 o6 o7 o8 o9 o10 o11 o12 o13 o14) else (if ((xs (Int32.toNatClampNeg x4)) &&& (31 : Int32)) = 6 then (F_Law_law_481 L xs (F_Law_law_23 L xs n) x4 o0 o1 o2 o3 o4 o5 o6 o7 o8 o9 o10 o11 o12 o13 o14) else (if ((xs (Int32.toNatClampNeg x4)) &&& (31 : Int32)) = 7 then (F_Law_law_560 L xs (F_Law_law_23 L xs n) x4 o0 o1 o2 o3 o4 o5 o6 o7 o8 o9 o10 o11 o12 o13 o14) else (if ((xs (Int32.toNatClampNeg x4)) &&& (31 : Int32)) = 8 then (F_Law_law_616 L xs (F_Law_law_23 L xs n) x4 o0 o1 o2 o3 o4 o5 o6 o7 o8 o9 o10 o11 o12 o13 o14) else (if ((xs (Int32.toNatClampNeg x4)) &&& (31 : Int32)) = 9 then (F_Law_law_684 L xs (F_Law_law_23 L xs n) x4 o0 o1 o2 o3 o4 o5 o6 o7 o8 o9 o10 o11 o12 o13 o14) else (if ((xs (Int32.toNatClampNeg x4)) &&& (31 : Int32)) = 10 then (F_Law_law_752 L xs (F_Law_law_23 L xs n) x4 o0 o1 o2 o3 o4 o5 o6 o7 o8 o9 o10 o11 o12 o13 o14) else (if ((xs (Int32.toNatClampNeg x4)) &&& (31 : Int32)) = 11 then (F_Law_law_827 L xs (F_Law_law_23 L xs n) x4 o0 o1 o2 o3 o4 o5 o6 o7 o8 o9 o10 o11 o12 o13 o14) else (if ((xs (Int32.toNatClampNeg x4)) &&& (31 : Int32)) = 12 then (F_Law_law_895 L xs (F_Law_law_23 L xs n) x4 o0 o1 o2 o3 o4 o5 o6 o7 o8 o9 o10 o11 o12 o13 o14) else (if ((xs (Int32.toNatClampNeg x4)) &&& (31 : Int32)) = 13 then (F_Law_law_951 L xs (F_Law_law_23 L xs n) x4 o0 o1 o2 o3 o4 o5 o6 o7 o8 o9 o10 o11 o12 o13 o14) else (if ((xs (Int32.toNatClampNeg x4)) &&& (31 : Int32)) = 14 then (F_Law_law_995 L xs (F_Law_law_23 L xs n) x4 o0 o1 o2 o3 o4 o5 o6 o7 o8 o9 o10 o11 o12 o13 o14) else (if ((xs (Int32.toNatClampNeg x4)) &&& (31 : Int32)) = 15 then (F_Law_law_1063 L xs (F_Law_law_23 L xs n) x4 o0 o1 o2 o3 o4 o5 o6 o7 o8 o9 o10 o11 o12 o13 o14) else (if ((xs (Int32.toNatClampNeg x4)) &&& (31 : Int32)) = 16 then (F_Law_law_1114 L xs (F_Law_law_23 L xs n) x4 o0 o1 o2 o3 o4 o5 o6 o7 o8 o9 o10 o11 o12 o13 o14) else (F_Law_law_23 L xs n (x4 + (6 : Int32)) o0 o1 o2 o3 o4 o5 o6 o7 o8 o9 o10 o11 o12 o13 o14)))))))))))))))))))
set_option maxHeartbeats 8000000 in
set_option maxRecDepth 100000 in
theorem k_Law_law_23 {p : Program} {l : Launch} {e : Env} {s : State} {m : MethodId} {below : List Frame} {meth : Method} {c : Code} {b L : Nat} {xs : Nat → Int32} {A : Nat → Prop} {ct dC : Nat → ClassId} {dI : Nat → Nat → Nat} (C0 : lcx p s m meth c b L xs A ct dC dI) (hl0 : l.stackTraces = false) : ∀ (n it : Nat), it + n ≤ 600 → ∀ (a0 a1 a2 a3 a4 a5 a6 a7 a8 a9 a10 a11 a12 a13 a14 : Nat → Nat) (v0 : Nat → Nat) (x4 : Int32) (o0 o1 o2 o3 o4 o5 o6 o7 o8 o9 o10 o11 o12 o13 o14 : Ob) (H : Heap) (locs : List Loc) (ls : Array Slot), bw_N A [adPF a0, adReader a1, adText a2, adSteps a3, adText a4, adSteps a5, adReckoner a6, adCells a7, adCells a8, adCells a9, adCells a10, adCells a11, adCells a12, adMod a13, adOut a14] → (v0 0 = a9 0 ∧ v0 1 = a10 0 ∧ v0 2 = a11 0 ∧ v0 3 = a12 0) → bw_P (dC, dI) vwCl [wPF ct a0 (a1 0) (a4 0) (a6 0) (a7 0) (a8 0) v0 o0, wReader ct a1 (a2 0) o1, wText ct a2 (a3 0) o2, wSteps ct a3 o3, wText ct a4 (a5 0) o4, wSteps ct a5 o5, wReckoner ct a6 o6, wCells ct a7 o7, wCells ct a8 o8, wCells ct a9 o9, wCells ct a10 o10, wCells ct a11 o11, wCells ct a12 o12, wMod ct a13 o13, wOut ct a14 o14] H → va_S A s.heap H locs → lv_has ls 8 [(0, .ref b), (1, .ref (a0 0)), (2, .ref (a13 0)), (3, .ref (a14 0)), (4, .int x4)] → F_Law_law_23 L xs n x4 o0 o1 o2 o3 o4 o5 o6 o7 o8 o9 o10 o11 o12 o13 o14 = some () → W p l e room_1 s m #[Value.ref b] below meth c H locs (200 + it) (40000 + 6 * it) (lw_Z below #[Value.ref b] s) (F0 m 23 ls []) := by
  obtain ⟨hx, hb, hr, hml, hown, hlocks, hts, hK, hA, hAs, hX, hbl, hnx, hthy, hex9, hsx⟩ := id C0
  have hbA : ¬ A b := fun z => absurd (hAs b z) (Nat.not_le.mpr hbl)
  intro n
  induction n with
  | zero =>
    intro it hit
    intro a0 a1 a2 a3 a4 a5 a6 a7 a8 a9 a10 a11 a12 a13 a14 v0 x4 o0 o1 o2 o3 o4 o5 o6 o7 o8 o9 o10 o11 o12 o13 o14 H locs ls hN hver hP hS hl h
    cases h
  | succ n ih =>
    intro it hit
    intro a0 a1 a2 a3 a4 a5 a6 a7 a8 a9 a10 a11 a12 a13 a14 v0 x4 o0 o1 o2 o3 o4 o5 o6 o7 o8 o9 o10 o11 o12 o13 o14 H locs ls hN hver hP hS hl h
    rw [F_Law_law_23] at h
    refine lv_iload hx hb d_Law_law_23 (lv_at hl 4 rfl) ?_
    refine lv_aload_n hx hb d_Law_law_25 rfl (lv_at hl 0 rfl) ?_
    refine va_slen hx hb hX hbl hbA hS d_Law_law_26 ?_
    refine lv_bipush (v := 6) hx hb d_Law_law_27 (by decide) ?_
    refine lv_isub hx hb d_Law_law_29 ?_
    refine lv_icmp_gt (tgt := 1134) hx hb d_Law_law_30 (by decide) (fun c1 => ?_) (fun c1 => ?_)
    · have h := ite_t c1 h
      refine lv_iconst (v := 1) hx hb d_Law_law_1134 (by decide) ?_
      refine va_forget (fun q hq => hAs _ (hS.2.2 q hq)) ?_
      refine W.widen (k := 601024) (n := 7293034) (by omega) (by omega) ?_
      exact lw_ret hx hb hr hlocks d_Law_law_1135
    · have h := ite_f c1 h
      refine lv_aload_n hx hb d_Law_law_33 rfl (lv_at hl 0 rfl) ?_
      refine lv_iload hx hb d_Law_law_34 (lv_at hl 4 rfl) ?_
      obtain ⟨hi2, h⟩ := chk_some h
      refine va_sld hx hb hX hbl hbA hS (inb_in hi2) d_Law_law_36 ?_
      refine lv_bipush (v := 31) hx hb d_Law_law_37 (by decide) ?_
      refine lv_iand hx hb d_Law_law_39 ?_
      by_cases c3 : ((xs (Int32.toNatClampNeg x4)) &&& (31 : Int32)) = 0
      · have h := ite_t c3 h
        refine lv_tableIn (off := 84) (tgt := 124) hx hb d_Law_law_40 (by rw [c3]; decide) (by rw [c3]; decide) (by rw [c3]; rfl) (by decide) ?_
        exact k_Law_law_124 C0 hl0 (it := it) (by omega) (fun a0 a1 a2 a3 a4 a5 a6 a7 a8 a9 a10 a11 a12 a13 a14 v0 x4 o0 o1 o2 o3 o4 o5 o6 o7 o8 o9 o10 o11 o12 o13 o14 H locs ls => ih (it + 1) (by omega) a0 a1 a2 a3 a4 a5 a6 a7 a8 a9 a10 a11 a12 a13 a14 v0 x4 o0 o1 o2 o3 o4 o5 o6 o7 o8 o9 o10 o11 o12 o13 o14 H locs ls) a0 a1 a2 a3 a4 a5 a6 a7 a8 a9 a10 a11 a12 a13 a14 v0 x4 o0 o1 o2 o3 o4 o5 o6 o7 o8 o9 o10 o11 o12 o13 o14 _ _ _ hN hver hP hS (lv_sub hl [0, 1, 2, 3, 4] rfl) h
      · have h := ite_f c3 h
        by_cases c4 : ((xs (Int32.toNatClampNeg x4)) &&& (31 : Int32)) = 1
        · have h := ite_t c4 h
          refine lv_tableIn (off := 109) (tgt := 149) hx hb d_Law_law_40 (by rw [c4]; decide) (by rw [c4]; decide) (by rw [c4]; rfl) (by decide) ?_
          exact k_Law_law_149 C0 hl0 (it := it) (by omega) (fun a0 a1 a2 a3 a4 a5 a6 a7 a8 a9 a10 a11 a12 a13 a14 v0 x4 o0 o1 o2 o3 o4 o5 o6 o7 o8 o9 o10 o11 o12 o13 o14 H locs ls => ih (it + 1) (by omega) a0 a1 a2 a3 a4 a5 a6 a7 a8 a9 a10 a11 a12 a13 a14 v0 x4 o0 o1 o2 o3 o4 o5 o6 o7 o8 o9 o10 o11 o12 o13 o14 H locs ls) a0 a1 a2 a3 a4 a5 a6 a7 a8 a9 a10 a11 a12 a13 a14 v0 x4 o0 o1 o2 o3 o4 o5 o6 o7 o8 o9 o10 o11 o12 o13 o14 _ _ _ hN hver hP hS (lv_sub hl [0, 1, 2, 3, 4] rfl) h
        · have h := ite_f c4 h
          by_cases c5 : ((xs (Int32.toNatClampNeg x4)) &&& (31 : Int32)) = 2
          · have h := ite_t c5 h
            refine lv_tableIn (off := 122) (tgt := 162) hx hb d_Law_law_40 (by rw [c5]; decide) (by rw [c5]; decide) (by rw [c5]; rfl) (by decide) ?_
            exact k_Law_law_162 C0 hl0 (it := it) (by omega) (fun a0 a1 a2 a3 a4 a5 a6 a7 a8 a9 a10 a11 a12 a13 a14 v0 x4 o0 o1 o2 o3 o4 o5 o6 o7 o8 o9 o10 o11 o12 o13 o14 H locs ls => ih (it + 1) (by omega) a0 a1 a2 a3 a4 a5 a6 a7 a8 a9 a10 a11 a12 a13 a14 v0 x4 o0 o1 o2 o3 o4 o5 o6 o7 o8 o9 o10 o11 o12 o13 o14 H locs ls) a0 a1 a2 a3 a4 a5 a6 a7 a8 a9 a10 a11 a12 a13 a14 v0 x4 o0 o1 o2 o3 o4 o5 o6 o7 o8 o9 o10 o11 o12 o13 o14 _ _ _ hN hver hP hS (lv_sub hl [0, 1, 2, 3, 4] rfl) h
          · have h := ite_f c5 h
            by_cases c6 : ((xs (Int32.toNatClampNeg x4)) &&& (31 : Int32)) = 3
            · have h := ite_t c6 h
              refine lv_tableIn (off := 178) (tgt := 218) hx hb d_Law_law_40 (by rw [c6]; decide) (by rw [c6]; decide) (by rw [c6]; rfl) (by decide) ?_
              exact k_Law_law_218 C0 hl0 (it := it) (by omega) (fun a0 a1 a2 a3 a4 a5 a6 a7 a8 a9 a10 a11 a12 a13 a14 v0 x4 o0 o1 o2 o3 o4 o5 o6 o7 o8 o9 o10 o11 o12 o13 o14 H locs ls => ih (it + 1) (by omega) a0 a1 a2 a3 a4 a5 a6 a7 a8 a9 a10 a11 a12 a13 a14 v0 x4 o0 o1 o2 o3 o4 o5 o6 o7 o8 o9 o10 o11 o12 o13 o14 H locs ls) a0 a1 a2 a3 a4 a5 a6 a7 a8 a9 a10 a11 a12 a13 a14 v0 x4 o0 o1 o2 o3 o4 o5 o6 o7 o8 o9 o10 o11 o12 o13 o14 _ _ _ hN hver hP hS (lv_sub hl [0, 1, 2, 3, 4] rfl) h
            · have h := ite_f c6 h
              by_cases c7 : ((xs (Int32.toNatClampNeg x4)) &&& (31 : Int32)) = 4
              · have h := ite_t c7 h
                refine lv_tableIn (off := 329) (tgt := 369) hx hb d_Law_law_40 (by rw [c7]; decide) (by rw [c7]; decide) (by rw [c7]; rfl) (by decide) ?_
                exact k_Law_law_369 C0 hl0 (it := it) (by omega) (fun a0 a1 a2 a3 a4 a5 a6 a7 a8 a9 a10 a11 a12 a13 a14 v0 x4 o0 o1 o2 o3 o4 o5 o6 o7 o8 o9 o10 o11 o12 o13 o14 H locs ls => ih (it + 1) (by omega) a0 a1 a2 a3 a4 a5 a6 a7 a8 a9 a10 a11 a12 a13 a14 v0 x4 o0 o1 o2 o3 o4 o5 o6 o7 o8 o9 o10 o11 o12 o13 o14 H locs ls) a0 a1 a2 a3 a4 a5 a6 a7 a8 a9 a10 a11 a12 a13 a14 v0 x4 o0 o1 o2 o3 o4 o5 o6 o7 o8 o9 o10 o11 o12 o13 o14 _ _ _ hN hver hP hS (lv_sub hl [0, 1, 2, 3, 4] rfl) h
              · have h := ite_f c7 h
                by_cases c8 : ((xs (Int32.toNatClampNeg x4)) &&& (31 : Int32)) = 5
                · have h := ite_t c8 h
                  refine lv_tableIn (off := 373) (tgt := 413) hx hb d_Law_law_40 (by rw [c8]; decide) (by rw [c8]; decide) (by rw [c8]; rfl) (by decide) ?_
                  exact k_Law_law_413 C0 hl0 (it := it) (by omega) (fun a0 a1 a2 a3 a4 a5 a6 a7 a8 a9 a10 a11 a12 a13 a14 v0 x4 o0 o1 o2 o3 o4 o5 o6 o7 o8 o9 o10 o11 o12 o13 o14 H locs ls => ih (it + 1) (by omega) a0 a1 a2 a3 a4 a5 a6 a7 a8 a9 a10 a11 a12 a13 a14 v0 x4 o0 o1 o2 o3 o4 o5 o6 o7 o8 o9 o10 o11 o12 o13 o14 H locs ls) a0 a1 a2 a3 a4 a5 a6 a7 a8 a9 a10 a11 a12 a13 a14 v0 x4 o0 o1 o2 o3 o4 o5 o6 o7 o8 o9 o10 o11 o12 o13 o14 _ _ _ hN hver hP hS (lv_sub hl [0, 1, 2, 3, 4] rfl) h
                · have h := ite_f c8 h
                  by_cases c9 : ((xs (Int32.toNatClampNeg x4)) &&& (31 : Int32)) = 6
                  · have h := ite_t c9 h
                    refine lv_tableIn (off := 441) (tgt := 481) hx hb d_Law_law_40 (by rw [c9]; decide) (by rw [c9]; decide) (by rw [c9]; rfl) (by decide) ?_
                    exact k_Law_law_481 C0 hl0 (it := it) (by omega) (fun a0 a1 a2 a3 a4 a5 a6 a7 a8 a9 a10 a11 a12 a13 a14 v0 x4 o0 o1 o2 o3 o4 o5 o6 o7 o8 o9 o10 o11 o12 o13 o14 H locs ls => ih (it + 1) (by omega) a0 a1 a2 a3 a4 a5 a6 a7 a8 a9 a10 a11 a12 a13 a14 v0 x4 o0 o1 o2 o3 o4 o5 o6 o7 o8 o9 o10 o11 o12 o13 o14 H locs ls) a0 a1 a2 a3 a4 a5 a6 a7 a8 a9 a10 a11 a12 a13 a14 v0 x4 o0 o1 o2 o3 o4 o5 o6 o7 o8 o9 o10 o11 o12 o13 o14 _ _ _ hN hver hP hS (lv_sub hl [0, 1, 2, 3, 4] rfl) h
                  · have h := ite_f c9 h
                    by_cases c10 : ((xs (Int32.toNatClampNeg x4)) &&& (31 : Int32)) = 7
                    · have h := ite_t c10 h
                      refine lv_tableIn (off := 520) (tgt := 560) hx hb d_Law_law_40 (by rw [c10]; decide) (by rw [c10]; decide) (by rw [c10]; rfl) (by decide) ?_
                      exact k_Law_law_560 C0 hl0 (it := it) (by omega) (fun a0 a1 a2 a3 a4 a5 a6 a7 a8 a9 a10 a11 a12 a13 a14 v0 x4 o0 o1 o2 o3 o4 o5 o6 o7 o8 o9 o10 o11 o12 o13 o14 H locs ls => ih (it + 1) (by omega) a0 a1 a2 a3 a4 a5 a6 a7 a8 a9 a10 a11 a12 a13 a14 v0 x4 o0 o1 o2 o3 o4 o5 o6 o7 o8 o9 o10 o11 o12 o13 o14 H locs ls) a0 a1 a2 a3 a4 a5 a6 a7 a8 a9 a10 a11 a12 a13 a14 v0 x4 o0 o1 o2 o3 o4 o5 o6 o7 o8 o9 o10 o11 o12 o13 o14 _ _ _ hN hver hP hS (lv_sub hl [0, 1, 2, 3, 4] rfl) h
                    · have h := ite_f c10 h
                      by_cases c11 : ((xs (Int32.toNatClampNeg x4)) &&& (31 : Int32)) = 8
                      · have h := ite_t c11 h
                        refine lv_tableIn (off := 576) (tgt := 616) hx hb d_Law_law_40 (by rw [c11]; decide) (by rw [c11]; decide) (by rw [c11]; rfl) (by decide) ?_
                        exact k_Law_law_616 C0 hl0 (it := it) (by omega) (fun a0 a1 a2 a3 a4 a5 a6 a7 a8 a9 a10 a11 a12 a13 a14 v0 x4 o0 o1 o2 o3 o4 o5 o6 o7 o8 o9 o10 o11 o12 o13 o14 H locs ls => ih (it + 1) (by omega) a0 a1 a2 a3 a4 a5 a6 a7 a8 a9 a10 a11 a12 a13 a14 v0 x4 o0 o1 o2 o3 o4 o5 o6 o7 o8 o9 o10 o11 o12 o13 o14 H locs ls) a0 a1 a2 a3 a4 a5 a6 a7 a8 a9 a10 a11 a12 a13 a14 v0 x4 o0 o1 o2 o3 o4 o5 o6 o7 o8 o9 o10 o11 o12 o13 o14 _ _ _ hN hver hP hS (lv_sub hl [0, 1, 2, 3, 4] rfl) h
                      · have h := ite_f c11 h
                        by_cases c12 : ((xs (Int32.toNatClampNeg x4)) &&& (31 : Int32)) = 9
                        · have h := ite_t c12 h
                          refine lv_tableIn (off := 644) (tgt := 684) hx hb d_Law_law_40 (by rw [c12]; decide) (by rw [c12]; decide) (by rw [c12]; rfl) (by decide) ?_
                          exact k_Law_law_684 C0 hl0 (it := it) (by omega) (fun a0 a1 a2 a3 a4 a5 a6 a7 a8 a9 a10 a11 a12 a13 a14 v0 x4 o0 o1 o2 o3 o4 o5 o6 o7 o8 o9 o10 o11 o12 o13 o14 H locs ls => ih (it + 1) (by omega) a0 a1 a2 a3 a4 a5 a6 a7 a8 a9 a10 a11 a12 a13 a14 v0 x4 o0 o1 o2 o3 o4 o5 o6 o7 o8 o9 o10 o11 o12 o13 o14 H locs ls) a0 a1 a2 a3 a4 a5 a6 a7 a8 a9 a10 a11 a12 a13 a14 v0 x4 o0 o1 o2 o3 o4 o5 o6 o7 o8 o9 o10 o11 o12 o13 o14 _ _ _ hN hver hP hS (lv_sub hl [0, 1, 2, 3, 4] rfl) h
                        · have h := ite_f c12 h
                          by_cases c13 : ((xs (Int32.toNatClampNeg x4)) &&& (31 : Int32)) = 10
                          · have h := ite_t c13 h
                            refine lv_tableIn (off := 712) (tgt := 752) hx hb d_Law_law_40 (by rw [c13]; decide) (by rw [c13]; decide) (by rw [c13]; rfl) (by decide) ?_
                            exact k_Law_law_752 C0 hl0 (it := it) (by omega) (fun a0 a1 a2 a3 a4 a5 a6 a7 a8 a9 a10 a11 a12 a13 a14 v0 x4 o0 o1 o2 o3 o4 o5 o6 o7 o8 o9 o10 o11 o12 o13 o14 H locs ls => ih (it + 1) (by omega) a0 a1 a2 a3 a4 a5 a6 a7 a8 a9 a10 a11 a12 a13 a14 v0 x4 o0 o1 o2 o3 o4 o5 o6 o7 o8 o9 o10 o11 o12 o13 o14 H locs ls) a0 a1 a2 a3 a4 a5 a6 a7 a8 a9 a10 a11 a12 a13 a14 v0 x4 o0 o1 o2 o3 o4 o5 o6 o7 o8 o9 o10 o11 o12 o13 o14 _ _ _ hN hver hP hS (lv_sub hl [0, 1, 2, 3, 4] rfl) h
                          · have h := ite_f c13 h
                            by_cases c14 : ((xs (Int32.toNatClampNeg x4)) &&& (31 : Int32)) = 11
                            · have h := ite_t c14 h
                              refine lv_tableIn (off := 787) (tgt := 827) hx hb d_Law_law_40 (by rw [c14]; decide) (by rw [c14]; decide) (by rw [c14]; rfl) (by decide) ?_
                              exact k_Law_law_827 C0 hl0 (it := it) (by omega) (fun a0 a1 a2 a3 a4 a5 a6 a7 a8 a9 a10 a11 a12 a13 a14 v0 x4 o0 o1 o2 o3 o4 o5 o6 o7 o8 o9 o10 o11 o12 o13 o14 H locs ls => ih (it + 1) (by omega) a0 a1 a2 a3 a4 a5 a6 a7 a8 a9 a10 a11 a12 a13 a14 v0 x4 o0 o1 o2 o3 o4 o5 o6 o7 o8 o9 o10 o11 o12 o13 o14 H locs ls) a0 a1 a2 a3 a4 a5 a6 a7 a8 a9 a10 a11 a12 a13 a14 v0 x4 o0 o1 o2 o3 o4 o5 o6 o7 o8 o9 o10 o11 o12 o13 o14 _ _ _ hN hver hP hS (lv_sub hl [0, 1, 2, 3, 4] rfl) h
                            · have h := ite_f c14 h
                              by_cases c15 : ((xs (Int32.toNatClampNeg x4)) &&& (31 : Int32)) = 12
                              · have h := ite_t c15 h
                                refine lv_tableIn (off := 855) (tgt := 895) hx hb d_Law_law_40 (by rw [c15]; decide) (by rw [c15]; decide) (by rw [c15]; rfl) (by decide) ?_
                                exact k_Law_law_895 C0 hl0 (it := it) (by omega) (fun a0 a1 a2 a3 a4 a5 a6 a7 a8 a9 a10 a11 a12 a13 a14 v0 x4 o0 o1 o2 o3 o4 o5 o6 o7 o8 o9 o10 o11 o12 o13 o14 H locs ls => ih (it + 1) (by omega) a0 a1 a2 a3 a4 a5 a6 a7 a8 a9 a10 a11 a12 a13 a14 v0 x4 o0 o1 o2 o3 o4 o5 o6 o7 o8 o9 o10 o11 o12 o13 o14 H locs ls) a0 a1 a2 a3 a4 a5 a6 a7 a8 a9 a10 a11 a12 a13 a14 v0 x4 o0 o1 o2 o3 o4 o5 o6 o7 o8 o9 o10 o11 o12 o13 o14 _ _ _ hN hver hP hS (lv_sub hl [0, 1, 2, 3, 4] rfl) h
                              · have h := ite_f c15 h
                                by_cases c16 : ((xs (Int32.toNatClampNeg x4)) &&& (31 : Int32)) = 13
                                · have h := ite_t c16 h
                                  refine lv_tableIn (off := 911) (tgt := 951) hx hb d_Law_law_40 (by rw [c16]; decide) (by rw [c16]; decide) (by rw [c16]; rfl) (by decide) ?_
                                  exact k_Law_law_951 C0 hl0 (it := it) (by omega) (fun a0 a1 a2 a3 a4 a5 a6 a7 a8 a9 a10 a11 a12 a13 a14 v0 x4 o0 o1 o2 o3 o4 o5 o6 o7 o8 o9 o10 o11 o12 o13 o14 H locs ls => ih (it + 1) (by omega) a0 a1 a2 a3 a4 a5 a6 a7 a8 a9 a10 a11 a12 a13 a14 v0 x4 o0 o1 o2 o3 o4 o5 o6 o7 o8 o9 o10 o11 o12 o13 o14 H locs ls) a0 a1 a2 a3 a4 a5 a6 a7 a8 a9 a10 a11 a12 a13 a14 v0 x4 o0 o1 o2 o3 o4 o5 o6 o7 o8 o9 o10 o11 o12 o13 o14 _ _ _ hN hver hP hS (lv_sub hl [0, 1, 2, 3, 4] rfl) h
                                · have h := ite_f c16 h
                                  by_cases c17 : ((xs (Int32.toNatClampNeg x4)) &&& (31 : Int32)) = 14
                                  · have h := ite_t c17 h
                                    refine lv_tableIn (off := 955) (tgt := 995) hx hb d_Law_law_40 (by rw [c17]; decide) (by rw [c17]; decide) (by rw [c17]; rfl) (by decide) ?_
                                    exact k_Law_law_995 C0 hl0 (it := it) (by omega) (fun a0 a1 a2 a3 a4 a5 a6 a7 a8 a9 a10 a11 a12 a13 a14 v0 x4 o0 o1 o2 o3 o4 o5 o6 o7 o8 o9 o10 o11 o12 o13 o14 H locs ls => ih (it + 1) (by omega) a0 a1 a2 a3 a4 a5 a6 a7 a8 a9 a10 a11 a12 a13 a14 v0 x4 o0 o1 o2 o3 o4 o5 o6 o7 o8 o9 o10 o11 o12 o13 o14 H locs ls) a0 a1 a2 a3 a4 a5 a6 a7 a8 a9 a10 a11 a12 a13 a14 v0 x4 o0 o1 o2 o3 o4 o5 o6 o7 o8 o9 o10 o11 o12 o13 o14 _ _ _ hN hver hP hS (lv_sub hl [0, 1, 2, 3, 4] rfl) h
                                  · have h := ite_f c17 h
                                    by_cases c18 : ((xs (Int32.toNatClampNeg x4)) &&& (31 : Int32)) = 15
                                    · have h := ite_t c18 h
                                      refine lv_tableIn (off := 1023) (tgt := 1063) hx hb d_Law_law_40 (by rw [c18]; decide) (by rw [c18]; decide) (by rw [c18]; rfl) (by decide) ?_
                                      exact k_Law_law_1063 C0 hl0 (it := it) (by omega) (fun a0 a1 a2 a3 a4 a5 a6 a7 a8 a9 a10 a11 a12 a13 a14 v0 x4 o0 o1 o2 o3 o4 o5 o6 o7 o8 o9 o10 o11 o12 o13 o14 H locs ls => ih (it + 1) (by omega) a0 a1 a2 a3 a4 a5 a6 a7 a8 a9 a10 a11 a12 a13 a14 v0 x4 o0 o1 o2 o3 o4 o5 o6 o7 o8 o9 o10 o11 o12 o13 o14 H locs ls) a0 a1 a2 a3 a4 a5 a6 a7 a8 a9 a10 a11 a12 a13 a14 v0 x4 o0 o1 o2 o3 o4 o5 o6 o7 o8 o9 o10 o11 o12 o13 o14 _ _ _ hN hver hP hS (lv_sub hl [0, 1, 2, 3, 4] rfl) h
                                    · have h := ite_f c18 h
                                      by_cases c19 : ((xs (Int32.toNatClampNeg x4)) &&& (31 : Int32)) = 16
                                      · have h := ite_t c19 h
                                        refine lv_tableIn (off := 1074) (tgt := 1114) hx hb d_Law_law_40 (by rw [c19]; decide) (by rw [c19]; decide) (by rw [c19]; rfl) (by decide) ?_
                                        exact k_Law_law_1114 C0 hl0 (it := it) (by omega) (fun a0 a1 a2 a3 a4 a5 a6 a7 a8 a9 a10 a11 a12 a13 a14 v0 x4 o0 o1 o2 o3 o4 o5 o6 o7 o8 o9 o10 o11 o12 o13 o14 H locs ls => ih (it + 1) (by omega) a0 a1 a2 a3 a4 a5 a6 a7 a8 a9 a10 a11 a12 a13 a14 v0 x4 o0 o1 o2 o3 o4 o5 o6 o7 o8 o9 o10 o11 o12 o13 o14 H locs ls) a0 a1 a2 a3 a4 a5 a6 a7 a8 a9 a10 a11 a12 a13 a14 v0 x4 o0 o1 o2 o3 o4 o5 o6 o7 o8 o9 o10 o11 o12 o13 o14 _ _ _ hN hver hP hS (lv_sub hl [0, 1, 2, 3, 4] rfl) h
                                      · have h := ite_f c19 h
                                        refine lv_tableOut (tgt := 1128) hx hb d_Law_law_40 (sw_out0_16 c3 c4 c5 c6 c7 c8 c9 c10 c11 c12 c13 c14 c15 c16 c17 c18 c19) (by decide) ?_
                                        refine lv_iinc (v := (x4 + (6 : Int32))) (lv' := [(4, .int (x4 + (6 : Int32))), (0, .ref b), (1, .ref (a0 0)), (2, .ref (a13 0)), (3, .ref (a14 0))]) hx hb d_Law_law_1128 hl (k := 4) rfl rfl (by decide) rfl (fun ls hl => ?_)
                                        refine lv_goto (tgt := 23) hx hb d_Law_law_1131 (by decide) ?_
                                        refine W.widen (k := 200 + (it + 1)) (n := 40000 + 6 * (it + 1)) (by omega) (by omega) ?_
                                        exact ih (it + 1) (by omega) a0 a1 a2 a3 a4 a5 a6 a7 a8 a9 a10 a11 a12 a13 a14 v0 (x4 + (6 : Int32)) o0 o1 o2 o3 o4 o5 o6 o7 o8 o9 o10 o11 o12 o13 o14 _ _ _ hN hver hP hS (lv_sub hl [1, 2, 3, 4, 0] rfl) h
