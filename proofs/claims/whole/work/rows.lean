section
-- ===== PART A: goes FIRST, ahead of the names: the tables' words, and 'selects' of the private methods out of them =====
/-- a private method of a class that the tables say can be made, by its rows of tables_1 -/
def lw_okq (q : MethodName × Nat) : Prop := (q.1.cls ≠ "java/lang/invoke/MethodHandle" ∧ q.1.cls ≠ "java/lang/invoke/VarHandle") ∧ Cond.instantiable q.1.cls q.2 ∈ tables_1 ∧ Cond.privateMethod q.1 ∈ tables_1 ∧ Cond.instanceMethod q.1 ∈ tables_1
theorem lw_p0 : lw_okq (⟨"PartFormulas$Reader", "readStatement", "()Z"⟩, 12) := ⟨⟨by decide +kernel, by decide +kernel⟩, List.mem_of_getElem? (i := 31) (by decide +kernel), List.mem_of_getElem? (i := 285) (by decide +kernel), List.mem_of_getElem? (i := 286) (by decide +kernel)⟩
theorem lw_p1 : lw_okq (⟨"PartFormulas$Reader", "pass", "(C)Z"⟩, 12) := ⟨⟨by decide +kernel, by decide +kernel⟩, List.mem_of_getElem? (i := 31) (by decide +kernel), List.mem_of_getElem? (i := 289) (by decide +kernel), List.mem_of_getElem? (i := 290) (by decide +kernel)⟩
theorem lw_p2 : lw_okq (⟨"PartFormulas$Reader", "next", "()C"⟩, 12) := ⟨⟨by decide +kernel, by decide +kernel⟩, List.mem_of_getElem? (i := 31) (by decide +kernel), List.mem_of_getElem? (i := 293) (by decide +kernel), List.mem_of_getElem? (i := 294) (by decide +kernel)⟩
theorem lw_p3 : lw_okq (⟨"PartFormulas$Reader", "readCondition", "()Z"⟩, 12) := ⟨⟨by decide +kernel, by decide +kernel⟩, List.mem_of_getElem? (i := 31) (by decide +kernel), List.mem_of_getElem? (i := 301) (by decide +kernel), List.mem_of_getElem? (i := 302) (by decide +kernel)⟩
theorem lw_p4 : lw_okq (⟨"PartFormulas$Reader", "readExpression", "()Z"⟩, 12) := ⟨⟨by decide +kernel, by decide +kernel⟩, List.mem_of_getElem? (i := 31) (by decide +kernel), List.mem_of_getElem? (i := 305) (by decide +kernel), List.mem_of_getElem? (i := 306) (by decide +kernel)⟩
theorem lw_p5 : lw_okq (⟨"PartFormulas$Reader", "readFactor", "()Z"⟩, 12) := ⟨⟨by decide +kernel, by decide +kernel⟩, List.mem_of_getElem? (i := 31) (by decide +kernel), List.mem_of_getElem? (i := 309) (by decide +kernel), List.mem_of_getElem? (i := 310) (by decide +kernel)⟩
theorem lw_p6 : lw_okq (⟨"PartFormulas$Reader", "hold", "(I)V"⟩, 12) := ⟨⟨by decide +kernel, by decide +kernel⟩, List.mem_of_getElem? (i := 31) (by decide +kernel), List.mem_of_getElem? (i := 313) (by decide +kernel), List.mem_of_getElem? (i := 314) (by decide +kernel)⟩
theorem lw_p7 : lw_okq (⟨"PartFormulas$Reader", "openGroup", "()V"⟩, 12) := ⟨⟨by decide +kernel, by decide +kernel⟩, List.mem_of_getElem? (i := 31) (by decide +kernel), List.mem_of_getElem? (i := 317) (by decide +kernel), List.mem_of_getElem? (i := 318) (by decide +kernel)⟩
theorem lw_p8 : lw_okq (⟨"PartFormulas$Reader", "readNumber", "()Z"⟩, 12) := ⟨⟨by decide +kernel, by decide +kernel⟩, List.mem_of_getElem? (i := 31) (by decide +kernel), List.mem_of_getElem? (i := 321) (by decide +kernel), List.mem_of_getElem? (i := 322) (by decide +kernel)⟩
theorem lw_p9 : lw_okq (⟨"PartFormulas$Reader", "readDigits", "(II)I"⟩, 12) := ⟨⟨by decide +kernel, by decide +kernel⟩, List.mem_of_getElem? (i := 31) (by decide +kernel), List.mem_of_getElem? (i := 325) (by decide +kernel), List.mem_of_getElem? (i := 326) (by decide +kernel)⟩
theorem lw_p10 : lw_okq (⟨"PartFormulas$Reader", "dropZerosBehind", "(I)V"⟩, 12) := ⟨⟨by decide +kernel, by decide +kernel⟩, List.mem_of_getElem? (i := 31) (by decide +kernel), List.mem_of_getElem? (i := 329) (by decide +kernel), List.mem_of_getElem? (i := 330) (by decide +kernel)⟩
theorem lw_p11 : lw_okq (⟨"PartFormulas$Reader", "readCellName", "()I"⟩, 12) := ⟨⟨by decide +kernel, by decide +kernel⟩, List.mem_of_getElem? (i := 31) (by decide +kernel), List.mem_of_getElem? (i := 346) (by decide +kernel), List.mem_of_getElem? (i := 347) (by decide +kernel)⟩
theorem lw_p12 : lw_okq (⟨"PartFormulas$Reader", "releaseNegations", "()V"⟩, 12) := ⟨⟨by decide +kernel, by decide +kernel⟩, List.mem_of_getElem? (i := 31) (by decide +kernel), List.mem_of_getElem? (i := 441) (by decide +kernel), List.mem_of_getElem? (i := 442) (by decide +kernel)⟩
theorem lw_p13 : lw_okq (⟨"PartFormulas$Reader", "lastWaiting", "()I"⟩, 12) := ⟨⟨by decide +kernel, by decide +kernel⟩, List.mem_of_getElem? (i := 31) (by decide +kernel), List.mem_of_getElem? (i := 445) (by decide +kernel), List.mem_of_getElem? (i := 446) (by decide +kernel)⟩
theorem lw_p14 : lw_okq (⟨"PartFormulas$Reader", "closeGroups", "()V"⟩, 12) := ⟨⟨by decide +kernel, by decide +kernel⟩, List.mem_of_getElem? (i := 31) (by decide +kernel), List.mem_of_getElem? (i := 449) (by decide +kernel), List.mem_of_getElem? (i := 450) (by decide +kernel)⟩
theorem lw_p15 : lw_okq (⟨"PartFormulas$Reader", "releaseWaiting", "(I)V"⟩, 12) := ⟨⟨by decide +kernel, by decide +kernel⟩, List.mem_of_getElem? (i := 31) (by decide +kernel), List.mem_of_getElem? (i := 453) (by decide +kernel), List.mem_of_getElem? (i := 454) (by decide +kernel)⟩
def lw_privs_1 : List (MethodName × Nat) := [(⟨"PartFormulas$Reader", "readStatement", "()Z"⟩, 12), (⟨"PartFormulas$Reader", "pass", "(C)Z"⟩, 12), (⟨"PartFormulas$Reader", "next", "()C"⟩, 12), (⟨"PartFormulas$Reader", "readCondition", "()Z"⟩, 12), (⟨"PartFormulas$Reader", "readExpression", "()Z"⟩, 12), (⟨"PartFormulas$Reader", "readFactor", "()Z"⟩, 12), (⟨"PartFormulas$Reader", "hold", "(I)V"⟩, 12), (⟨"PartFormulas$Reader", "openGroup", "()V"⟩, 12), (⟨"PartFormulas$Reader", "readNumber", "()Z"⟩, 12), (⟨"PartFormulas$Reader", "readDigits", "(II)I"⟩, 12), (⟨"PartFormulas$Reader", "dropZerosBehind", "(I)V"⟩, 12), (⟨"PartFormulas$Reader", "readCellName", "()I"⟩, 12), (⟨"PartFormulas$Reader", "releaseNegations", "()V"⟩, 12), (⟨"PartFormulas$Reader", "lastWaiting", "()I"⟩, 12), (⟨"PartFormulas$Reader", "closeGroups", "()V"⟩, 12), (⟨"PartFormulas$Reader", "releaseWaiting", "(I)V"⟩, 12)]
theorem lw_r1 : ∀ q ∈ lw_privs_1, lw_okq q := List.forall_mem_cons.mpr ⟨lw_p0, List.forall_mem_cons.mpr ⟨lw_p1, List.forall_mem_cons.mpr ⟨lw_p2, List.forall_mem_cons.mpr ⟨lw_p3, List.forall_mem_cons.mpr ⟨lw_p4, List.forall_mem_cons.mpr ⟨lw_p5, List.forall_mem_cons.mpr ⟨lw_p6, List.forall_mem_cons.mpr ⟨lw_p7, List.forall_mem_cons.mpr ⟨lw_p8, List.forall_mem_cons.mpr ⟨lw_p9, List.forall_mem_cons.mpr ⟨lw_p10, List.forall_mem_cons.mpr ⟨lw_p11, List.forall_mem_cons.mpr ⟨lw_p12, List.forall_mem_cons.mpr ⟨lw_p13, List.forall_mem_cons.mpr ⟨lw_p14, List.forall_mem_cons.mpr ⟨lw_p15, fun _ h => absurd h List.not_mem_nil⟩⟩⟩⟩⟩⟩⟩⟩⟩⟩⟩⟩⟩⟩⟩⟩
theorem lw_p16 : lw_okq (⟨"PartFormulas$Reader", "readOperator", "()Z"⟩, 12) := ⟨⟨by decide +kernel, by decide +kernel⟩, List.mem_of_getElem? (i := 31) (by decide +kernel), List.mem_of_getElem? (i := 463) (by decide +kernel), List.mem_of_getElem? (i := 464) (by decide +kernel)⟩
theorem lw_p17 : lw_okq (⟨"PartFormulas$Reader", "passSign", "()Z"⟩, 12) := ⟨⟨by decide +kernel, by decide +kernel⟩, List.mem_of_getElem? (i := 31) (by decide +kernel), List.mem_of_getElem? (i := 475) (by decide +kernel), List.mem_of_getElem? (i := 476) (by decide +kernel)⟩
theorem lw_p18 : lw_okq (⟨"PartFormulas$Reader", "readChoice", "()Z"⟩, 12) := ⟨⟨by decide +kernel, by decide +kernel⟩, List.mem_of_getElem? (i := 31) (by decide +kernel), List.mem_of_getElem? (i := 483) (by decide +kernel), List.mem_of_getElem? (i := 484) (by decide +kernel)⟩
theorem lw_p19 : lw_okq (⟨"PartFormulas$Reader", "print", "()V"⟩, 12) := ⟨⟨by decide +kernel, by decide +kernel⟩, List.mem_of_getElem? (i := 31) (by decide +kernel), List.mem_of_getElem? (i := 508) (by decide +kernel), List.mem_of_getElem? (i := 509) (by decide +kernel)⟩
theorem lw_p20 : lw_okq (⟨"PartFormulas", "demandRead", "()V"⟩, 10) := ⟨⟨by decide +kernel, by decide +kernel⟩, List.mem_of_getElem? (i := 23) (by decide +kernel), List.mem_of_getElem? (i := 530) (by decide +kernel), List.mem_of_getElem? (i := 531) (by decide +kernel)⟩
theorem lw_p21 : lw_okq (⟨"java/lang/Throwable", "fillInStackTrace", "(I)Ljava/lang/Throwable;"⟩, 6) := ⟨⟨by decide +kernel, by decide +kernel⟩, List.mem_of_getElem? (i := 572) (by decide +kernel), List.mem_of_getElem? (i := 570) (by decide +kernel), List.mem_of_getElem? (i := 571) (by decide +kernel)⟩
theorem lw_p22 : lw_okq (⟨"PartFormulas$Reckoner", "workOut", "(LPartFormulas$Text;ILPartFormulas$Cells;)V"⟩, 6) := ⟨⟨by decide +kernel, by decide +kernel⟩, List.mem_of_getElem? (i := 176) (by decide +kernel), List.mem_of_getElem? (i := 665) (by decide +kernel), List.mem_of_getElem? (i := 666) (by decide +kernel)⟩
theorem lw_p23 : lw_okq (⟨"PartFormulas$Reckoner", "judge", "(LPartFormulas$Steps;ILPartFormulas$Cells;)I"⟩, 6) := ⟨⟨by decide +kernel, by decide +kernel⟩, List.mem_of_getElem? (i := 176) (by decide +kernel), List.mem_of_getElem? (i := 669) (by decide +kernel), List.mem_of_getElem? (i := 670) (by decide +kernel)⟩
theorem lw_p24 : lw_okq (⟨"PartFormulas$Reckoner", "reckon", "(LPartFormulas$Steps;ILPartFormulas$Cells;)Z"⟩, 6) := ⟨⟨by decide +kernel, by decide +kernel⟩, List.mem_of_getElem? (i := 176) (by decide +kernel), List.mem_of_getElem? (i := 673) (by decide +kernel), List.mem_of_getElem? (i := 674) (by decide +kernel)⟩
theorem lw_p25 : lw_okq (⟨"PartFormulas$Reckoner", "settle", "(JJ)V"⟩, 6) := ⟨⟨by decide +kernel, by decide +kernel⟩, List.mem_of_getElem? (i := 176) (by decide +kernel), List.mem_of_getElem? (i := 677) (by decide +kernel), List.mem_of_getElem? (i := 678) (by decide +kernel)⟩
theorem lw_p26 : lw_okq (⟨"PartFormulas$Reckoner", "push", "(JJ)V"⟩, 6) := ⟨⟨by decide +kernel, by decide +kernel⟩, List.mem_of_getElem? (i := 176) (by decide +kernel), List.mem_of_getElem? (i := 683) (by decide +kernel), List.mem_of_getElem? (i := 684) (by decide +kernel)⟩
theorem lw_p27 : lw_okq (⟨"PartFormulas$Reckoner", "pushCell", "(ILPartFormulas$Cells;)V"⟩, 6) := ⟨⟨by decide +kernel, by decide +kernel⟩, List.mem_of_getElem? (i := 176) (by decide +kernel), List.mem_of_getElem? (i := 687) (by decide +kernel), List.mem_of_getElem? (i := 688) (by decide +kernel)⟩
theorem lw_p28 : lw_okq (⟨"PartFormulas$Reckoner", "negate", "()V"⟩, 6) := ⟨⟨by decide +kernel, by decide +kernel⟩, List.mem_of_getElem? (i := 176) (by decide +kernel), List.mem_of_getElem? (i := 691) (by decide +kernel), List.mem_of_getElem? (i := 692) (by decide +kernel)⟩
theorem lw_p29 : lw_okq (⟨"PartFormulas$Reckoner", "join", "(I)V"⟩, 6) := ⟨⟨by decide +kernel, by decide +kernel⟩, List.mem_of_getElem? (i := 176) (by decide +kernel), List.mem_of_getElem? (i := 695) (by decide +kernel), List.mem_of_getElem? (i := 696) (by decide +kernel)⟩
theorem lw_p30 : lw_okq (⟨"PartFormulas", "demandWorkedOut", "()V"⟩, 10) := ⟨⟨by decide +kernel, by decide +kernel⟩, List.mem_of_getElem? (i := 23) (by decide +kernel), List.mem_of_getElem? (i := 729) (by decide +kernel), List.mem_of_getElem? (i := 730) (by decide +kernel)⟩
theorem lw_p31 : lw_okq (⟨"PartFormulasModel", "readStatement", "()V"⟩, 36) := ⟨⟨by decide +kernel, by decide +kernel⟩, List.mem_of_getElem? (i := 837) (by decide +kernel), List.mem_of_getElem? (i := 964) (by decide +kernel), List.mem_of_getElem? (i := 965) (by decide +kernel)⟩
def lw_privs_2 : List (MethodName × Nat) := [(⟨"PartFormulas$Reader", "readOperator", "()Z"⟩, 12), (⟨"PartFormulas$Reader", "passSign", "()Z"⟩, 12), (⟨"PartFormulas$Reader", "readChoice", "()Z"⟩, 12), (⟨"PartFormulas$Reader", "print", "()V"⟩, 12), (⟨"PartFormulas", "demandRead", "()V"⟩, 10), (⟨"java/lang/Throwable", "fillInStackTrace", "(I)Ljava/lang/Throwable;"⟩, 6), (⟨"PartFormulas$Reckoner", "workOut", "(LPartFormulas$Text;ILPartFormulas$Cells;)V"⟩, 6), (⟨"PartFormulas$Reckoner", "judge", "(LPartFormulas$Steps;ILPartFormulas$Cells;)I"⟩, 6), (⟨"PartFormulas$Reckoner", "reckon", "(LPartFormulas$Steps;ILPartFormulas$Cells;)Z"⟩, 6), (⟨"PartFormulas$Reckoner", "settle", "(JJ)V"⟩, 6), (⟨"PartFormulas$Reckoner", "push", "(JJ)V"⟩, 6), (⟨"PartFormulas$Reckoner", "pushCell", "(ILPartFormulas$Cells;)V"⟩, 6), (⟨"PartFormulas$Reckoner", "negate", "()V"⟩, 6), (⟨"PartFormulas$Reckoner", "join", "(I)V"⟩, 6), (⟨"PartFormulas", "demandWorkedOut", "()V"⟩, 10), (⟨"PartFormulasModel", "readStatement", "()V"⟩, 36)]
theorem lw_r2 : ∀ q ∈ lw_privs_2, lw_okq q := List.forall_mem_cons.mpr ⟨lw_p16, List.forall_mem_cons.mpr ⟨lw_p17, List.forall_mem_cons.mpr ⟨lw_p18, List.forall_mem_cons.mpr ⟨lw_p19, List.forall_mem_cons.mpr ⟨lw_p20, List.forall_mem_cons.mpr ⟨lw_p21, List.forall_mem_cons.mpr ⟨lw_p22, List.forall_mem_cons.mpr ⟨lw_p23, List.forall_mem_cons.mpr ⟨lw_p24, List.forall_mem_cons.mpr ⟨lw_p25, List.forall_mem_cons.mpr ⟨lw_p26, List.forall_mem_cons.mpr ⟨lw_p27, List.forall_mem_cons.mpr ⟨lw_p28, List.forall_mem_cons.mpr ⟨lw_p29, List.forall_mem_cons.mpr ⟨lw_p30, List.forall_mem_cons.mpr ⟨lw_p31, fun _ h => absurd h List.not_mem_nil⟩⟩⟩⟩⟩⟩⟩⟩⟩⟩⟩⟩⟩⟩⟩⟩
theorem lw_p32 : lw_okq (⟨"PartFormulasModel", "here", "()I"⟩, 36) := ⟨⟨by decide +kernel, by decide +kernel⟩, List.mem_of_getElem? (i := 837) (by decide +kernel), List.mem_of_getElem? (i := 968) (by decide +kernel), List.mem_of_getElem? (i := 969) (by decide +kernel)⟩
theorem lw_p33 : lw_okq (⟨"PartFormulasModel", "readExpression", "()V"⟩, 36) := ⟨⟨by decide +kernel, by decide +kernel⟩, List.mem_of_getElem? (i := 837) (by decide +kernel), List.mem_of_getElem? (i := 972) (by decide +kernel), List.mem_of_getElem? (i := 973) (by decide +kernel)⟩
theorem lw_p34 : lw_okq (⟨"PartFormulasModel", "readFactor", "(II)Z"⟩, 36) := ⟨⟨by decide +kernel, by decide +kernel⟩, List.mem_of_getElem? (i := 837) (by decide +kernel), List.mem_of_getElem? (i := 976) (by decide +kernel), List.mem_of_getElem? (i := 977) (by decide +kernel)⟩
theorem lw_p35 : lw_okq (⟨"PartFormulasModel", "readNumber", "()V"⟩, 36) := ⟨⟨by decide +kernel, by decide +kernel⟩, List.mem_of_getElem? (i := 837) (by decide +kernel), List.mem_of_getElem? (i := 983) (by decide +kernel), List.mem_of_getElem? (i := 984) (by decide +kernel)⟩
theorem lw_p36 : lw_okq (⟨"PartFormulasModel", "digits", "(I)I"⟩, 36) := ⟨⟨by decide +kernel, by decide +kernel⟩, List.mem_of_getElem? (i := 837) (by decide +kernel), List.mem_of_getElem? (i := 987) (by decide +kernel), List.mem_of_getElem? (i := 988) (by decide +kernel)⟩
theorem lw_p37 : lw_okq (⟨"PartFormulasModel", "failAt", "(I)V"⟩, 36) := ⟨⟨by decide +kernel, by decide +kernel⟩, List.mem_of_getElem? (i := 837) (by decide +kernel), List.mem_of_getElem? (i := 991) (by decide +kernel), List.mem_of_getElem? (i := 992) (by decide +kernel)⟩
theorem lw_p38 : lw_okq (⟨"PartFormulasModel", "emit", "(II)V"⟩, 36) := ⟨⟨by decide +kernel, by decide +kernel⟩, List.mem_of_getElem? (i := 837) (by decide +kernel), List.mem_of_getElem? (i := 995) (by decide +kernel), List.mem_of_getElem? (i := 996) (by decide +kernel)⟩
theorem lw_p39 : lw_okq (⟨"PartFormulasModel", "endFactor", "()V"⟩, 36) := ⟨⟨by decide +kernel, by decide +kernel⟩, List.mem_of_getElem? (i := 837) (by decide +kernel), List.mem_of_getElem? (i := 999) (by decide +kernel), List.mem_of_getElem? (i := 1000) (by decide +kernel)⟩
theorem lw_p40 : lw_okq (⟨"PartFormulasModel", "isWaiting", "(II)Z"⟩, 36) := ⟨⟨by decide +kernel, by decide +kernel⟩, List.mem_of_getElem? (i := 837) (by decide +kernel), List.mem_of_getElem? (i := 1003) (by decide +kernel), List.mem_of_getElem? (i := 1004) (by decide +kernel)⟩
theorem lw_p41 : lw_okq (⟨"PartFormulasModel", "pop", "()V"⟩, 36) := ⟨⟨by decide +kernel, by decide +kernel⟩, List.mem_of_getElem? (i := 837) (by decide +kernel), List.mem_of_getElem? (i := 1007) (by decide +kernel), List.mem_of_getElem? (i := 1008) (by decide +kernel)⟩
theorem lw_p42 : lw_okq (⟨"PartFormulasModel", "readCell", "(I)V"⟩, 36) := ⟨⟨by decide +kernel, by decide +kernel⟩, List.mem_of_getElem? (i := 837) (by decide +kernel), List.mem_of_getElem? (i := 1011) (by decide +kernel), List.mem_of_getElem? (i := 1012) (by decide +kernel)⟩
theorem lw_p43 : lw_okq (⟨"PartFormulasModel", "push", "(I)V"⟩, 36) := ⟨⟨by decide +kernel, by decide +kernel⟩, List.mem_of_getElem? (i := 837) (by decide +kernel), List.mem_of_getElem? (i := 1018) (by decide +kernel), List.mem_of_getElem? (i := 1019) (by decide +kernel)⟩
theorem lw_p44 : lw_okq (⟨"PartFormulasModel", "operator", "(II)V"⟩, 36) := ⟨⟨by decide +kernel, by decide +kernel⟩, List.mem_of_getElem? (i := 837) (by decide +kernel), List.mem_of_getElem? (i := 1022) (by decide +kernel), List.mem_of_getElem? (i := 1023) (by decide +kernel)⟩
theorem lw_p45 : lw_okq (⟨"PartFormulasModel", "readCompare", "()V"⟩, 36) := ⟨⟨by decide +kernel, by decide +kernel⟩, List.mem_of_getElem? (i := 837) (by decide +kernel), List.mem_of_getElem? (i := 1026) (by decide +kernel), List.mem_of_getElem? (i := 1027) (by decide +kernel)⟩
theorem lw_p46 : lw_okq (⟨"PartFormulasModel", "isDefined", "(I)Z"⟩, 36) := ⟨⟨by decide +kernel, by decide +kernel⟩, List.mem_of_getElem? (i := 837) (by decide +kernel), List.mem_of_getElem? (i := 1033) (by decide +kernel), List.mem_of_getElem? (i := 1034) (by decide +kernel)⟩
theorem lw_p47 : lw_okq (⟨"PartFormulasModel", "readMark", "(I)V"⟩, 36) := ⟨⟨by decide +kernel, by decide +kernel⟩, List.mem_of_getElem? (i := 837) (by decide +kernel), List.mem_of_getElem? (i := 1037) (by decide +kernel), List.mem_of_getElem? (i := 1038) (by decide +kernel)⟩
def lw_privs_3 : List (MethodName × Nat) := [(⟨"PartFormulasModel", "here", "()I"⟩, 36), (⟨"PartFormulasModel", "readExpression", "()V"⟩, 36), (⟨"PartFormulasModel", "readFactor", "(II)Z"⟩, 36), (⟨"PartFormulasModel", "readNumber", "()V"⟩, 36), (⟨"PartFormulasModel", "digits", "(I)I"⟩, 36), (⟨"PartFormulasModel", "failAt", "(I)V"⟩, 36), (⟨"PartFormulasModel", "emit", "(II)V"⟩, 36), (⟨"PartFormulasModel", "endFactor", "()V"⟩, 36), (⟨"PartFormulasModel", "isWaiting", "(II)Z"⟩, 36), (⟨"PartFormulasModel", "pop", "()V"⟩, 36), (⟨"PartFormulasModel", "readCell", "(I)V"⟩, 36), (⟨"PartFormulasModel", "push", "(I)V"⟩, 36), (⟨"PartFormulasModel", "operator", "(II)V"⟩, 36), (⟨"PartFormulasModel", "readCompare", "()V"⟩, 36), (⟨"PartFormulasModel", "isDefined", "(I)Z"⟩, 36), (⟨"PartFormulasModel", "readMark", "(I)V"⟩, 36)]
theorem lw_r3 : ∀ q ∈ lw_privs_3, lw_okq q := List.forall_mem_cons.mpr ⟨lw_p32, List.forall_mem_cons.mpr ⟨lw_p33, List.forall_mem_cons.mpr ⟨lw_p34, List.forall_mem_cons.mpr ⟨lw_p35, List.forall_mem_cons.mpr ⟨lw_p36, List.forall_mem_cons.mpr ⟨lw_p37, List.forall_mem_cons.mpr ⟨lw_p38, List.forall_mem_cons.mpr ⟨lw_p39, List.forall_mem_cons.mpr ⟨lw_p40, List.forall_mem_cons.mpr ⟨lw_p41, List.forall_mem_cons.mpr ⟨lw_p42, List.forall_mem_cons.mpr ⟨lw_p43, List.forall_mem_cons.mpr ⟨lw_p44, List.forall_mem_cons.mpr ⟨lw_p45, List.forall_mem_cons.mpr ⟨lw_p46, List.forall_mem_cons.mpr ⟨lw_p47, fun _ h => absurd h List.not_mem_nil⟩⟩⟩⟩⟩⟩⟩⟩⟩⟩⟩⟩⟩⟩⟩⟩
theorem lw_p48 : lw_okq (⟨"PartFormulasModel", "readChoice", "()V"⟩, 36) := ⟨⟨by decide +kernel, by decide +kernel⟩, List.mem_of_getElem? (i := 837) (by decide +kernel), List.mem_of_getElem? (i := 1041) (by decide +kernel), List.mem_of_getElem? (i := 1042) (by decide +kernel)⟩
theorem lw_p49 : lw_okq (⟨"PartFormulasModel", "accept", "()V"⟩, 36) := ⟨⟨by decide +kernel, by decide +kernel⟩, List.mem_of_getElem? (i := 837) (by decide +kernel), List.mem_of_getElem? (i := 1045) (by decide +kernel), List.mem_of_getElem? (i := 1046) (by decide +kernel)⟩
theorem lw_p50 : lw_okq (⟨"PartFormulasModel", "closeNeeds", "()V"⟩, 36) := ⟨⟨by decide +kernel, by decide +kernel⟩, List.mem_of_getElem? (i := 837) (by decide +kernel), List.mem_of_getElem? (i := 1049) (by decide +kernel), List.mem_of_getElem? (i := 1050) (by decide +kernel)⟩
theorem lw_p51 : lw_okq (⟨"PartFormulasModel", "work", "()V"⟩, 36) := ⟨⟨by decide +kernel, by decide +kernel⟩, List.mem_of_getElem? (i := 837) (by decide +kernel), List.mem_of_getElem? (i := 1057) (by decide +kernel), List.mem_of_getElem? (i := 1058) (by decide +kernel)⟩
theorem lw_p52 : lw_okq (⟨"PartFormulasModel", "isRing", "(I)Z"⟩, 36) := ⟨⟨by decide +kernel, by decide +kernel⟩, List.mem_of_getElem? (i := 837) (by decide +kernel), List.mem_of_getElem? (i := 1061) (by decide +kernel), List.mem_of_getElem? (i := 1062) (by decide +kernel)⟩
theorem lw_p53 : lw_okq (⟨"PartFormulasModel", "isReady", "(I)Z"⟩, 36) := ⟨⟨by decide +kernel, by decide +kernel⟩, List.mem_of_getElem? (i := 837) (by decide +kernel), List.mem_of_getElem? (i := 1065) (by decide +kernel), List.mem_of_getElem? (i := 1066) (by decide +kernel)⟩
theorem lw_p54 : lw_okq (⟨"PartFormulasModel", "reckonCell", "(I)V"⟩, 36) := ⟨⟨by decide +kernel, by decide +kernel⟩, List.mem_of_getElem? (i := 837) (by decide +kernel), List.mem_of_getElem? (i := 1069) (by decide +kernel), List.mem_of_getElem? (i := 1070) (by decide +kernel)⟩
theorem lw_p55 : lw_okq (⟨"PartFormulasModel", "reckon", "(II)I"⟩, 36) := ⟨⟨by decide +kernel, by decide +kernel⟩, List.mem_of_getElem? (i := 837) (by decide +kernel), List.mem_of_getElem? (i := 1073) (by decide +kernel), List.mem_of_getElem? (i := 1074) (by decide +kernel)⟩
theorem lw_p56 : lw_okq (⟨"PartFormulasModel", "put", "(JJ)V"⟩, 36) := ⟨⟨by decide +kernel, by decide +kernel⟩, List.mem_of_getElem? (i := 837) (by decide +kernel), List.mem_of_getElem? (i := 1078) (by decide +kernel), List.mem_of_getElem? (i := 1079) (by decide +kernel)⟩
theorem lw_p57 : lw_okq (⟨"PartFormulasModel", "pushCell", "(I)V"⟩, 36) := ⟨⟨by decide +kernel, by decide +kernel⟩, List.mem_of_getElem? (i := 837) (by decide +kernel), List.mem_of_getElem? (i := 1088) (by decide +kernel), List.mem_of_getElem? (i := 1089) (by decide +kernel)⟩
theorem lw_p58 : lw_okq (⟨"PartFormulasModel", "between", "(I)V"⟩, 36) := ⟨⟨by decide +kernel, by decide +kernel⟩, List.mem_of_getElem? (i := 837) (by decide +kernel), List.mem_of_getElem? (i := 1092) (by decide +kernel), List.mem_of_getElem? (i := 1093) (by decide +kernel)⟩
theorem lw_p59 : lw_okq (⟨"PartFormulasModel", "compares", "(I)Z"⟩, 36) := ⟨⟨by decide +kernel, by decide +kernel⟩, List.mem_of_getElem? (i := 837) (by decide +kernel), List.mem_of_getElem? (i := 1096) (by decide +kernel), List.mem_of_getElem? (i := 1097) (by decide +kernel)⟩
theorem lw_p60 : lw_okq (⟨"PartFormulasModel", "hangs", "(II)Z"⟩, 36) := ⟨⟨by decide +kernel, by decide +kernel⟩, List.mem_of_getElem? (i := 837) (by decide +kernel), List.mem_of_getElem? (i := 1104) (by decide +kernel), List.mem_of_getElem? (i := 1105) (by decide +kernel)⟩
theorem lw_p61 : lw_okq (⟨"PartFormulasModel", "mentions", "(II)Z"⟩, 36) := ⟨⟨by decide +kernel, by decide +kernel⟩, List.mem_of_getElem? (i := 837) (by decide +kernel), List.mem_of_getElem? (i := 1108) (by decide +kernel), List.mem_of_getElem? (i := 1109) (by decide +kernel)⟩
theorem lw_p62 : lw_okq (⟨"PartFormulasModel", "broken", "(I)I"⟩, 36) := ⟨⟨by decide +kernel, by decide +kernel⟩, List.mem_of_getElem? (i := 837) (by decide +kernel), List.mem_of_getElem? (i := 1143) (by decide +kernel), List.mem_of_getElem? (i := 1144) (by decide +kernel)⟩
theorem lw_p63 : lw_okq (⟨"PartFormulasModel", "anyBroken", "()I"⟩, 36) := ⟨⟨by decide +kernel, by decide +kernel⟩, List.mem_of_getElem? (i := 837) (by decide +kernel), List.mem_of_getElem? (i := 1151) (by decide +kernel), List.mem_of_getElem? (i := 1152) (by decide +kernel)⟩
def lw_privs_4 : List (MethodName × Nat) := [(⟨"PartFormulasModel", "readChoice", "()V"⟩, 36), (⟨"PartFormulasModel", "accept", "()V"⟩, 36), (⟨"PartFormulasModel", "closeNeeds", "()V"⟩, 36), (⟨"PartFormulasModel", "work", "()V"⟩, 36), (⟨"PartFormulasModel", "isRing", "(I)Z"⟩, 36), (⟨"PartFormulasModel", "isReady", "(I)Z"⟩, 36), (⟨"PartFormulasModel", "reckonCell", "(I)V"⟩, 36), (⟨"PartFormulasModel", "reckon", "(II)I"⟩, 36), (⟨"PartFormulasModel", "put", "(JJ)V"⟩, 36), (⟨"PartFormulasModel", "pushCell", "(I)V"⟩, 36), (⟨"PartFormulasModel", "between", "(I)V"⟩, 36), (⟨"PartFormulasModel", "compares", "(I)Z"⟩, 36), (⟨"PartFormulasModel", "hangs", "(II)Z"⟩, 36), (⟨"PartFormulasModel", "mentions", "(II)Z"⟩, 36), (⟨"PartFormulasModel", "broken", "(I)I"⟩, 36), (⟨"PartFormulasModel", "anyBroken", "()I"⟩, 36)]
theorem lw_r4 : ∀ q ∈ lw_privs_4, lw_okq q := List.forall_mem_cons.mpr ⟨lw_p48, List.forall_mem_cons.mpr ⟨lw_p49, List.forall_mem_cons.mpr ⟨lw_p50, List.forall_mem_cons.mpr ⟨lw_p51, List.forall_mem_cons.mpr ⟨lw_p52, List.forall_mem_cons.mpr ⟨lw_p53, List.forall_mem_cons.mpr ⟨lw_p54, List.forall_mem_cons.mpr ⟨lw_p55, List.forall_mem_cons.mpr ⟨lw_p56, List.forall_mem_cons.mpr ⟨lw_p57, List.forall_mem_cons.mpr ⟨lw_p58, List.forall_mem_cons.mpr ⟨lw_p59, List.forall_mem_cons.mpr ⟨lw_p60, List.forall_mem_cons.mpr ⟨lw_p61, List.forall_mem_cons.mpr ⟨lw_p62, List.forall_mem_cons.mpr ⟨lw_p63, fun _ h => absurd h List.not_mem_nil⟩⟩⟩⟩⟩⟩⟩⟩⟩⟩⟩⟩⟩⟩⟩⟩
theorem lw_p64 : lw_okq (⟨"PartFormulasModel", "noWork", "()Z"⟩, 36) := ⟨⟨by decide +kernel, by decide +kernel⟩, List.mem_of_getElem? (i := 837) (by decide +kernel), List.mem_of_getElem? (i := 1167) (by decide +kernel), List.mem_of_getElem? (i := 1168) (by decide +kernel)⟩
theorem lw_p65 : lw_okq (⟨"PartFormulasModel", "add", "(I)V"⟩, 36) := ⟨⟨by decide +kernel, by decide +kernel⟩, List.mem_of_getElem? (i := 837) (by decide +kernel), List.mem_of_getElem? (i := 1179) (by decide +kernel), List.mem_of_getElem? (i := 1180) (by decide +kernel)⟩
theorem lw_p66 : lw_okq (⟨"PartFormulasModel", "printStatement", "(I)V"⟩, 36) := ⟨⟨by decide +kernel, by decide +kernel⟩, List.mem_of_getElem? (i := 837) (by decide +kernel), List.mem_of_getElem? (i := 1183) (by decide +kernel), List.mem_of_getElem? (i := 1184) (by decide +kernel)⟩
theorem lw_p67 : lw_okq (⟨"PartFormulasModel", "addCell", "(I)V"⟩, 36) := ⟨⟨by decide +kernel, by decide +kernel⟩, List.mem_of_getElem? (i := 837) (by decide +kernel), List.mem_of_getElem? (i := 1187) (by decide +kernel), List.mem_of_getElem? (i := 1188) (by decide +kernel)⟩
theorem lw_p68 : lw_okq (⟨"PartFormulasModel", "printSign", "(III)I"⟩, 36) := ⟨⟨by decide +kernel, by decide +kernel⟩, List.mem_of_getElem? (i := 837) (by decide +kernel), List.mem_of_getElem? (i := 1194) (by decide +kernel), List.mem_of_getElem? (i := 1195) (by decide +kernel)⟩
theorem lw_p69 : lw_okq (⟨"PartFormulasModel", "addNumber", "(I)V"⟩, 36) := ⟨⟨by decide +kernel, by decide +kernel⟩, List.mem_of_getElem? (i := 837) (by decide +kernel), List.mem_of_getElem? (i := 1198) (by decide +kernel), List.mem_of_getElem? (i := 1199) (by decide +kernel)⟩
theorem lw_p70 : lw_okq (⟨"PartFormulasModel", "addWhole", "(I)V"⟩, 36) := ⟨⟨by decide +kernel, by decide +kernel⟩, List.mem_of_getElem? (i := 837) (by decide +kernel), List.mem_of_getElem? (i := 1202) (by decide +kernel), List.mem_of_getElem? (i := 1203) (by decide +kernel)⟩
theorem lw_p71 : lw_okq (⟨"PartFormulasModel", "enclose", "(I)V"⟩, 36) := ⟨⟨by decide +kernel, by decide +kernel⟩, List.mem_of_getElem? (i := 837) (by decide +kernel), List.mem_of_getElem? (i := 1206) (by decide +kernel), List.mem_of_getElem? (i := 1207) (by decide +kernel)⟩
theorem lw_p72 : lw_okq (⟨"PartFormulasModel", "insert", "(II)V"⟩, 36) := ⟨⟨by decide +kernel, by decide +kernel⟩, List.mem_of_getElem? (i := 837) (by decide +kernel), List.mem_of_getElem? (i := 1210) (by decide +kernel), List.mem_of_getElem? (i := 1211) (by decide +kernel)⟩
def lw_privs_5 : List (MethodName × Nat) := [(⟨"PartFormulasModel", "noWork", "()Z"⟩, 36), (⟨"PartFormulasModel", "add", "(I)V"⟩, 36), (⟨"PartFormulasModel", "printStatement", "(I)V"⟩, 36), (⟨"PartFormulasModel", "addCell", "(I)V"⟩, 36), (⟨"PartFormulasModel", "printSign", "(III)I"⟩, 36), (⟨"PartFormulasModel", "addNumber", "(I)V"⟩, 36), (⟨"PartFormulasModel", "addWhole", "(I)V"⟩, 36), (⟨"PartFormulasModel", "enclose", "(I)V"⟩, 36), (⟨"PartFormulasModel", "insert", "(II)V"⟩, 36)]
theorem lw_r5 : ∀ q ∈ lw_privs_5, lw_okq q := List.forall_mem_cons.mpr ⟨lw_p64, List.forall_mem_cons.mpr ⟨lw_p65, List.forall_mem_cons.mpr ⟨lw_p66, List.forall_mem_cons.mpr ⟨lw_p67, List.forall_mem_cons.mpr ⟨lw_p68, List.forall_mem_cons.mpr ⟨lw_p69, List.forall_mem_cons.mpr ⟨lw_p70, List.forall_mem_cons.mpr ⟨lw_p71, List.forall_mem_cons.mpr ⟨lw_p72, fun _ h => absurd h List.not_mem_nil⟩⟩⟩⟩⟩⟩⟩⟩⟩
def lw_privs : List (MethodName × Nat) := lw_privs_1 ++ (lw_privs_2 ++ (lw_privs_3 ++ (lw_privs_4 ++ (lw_privs_5))))
def lw_tbl : List Cond := k2_sels lw_privs ++ tables_1
theorem lw_privs_ok : ∀ q ∈ lw_privs, lw_okq q := by
  show ∀ q ∈ lw_privs_1 ++ (lw_privs_2 ++ (lw_privs_3 ++ (lw_privs_4 ++ (lw_privs_5)))), lw_okq q
  exact List.forall_mem_append.mpr ⟨lw_r1, List.forall_mem_append.mpr ⟨lw_r2, List.forall_mem_append.mpr ⟨lw_r3, List.forall_mem_append.mpr ⟨lw_r4, lw_r5⟩⟩⟩⟩
end
section
/-! WORDS: the good ones of the tables; a callee's words among them -/
def wsAll : List Cond := lw_tbl.filter goodWord
theorem gd_all : ∀ w ∈ wsAll, (w.onTables && w.keeps) = true ∨ ∃ ty, w = .arrayClass ty := fun _ h => good_of_word (List.mem_filter.mp h).2
theorem wsAll_tbl : ∀ w ∈ wsAll, w ∈ lw_tbl := fun _ h => (List.mem_filter.mp h).1
theorem wa_of {w : Cond} (i : Nat) (h : lw_tbl[i]? = some w) (g : goodWord w = true) : w ∈ wsAll := List.mem_filter.mpr ⟨List.mem_of_getElem? h, g⟩
theorem gd_in {ws : List Cond} (h : ∀ w ∈ ws, w ∈ wsAll) : GoodIn wsAll ws := fun w hw => ⟨h w hw, gd_all w (h w hw)⟩
theorem gd_C {n : Nat} {y : MethodName} {b : ByteArray} {r : Option FieldType} (h5 : Cond.code y b n r ∈ wsAll) : GoodIn wsAll (Cond.code y b n r :: wsAll) := gd_in fun w hw => (List.mem_cons.mp hw).elim (fun e => by rw [e]; exact h5) id
theorem gd_V {own C : String} {idx n : Nat} {y : MethodName} {b : ByteArray} {r : Option FieldType} (h1 : Cond.methodLink own idx y ∈ wsAll) (h2 : Cond.instanceMethod y ∈ wsAll) (h3 : Cond.selects C y y ∈ wsAll) (h4 : Cond.initialized C ∈ wsAll) (h5 : Cond.code y b n r ∈ wsAll) : GoodIn wsAll (wsV own idx C y (Cond.code y b n r :: wsAll)) := by
  refine gd_in fun w hw => ?_
  simp only [wsV, List.cons_append, List.nil_append, List.mem_cons] at hw
  rcases hw with rfl | rfl | rfl | rfl | rfl | hw
  · exact h1
  · exact h2
  · exact h3
  · exact h4
  · exact h5
  · exact hw
theorem gd_S {own : String} {idx n : Nat} {y : MethodName} {b : ByteArray} {r : Option FieldType} (h1 : Cond.methodLink own idx y ∈ wsAll) (h2 : Cond.static y ∈ wsAll) (h4 : Cond.initialized own ∈ wsAll) (h5 : Cond.code y b n r ∈ wsAll) : GoodIn wsAll (wsS own idx y (Cond.code y b n r :: wsAll)) := by
  refine gd_in fun w hw => ?_
  simp only [wsS, List.cons_append, List.nil_append, List.mem_cons] at hw
  rcases hw with rfl | rfl | rfl | rfl | hw
  · exact h1
  · exact h2
  · exact h4
  · exact h5
  · exact hw
theorem gd_T {own : String} {idx n : Nat} {y : MethodName} {b : ByteArray} {r : Option FieldType} (h1 : Cond.methodLink own idx y ∈ wsAll) (h2 : Cond.static y ∈ wsAll) (h4 : Cond.initialized y.cls ∈ wsAll) (h5 : Cond.code y b n r ∈ wsAll) : GoodIn wsAll (va_wsS own idx y (Cond.code y b n r :: wsAll)) := by
  refine gd_in fun w hw => ?_
  simp only [va_wsS, List.cons_append, List.nil_append, List.mem_cons] at hw
  rcases hw with rfl | rfl | rfl | rfl | hw
  · exact h1
  · exact h2
  · exact h4
  · exact h5
  · exact hw
/-! NEST LINKS: they are no words; every contract carries them -/
def nx (U : State) : Prop := va_Nw (Cond.methodLinkNest "PartFormulas" 11 ⟨"PartFormulas$Reader", "<init>", "()V"⟩ "PartFormulas") U ∧ va_Nw (Cond.methodLinkNest "PartFormulas$Reader" 28 ⟨"PartFormulas$Text", "<init>", "()V"⟩ "PartFormulas") U ∧ va_Nw (Cond.methodLinkNest "PartFormulas$Text" 21 ⟨"PartFormulas$Steps", "<init>", "()V"⟩ "PartFormulas") U ∧ va_Nw (Cond.methodLinkNest "PartFormulas" 18 ⟨"PartFormulas$Text", "<init>", "()V"⟩ "PartFormulas") U ∧ va_Nw (Cond.methodLinkNest "PartFormulas" 39 ⟨"PartFormulas$Cells", "<init>", "()V"⟩ "PartFormulas") U ∧ va_Nw (Cond.methodLinkNest "PartFormulas$Reckoner" 31 ⟨"PartFormulas", "commonDivisor", "(JJ)J"⟩ "PartFormulas") U
theorem nx_warm {s U : State} (hW : s.WarmedH U.vm) (h : nx s) : nx U := ⟨va_Nw.warmM hW h.1, va_Nw.warmM hW h.2.1, va_Nw.warmM hW h.2.2.1, va_Nw.warmM hW h.2.2.2.1, va_Nw.warmM hW h.2.2.2.2.1, va_Nw.warmM hW h.2.2.2.2.2⟩
theorem nx_call (a : Array Value) (U : State) (g : JFrame) (mk : MethodId) (h : nx U) : nx (U.calling g mk a) := ⟨va_Nw.same (u := U) (U := U.calling g mk a) rfl rfl h.1, va_Nw.same (u := U) (U := U.calling g mk a) rfl rfl h.2.1, va_Nw.same (u := U) (U := U.calling g mk a) rfl rfl h.2.2.1, va_Nw.same (u := U) (U := U.calling g mk a) rfl rfl h.2.2.2.1, va_Nw.same (u := U) (U := U.calling g mk a) rfl rfl h.2.2.2.2.1, va_Nw.same (u := U) (U := U.calling g mk a) rfl rfl h.2.2.2.2.2⟩
end
section
/-! BLOCKS: a method's world is a row of blocks (an object and the arrays that it owns); what an object holds is a pair of tables (ints, longs), by the number of the field and the place -/
/-- what an object holds: ints (also booleans and chars) and longs; a plain field lies at place 0 -/
abbrev Ob : Type := (Nat → Nat → Int32) × (Nat → Nat → Int64)
def g32 (o : Ob) (k i : Nat) : Int32 := o.1 k i
def g64 (o : Ob) (k i : Nat) : Int64 := o.2 k i
def s32 (o : Ob) (k i : Nat) (v : Int32) : Ob := (fun r => if r = k then upd (o.1 r) i v else o.1 r, o.2)
def s64 (o : Ob) (k i : Nat) (v : Int64) : Ob := (o.1, fun r => if r = k then vp_updL (o.2 r) i v else o.2 r)
/-- a row of ints (longs) of an object, as it is copied from another one -/
def p32 (o : Ob) (k : Nat) (f : Nat → Int32) : Ob := (fun r => if r = k then f else o.1 r, o.2)
def p64 (o : Ob) (k : Nat) (f : Nat → Int64) : Ob := (o.1, fun r => if r = k then f else o.2 r)
def b2i (b : Bool) : Int32 := bif b then 1 else 0
theorem b2i_0 {b : Bool} : b2i b = 0 ↔ b = false := by cases b <;> simp [b2i]
theorem b2i_nar (b : Bool) : narrow .boolean (.int (b2i b)) = .int (b2i b) := by cases b <;> rfl
theorem b2i_fit (b : Bool) : fits .boolean (.int (b2i b)) = true := by cases b <;> rfl
/-- a place is inside -/
def inb (i : Int32) (n : Nat) : Bool := decide (0 ≤ i) && decide (i.toNatClampNeg < n)
theorem inb_in {i : Int32} {n : Nat} (h : inb i n = true) : vp_in i n := by
  simp only [inb, Bool.and_eq_true, decide_eq_true_eq] at h
  intro q
  rcases q with q | q
  · exact absurd h.1 (Int32.not_le.mpr q)
  · omega
theorem inb_of {i : Int32} {n : Nat} (h : vp_in i n) : inb i n = true := by
  simp only [inb, Bool.and_eq_true, decide_eq_true_eq]
  exact ⟨Int32.not_lt.mp fun q => h (Or.inl q), Nat.not_le.mp fun q => h (Or.inr q)⟩
theorem inb_nI {n N : Nat} (h : n < N) (hN : N < 2 ^ 31) : inb (nI n) N = true := inb_of (vp_in_nI h hN)
/-- a check ahead of a use -/
def chk {α : Type} (b : Bool) (x : Option α) : Option α := bif b then x else none
theorem chk_some {α : Type} {b : Bool} {x : Option α} {r : α} (h : chk b x = some r) : b = true ∧ x = some r := by
  cases b with
  | false => cases h
  | true => exact ⟨rfl, h⟩
theorem chk_t {α : Type} (x : Option α) : chk true x = x := rfl
theorem bind_some {α β : Type} {x : Option α} {f : α → Option β} {r : β} (h : x.bind f = some r) : ∃ y, x = some y ∧ f y = some r := by
  cases x with
  | none => cases h
  | some y => exact ⟨y, rfl, h⟩
def bw_P (D : va_G) (cl : List vw_C) (L : List va_W) (H : Heap) : Prop := ∀ (i : Nat) (B : va_W), L[i]? = some B → va_P D cl B H
/-- the addresses of the blocks -/
def bw_ad (L : List va_W) : List (List Nat) := L.map (fun B => B.map (·.1))
/-- apart, and of a kind -/
def bw_N (A : Nat → Prop) (L : List (List Nat)) : Prop :=
  (∀ (i j k k' : Nat) (X Y : List Nat) (a : Nat), L[i]? = some X → L[j]? = some Y → X[k]? = some a → Y[k']? = some a → i = j ∧ k = k') ∧ ∀ (i k : Nat) (X : List Nat) (a : Nat), L[i]? = some X → X[k]? = some a → A a
/-- which cells a method may change: its blocks', and those that it makes -/
def bw_A (L : List (List Nat)) (sz : Nat) : Nat → Prop := fun q => (∃ (i k : Nat) (X : List Nat), L[i]? = some X ∧ X[k]? = some q) ∨ sz ≤ q
theorem bw_ad_at {L : List va_W} {i : Nat} {B : va_W} (h : L[i]? = some B) : (bw_ad L)[i]? = some (B.map (·.1)) := by
  simp [bw_ad, h]
theorem bw_at_ad {L : List va_W} {i : Nat} {X : List Nat} (h : (bw_ad L)[i]? = some X) : ∃ B, L[i]? = some B ∧ B.map (·.1) = X := by
  simp only [bw_ad, List.getElem?_map, Option.map_eq_some_iff] at h
  exact h
theorem bw_fst {B : va_W} {k : Nat} {q : Nat × va_E} (h : B[k]? = some q) : (B.map (·.1))[k]? = some q.1 := by
  simp [h]
theorem bw_fst' {B : va_W} {k a : Nat} (h : (B.map (·.1))[k]? = some a) : ∃ e, B[k]? = some (a, e) := by
  simp only [List.getElem?_map, Option.map_eq_some_iff] at h
  obtain ⟨q, h1, h2⟩ := h
  exact ⟨q.2, by rw [h1, ← h2]⟩
theorem bw_N.self {A : Nat → Prop} {L : List (List Nat)} (h : bw_N A L) (sz : Nat) : bw_N (bw_A L sz) L := ⟨h.1, fun i k X a h1 h2 => Or.inl ⟨i, k, X, h1, h2⟩⟩
theorem bw_N.weaken {A B : Nat → Prop} {L : List (List Nat)} (h : bw_N A L) (hAB : ∀ q, A q → B q) : bw_N B L := ⟨h.1, fun i k X a h1 h2 => hAB a (h.2 i k X a h1 h2)⟩
theorem bw_N.D {A : Nat → Prop} {L : List va_W} (h : bw_N A (bw_ad L)) {i : Nat} {B : va_W} (hB : L[i]? = some B) : va_D A B :=
  ⟨fun x y p q hx hy e => (h.1 i i x y _ _ p.1 (bw_ad_at hB) (bw_ad_at hB) (bw_fst hx) (by rw [e]; exact bw_fst hy)).2, fun k q hk => h.2 i k _ q.1 (bw_ad_at hB) (bw_fst hk)⟩
theorem bw_N.sub {A : Nat → Prop} {L L' : List (List Nat)} (h : bw_N A L) (is : List Nat) (hn : va_nd is = true) (hs : is.map (fun i => L[i]?) = L'.map some) : bw_N A L' := by
  have at' : ∀ (k : Nat) (X : List Nat), L'[k]? = some X → ∃ i, is[k]? = some i ∧ L[i]? = some X := by
    intro k X hX
    have h1 : (is.map (fun i => L[i]?))[k]? = some (some X) := by rw [hs, List.getElem?_map, hX]; rfl
    rw [List.getElem?_map] at h1
    cases hi : is[k]? with
    | none => rw [hi] at h1; cases h1
    | some i => rw [hi] at h1; exact ⟨i, rfl, Option.some.inj h1⟩
  refine ⟨fun i j k k' X Y a hX hY hk hk' => ?_, fun i k X a hX hk => ?_⟩
  · obtain ⟨i', h1, h2⟩ := at' i X hX
    obtain ⟨j', h3, h4⟩ := at' j Y hY
    obtain ⟨e1, e2⟩ := h.1 i' j' k k' X Y a h2 h4 hk hk'
    subst e1
    exact ⟨va_nd_inj is hn i j i' h1 h3, e2⟩
  · obtain ⟨i', h1, h2⟩ := at' i X hX
    exact h.2 i' k X a h2 hk
theorem bw_P.sub {D : va_G} {cl : List vw_C} {L L' : List va_W} {H : Heap} (h : bw_P D cl L H) (is : List Nat) (hs : is.map (fun i => L[i]?) = L'.map some) : bw_P D cl L' H := by
  intro k X hX
  have h1 : (is.map (fun i => L[i]?))[k]? = some (some X) := by rw [hs, List.getElem?_map, hX]; rfl
  rw [List.getElem?_map] at h1
  cases hi : is[k]? with
  | none => rw [hi] at h1; cases h1
  | some i => rw [hi] at h1; exact h i X (Option.some.inj h1)
theorem bw_P.set {D : va_G} {cl : List vw_C} {A : Nat → Prop} {L : List va_W} {i0 q0 a : Nat} {B : va_W} {e0 e : va_E} {H H1 : Heap} (hP : bw_P D cl L H) (hN : bw_N A (bw_ad L)) (hB : L[i0]? = some B) (ha : B[q0]? = some (a, e0)) (he : va_at D cl (a, e) H1) (oq : ∀ q : Nat, q ≠ a → H1[q]? = H[q]?) : bw_P D cl (L.set i0 (B.set q0 (a, e))) H1 := by
  have hl := (List.getElem?_eq_some_iff.mp hB).1
  intro k X hX
  by_cases hk : k = i0
  · subst hk
    rw [List.getElem?_set_self hl] at hX
    cases hX
    exact (hP k B hB).set (hN.D hB) ha he oq
  · rw [List.getElem?_set_ne (Ne.symm hk)] at hX
    refine (hP k X hX).kept (fun j q hq => oq q.1 (fun z => hk ?_))
    exact (hN.1 k i0 j q0 _ _ a (bw_ad_at hX) (bw_ad_at hB) (by rw [← z]; exact bw_fst hq) (bw_fst ha)).1
/-- behind a call: the callee's blocks come back in their places -/
def bw_mg (L : List va_W) : List Nat → List va_W → List va_W
  | i :: is, B :: Bs => (bw_mg L is Bs).set i B
  | _, _ => L
theorem bw_mg_at {L : List va_W} : ∀ (is : List Nat) (Bs : List va_W) (k : Nat) (X : va_W), is.length = Bs.length → (bw_mg L is Bs)[k]? = some X → (k ∉ is ∧ L[k]? = some X) ∨ ∃ j : Nat, is[j]? = some k ∧ Bs[j]? = some X
  | [], [], k, X, _, h => Or.inl ⟨List.not_mem_nil, h⟩
  | [], _ :: _, _, _, hl, _ => by cases hl
  | _ :: _, [], _, _, hl, _ => by cases hl
  | i :: is, B :: Bs, k, X, hl, h => by
    have hl' : is.length = Bs.length := by simpa using hl
    rw [show bw_mg L (i :: is) (B :: Bs) = (bw_mg L is Bs).set i B from rfl] at h
    by_cases hk : i = k
    · subst hk
      right
      refine ⟨0, rfl, ?_⟩
      by_cases hlt : i < (bw_mg L is Bs).length
      · rw [List.getElem?_set_self hlt] at h
        simpa using h
      · rw [List.getElem?_eq_none (by rw [List.length_set]; omega)] at h
        cases h
    · rw [List.getElem?_set_ne hk] at h
      rcases bw_mg_at is Bs k X hl' h with ⟨h1, h2⟩ | ⟨j, h1, h2⟩
      · exact Or.inl ⟨fun hm => by rcases List.mem_cons.mp hm with e | e; exact hk e.symm; exact h1 e, h2⟩
      · exact Or.inr ⟨j + 1, by simpa using h1, by simpa using h2⟩
theorem bw_join {A0 : Nat → Prop} {D : va_G} {cl : List vw_C} {L Lc Lc' : List va_W} {H H1 : Heap} (hP : bw_P D cl L H) (hN : bw_N A0 (bw_ad L)) (isC : List Nat) (hC : isC.map (fun i => L[i]?) = Lc.map some) (hlen : Lc.length = Lc'.length)
    (hk : ∀ q : Nat, q < H.size → ¬ bw_A (bw_ad Lc) H.size q → H1[q]? = H[q]?) (hP1 : bw_P D cl Lc' H1) : bw_P D cl (bw_mg L isC Lc') H1 := by
  have hl : isC.length = Lc'.length := by
    have := congrArg List.length hC
    simp only [List.length_map] at this
    omega
  intro k X hX
  rcases bw_mg_at isC Lc' k X hl hX with ⟨h1, h2⟩ | ⟨j, h1, h2⟩
  · refine (hP k X h2).kept (fun x q hq => hk q.1 ((hP k X h2) x q hq).lt ?_)
    intro hA
    rcases hA with ⟨i, k2, Y, hY, hq2⟩ | hA
    · obtain ⟨B, hB, hBY⟩ := bw_at_ad hY
      have h3 : (isC.map (fun i => L[i]?))[i]? = some (some B) := by rw [hC, List.getElem?_map, hB]; rfl
      rw [List.getElem?_map] at h3
      cases hi : isC[i]? with
      | none => rw [hi] at h3; cases h3
      | some i' =>
        rw [hi] at h3
        have h4 : L[i']? = some B := Option.some.inj h3
        subst hBY
        have := (hN.1 k i' x k2 _ _ q.1 (bw_ad_at h2) (bw_ad_at h4) (bw_fst hq) hq2).1
        subst this
        exact h1 (List.mem_of_getElem? hi)
    · have := ((hP k X h2) x q hq).lt
      omega
  · exact hP1 j X h2
/-- a method's start and end, by blocks -/
def bw_Pc (av : List Value) (D : va_G) (cl : List vw_C) (tys : List (ClassId × FieldType)) (L : List va_W) (sz : Nat) (X : State → Prop) : Array Value → State → Prop := fun v U => v = av.toArray ∧ U.heap.size = sz ∧ bw_P D cl L U.heap ∧ va_K D cl tys U ∧ bw_N (fun _ => True) (bw_ad L) ∧ X U
/-- the end of a method that only reads -/
def bw_QR (v : Option Value) : Array Value → State → Outcome → State → Prop := fun _ st oc t => oc = .returned v ∧ t.heap = st.heap
def bw_Q (D : va_G) (cl : List vw_C) (v : Option Value) (L : List va_W) (A : Nat → Prop) : Array Value → State → Outcome → State → Prop := fun _ st oc t => oc = .returned v ∧ bw_P D cl L t.heap ∧ va_F A st t
section BWR
variable {p : Program} {l : Launch} {e : Env} {R : Room} {s : State} {m : MethodId} {args : Array Value} {below : List Frame} {meth : Method} {c : Code} {H : Heap} {locs : List Loc} {cells slots : Nat} {Q : State → Prop}
variable {cc : ByteArray} {pc : Nat} {ls : Array Slot} {rest : List Value} {D : va_G} {cl : List vw_C} {A : Nat → Prop} {a : Nat} {tys : List (ClassId × FieldType)} {L : List va_W} {H0 : Heap}
theorem bw_put (hexec : p.tables.exec = Jvm.exec) (hb : c.code = cc) {own ref C : String} {T : u_T} {N ci index : Nat} {Ts : List Cond} (hts : ∀ w ∈ Ts, w.before args s = true) (hin : ∀ w ∈ u_ws C T N, w ∈ Ts) (ty0 : Nat → FieldType) (hty : ∀ k, k < N → parseFieldDescriptor (T k).2.2.1 = some (ty0 k)) (hnm : ∀ a, a < N → ∀ b, b < N → a ≠ b → (T a).2.1 ≠ (T b).2.1) (hown : s.vm.findClass own = some m.cls) (hK : va_K D cl tys s) (hP : bw_P D cl L H) (hN : bw_N A (bw_ad L)) (hS0 : va_S A H0 H locs) (i0 q0 : Nat) {B : va_W} (hB : L[i0]? = some B) {fs : List Value} (he : B[q0]? = some (a, .inr (ci, fs))) (hc : cl[ci]? = some (C, T, N)) (k : Nat) (hk : k < N) (hlink : (Cond.fieldLink own index ref (T k).2.1 (T k).2.2.1).before args s = true) (hsame : ∀ x, s.fieldFound? (T k).1 (T k).2.1 (T k).2.2.1 = some x → s.fieldFound? ref (T k).2.1 (T k).2.2.1 = some x) (hfin : (T k).2.2.2 = false) {ty : FieldType} {v : Value} (hd : parseFieldDescriptor (T k).2.2.1 = some ty) (hn : narrow ty v = v) (hfit : fits ty v = true) (hl : k < fs.length)
    (hdg : decode cc pc = .ok (.putfield index, 3)) (kk : ∀ (H1 : Heap) (locs1 : List Loc), bw_P D cl (L.set i0 (B.set q0 (a, .inr (ci, fs.set k v)))) H1 → va_S A H0 H1 locs1 → W p l e R s m args below meth c H1 locs1 cells slots Q (F0 m (pc + 3) ls rest)) : W p l e R s m args below meth c H locs cells slots Q (F0 m pc ls (v :: .ref a :: rest)) := by
  have hap := va_apart (own := own) hts hin ty0 hty hnm hK hc
  obtain ⟨r, h1, cell, q1, q2, q3, q4⟩ := hP i0 B hB q0 _ he
  have hr : r = (C, T, N) := Option.some.inj (h1.symm.trans hc)
  subst hr
  obtain ⟨hS, hfc, kC, hkC, hkind⟩ := hK.1 ci _ hc
  obtain ⟨cf, kf, fi, f, hi, hsl⟩ := hS k hk
  have hlay := hts _ (hin _ (u_in_lay hk))
  unfold u_lay at hlay
  rw [if_neg (by rw [hfin]; decide)] at hlay
  have hst := (u_facts hfc hkC (u_lays hts hin hk) hi).1
  have h6 := u_store hfc hkC hkind hlay hi hd hn hfit
  refine W.putK hexec hb (f := f) ⟨hown, hlink, ⟨_, _, _, hsame _ hi⟩, hst⟩ (by rw [q2]; exact h6) q1 q3 (by rw [hsl]; exact k2_hasslot (q4 k hk)) rfl rfl hdg fun H' e1 e2 e3 => ?_
  rw [hsl] at e1 ⊢
  exact kk H' _ (hP.set hN hB he ⟨_, hc, t_OB.to (V := updV (vp_V fs) k v) ⟨_, e1, q2, q3, t_set q4 hap hk v⟩ (fun j _ => vp_updV_set hl v j)⟩ e3) (hS0.put e2 e3 ((hN.D hB).2 q0 _ he))
theorem bw_iast (hexec : p.tables.exec = Jvm.exec) (hb : c.code = cc) (hK : va_K D cl tys s) (hP : bw_P D cl L H) (hN : bw_N A (bw_ad L)) (hS : va_S A H0 H locs) (i0 q0 t0 : Nat) {B : va_W} (hB : L[i0]? = some B) {cA : ClassId} {n : Nat} {f : Nat → Int32} (ha : B[q0]? = some (a, .inl (cA, n, .inl f))) (ht : tys[t0]? = some (cA, .int)) {i : Int32} {x : Int32} (hin : vp_in i n) (hdg : decode cc pc = .ok (.iastore, 1))
    (kk : ∀ (H1 : Heap) (locs1 : List Loc), bw_P D cl (L.set i0 (B.set q0 (a, .inl (cA, n, .inl (upd f i.toNatClampNeg x))))) H1 → va_S A H0 H1 locs1 → W p l e R s m args below meth c H1 locs1 cells slots Q (F0 m (pc + 1) ls rest)) : W p l e R s m args below meth c H locs cells slots Q (F0 m pc ls (.int x :: .int i :: .ref a :: rest)) := by
  refine W.iast hexec hb (hP i0 B hB q0 _ ha) ((hK.2 t0 _ ht).1 n (fun j => .int (f j))) (fun q => by cases q) (by show ¬ (i < 0 ∨ (arrV _ _ _).slots.size ≤ _); rw [arrV_size]; exact hin) rfl rfl hdg fun H1 e z oq => ?_
  refine kk H1 _ (hP.set hN hB ha ?_ oq) (hS.put z oq ((hN.D hB).2 q0 _ ha))
  show H1[a]? = some (vp_cell _ _)
  rw [e, vp_cell_i, vp_cell_i, arrV_store]
  congr 2
  funext q
  by_cases hq : q = i.toNatClampNeg
  · subst hq
    simp [updV, upd]
  · simp [updV, upd, hq]
theorem bw_cast (hexec : p.tables.exec = Jvm.exec) (hb : c.code = cc) (hK : va_K D cl tys s) (hP : bw_P D cl L H) (hN : bw_N A (bw_ad L)) (hS : va_S A H0 H locs) (i0 q0 t0 : Nat) {B : va_W} (hB : L[i0]? = some B) {cA : ClassId} {n : Nat} {f : Nat → Int32} (ha : B[q0]? = some (a, .inl (cA, n, .inl f))) (ht : tys[t0]? = some (cA, .char)) {i : Int32} {x : Int32} (hin : vp_in i n) (hdg : decode cc pc = .ok (.castore, 1))
    (kk : ∀ (H1 : Heap) (locs1 : List Loc), bw_P D cl (L.set i0 (B.set q0 (a, .inl (cA, n, .inl (upd f i.toNatClampNeg (vp_nar .char x)))))) H1 → va_S A H0 H1 locs1 → W p l e R s m args below meth c H1 locs1 cells slots Q (F0 m (pc + 1) ls rest)) : W p l e R s m args below meth c H locs cells slots Q (F0 m pc ls (.int x :: .int i :: .ref a :: rest)) := by
  refine W.cast hexec hb (hP i0 B hB q0 _ ha) ((hK.2 t0 _ ht).1 n (fun j => .int (f j))) (fun q => by cases q) (by show ¬ (i < 0 ∨ (arrV _ _ _).slots.size ≤ _); rw [arrV_size]; exact hin) rfl rfl hdg fun H1 e z oq => ?_
  refine kk H1 _ (hP.set hN hB ha ?_ oq) (hS.put z oq ((hN.D hB).2 q0 _ ha))
  show H1[a]? = some (vp_cell _ _)
  rw [e, vp_cell_i, vp_cell_i, arrV_store]
  congr 2
  funext q
  by_cases hq : q = i.toNatClampNeg
  · subst hq
    simp [updV, upd, vp_nar]
    try rfl
  · simp [updV, upd, hq]
theorem bw_zast (hexec : p.tables.exec = Jvm.exec) (hb : c.code = cc) (hK : va_K D cl tys s) (hP : bw_P D cl L H) (hN : bw_N A (bw_ad L)) (hS : va_S A H0 H locs) (i0 q0 t0 : Nat) {B : va_W} (hB : L[i0]? = some B) {cA : ClassId} {n : Nat} {f : Nat → Int32} (ha : B[q0]? = some (a, .inl (cA, n, .inl f))) (ht : tys[t0]? = some (cA, .boolean)) {i : Int32} {x : Int32} (hin : vp_in i n) (hdg : decode cc pc = .ok (.bastore, 1))
    (kk : ∀ (H1 : Heap) (locs1 : List Loc), bw_P D cl (L.set i0 (B.set q0 (a, .inl (cA, n, .inl (upd f i.toNatClampNeg (vp_nar .boolean x)))))) H1 → va_S A H0 H1 locs1 → W p l e R s m args below meth c H1 locs1 cells slots Q (F0 m (pc + 1) ls rest)) : W p l e R s m args below meth c H locs cells slots Q (F0 m pc ls (.int x :: .int i :: .ref a :: rest)) := by
  refine W.zast hexec hb (hP i0 B hB q0 _ ha) ((hK.2 t0 _ ht).1 n (fun j => .int (f j))) (fun q => by cases q) (by show ¬ (i < 0 ∨ (arrV _ _ _).slots.size ≤ _); rw [arrV_size]; exact hin) rfl rfl hdg fun H1 e z oq => ?_
  refine kk H1 _ (hP.set hN hB ha ?_ oq) (hS.put z oq ((hN.D hB).2 q0 _ ha))
  show H1[a]? = some (vp_cell _ _)
  rw [e, vp_cell_i, vp_cell_i, arrV_store]
  congr 2
  funext q
  by_cases hq : q = i.toNatClampNeg
  · subst hq
    simp [updV, upd, vp_nar]
    try rfl
  · simp [updV, upd, hq]
theorem bw_last (hexec : p.tables.exec = Jvm.exec) (hb : c.code = cc) (hK : va_K D cl tys s) (hP : bw_P D cl L H) (hN : bw_N A (bw_ad L)) (hS : va_S A H0 H locs) (i0 q0 t0 : Nat) {B : va_W} (hB : L[i0]? = some B) {cA : ClassId} {n : Nat} {f : Nat → Int64} (ha : B[q0]? = some (a, .inl (cA, n, .inr (.inl f)))) (ht : tys[t0]? = some (cA, .long)) {i : Int32} {x : Int64} (hin : vp_in i n) (hdg : decode cc pc = .ok (.lastore, 1))
    (kk : ∀ (H1 : Heap) (locs1 : List Loc), bw_P D cl (L.set i0 (B.set q0 (a, .inl (cA, n, .inr (.inl (vp_updL f i.toNatClampNeg x)))))) H1 → va_S A H0 H1 locs1 → W p l e R s m args below meth c H1 locs1 cells slots Q (F0 m (pc + 1) ls rest)) : W p l e R s m args below meth c H locs cells slots Q (F0 m pc ls (.long x :: .int i :: .ref a :: rest)) := by
  refine W.last hexec hb (hP i0 B hB q0 _ ha) ((hK.2 t0 _ ht).1 n (fun j => .long (f j))) (fun q => by cases q) (by show ¬ (i < 0 ∨ (arrV _ _ _).slots.size ≤ _); rw [arrV_size]; exact hin) rfl rfl hdg fun H1 e z oq => ?_
  refine kk H1 _ (hP.set hN hB ha ?_ oq) (hS.put z oq ((hN.D hB).2 q0 _ ha))
  show H1[a]? = some (vp_cell _ _)
  rw [e, vp_cell_l, vp_cell_l, arrV_store]
  congr 2
  funext q
  by_cases hq : q = i.toNatClampNeg
  · subst hq
    simp [updV, vp_updL]
  · simp [updV, vp_updL, hq]
/-- a call that returns: the callee's blocks (places isC) come back as Lc' -/
theorem bw_call {st0 : List Value} {v : Option Value} {Lc Lc' L' : List va_W} {a : Array Value} {mc ms : Nat} (isC : List Nat) (hr : va_Run p l e R s m args below meth c H locs cells slots mc ms (F0 m pc ls st0) rest (bw_Q D cl v Lc' (bw_A (bw_ad Lc) H.size) a) (bw_A (bw_ad Lc) H.size))
    (hP : bw_P D cl L H) (hN : bw_N A (bw_ad L)) (hS : va_S A H0 H locs) (hA : ∀ q, H0.size ≤ q → A q) (hC : isC.map (fun i => L[i]?) = Lc.map some) (hlen : Lc.length = Lc'.length) (hL' : bw_mg L isC Lc' = L')
    (kk : ∀ (H1 : Heap) (locs1 : List Loc), bw_P D cl L' H1 → va_S A H0 H1 locs1 → W p l e R s m args below meth c H1 locs1 (cells + mc) (slots + ms) Q (F0 m (pc + 3) ls (v.toList ++ rest))) : W p l e R s m args below meth c H locs cells slots Q (F0 m pc ls st0) := by
  have hfree : ∀ q, bw_A (bw_ad Lc) H.size q → A q := by
    intro q hq
    rcases hq with ⟨i, k, X, hX, hk⟩ | hq
    · obtain ⟨B, hB, rfl⟩ := bw_at_ad hX
      have h3 : (isC.map (fun i => L[i]?))[i]? = some (some B) := by rw [hC, List.getElem?_map, hB]; rfl
      rw [List.getElem?_map] at h3
      cases hi : isC[i]? with
      | none => rw [hi] at h3; cases h3
      | some i' =>
        rw [hi] at h3
        exact hN.2 i' k _ q (bw_ad_at (Option.some.inj h3)) hk
    · exact hA q (Nat.le_trans hS.1 hq)
  intro T hT X
  obtain ⟨v', st₀, t, T', Lo, h0, X', hL, e1, e2, ⟨hv, hP1, hz, hk⟩, st⟩ := hr T hT X
  cases hv
  rw [h0] at hz hk
  subst hL'
  obtain ⟨t2, a1, b1⟩ := kk T'.heap (locs ++ Lo) (by rw [e1]; exact bw_join hP hN isC hC hlen (fun q h1 h2 => hk q h1 h2) hP1)
    ⟨Nat.le_trans hS.1 (by rw [e1]; exact hz), fun q h1 h2 => by rw [e1, hk q (Nat.lt_of_lt_of_le h1 hS.1) (fun z => h2 (hfree q z))]; exact hS.2.1 q h1 h2, fun q hq => by
      rcases List.mem_append.mp hq with h | h
      · exact hS.2.2 q h
      · exact hfree _ (hL q h)⟩ T' rfl X'
  exact ⟨t2, st t2 a1, b1⟩
/-- a call of a method that only reads -/
theorem bw_callR {st0 : List Value} {v : Option Value} {a : Array Value} (hr : va_Run p l e R s m args below meth c H locs cells slots 0 0 (F0 m pc ls st0) rest (bw_QR v a) (fun _ => False))
    (kk : W p l e R s m args below meth c H locs cells slots Q (F0 m (pc + 3) ls (v.toList ++ rest))) : W p l e R s m args below meth c H locs cells slots Q (F0 m pc ls st0) := by
  intro T hT X
  obtain ⟨v', st₀, t, T', Lo, h0, X', hL, e1, e2, ⟨hv, hh⟩, st⟩ := hr T hT X
  cases hv
  cases Lo with
  | cons q r => exact (hL q List.mem_cons_self).elim
  | nil =>
    rw [List.append_nil] at X'
    obtain ⟨t2, a1, b1⟩ := kk T' (e1.trans (hh.trans h0)) X'
    exact ⟨t2, st t2 a1, b1⟩
end BWR
theorem bw_blind {av : List Value} {D : va_G} {cl : List vw_C} {tys : List (ClassId × FieldType)} {L : List va_W} {sz : Nat} {X : State → Prop} (hX : ∀ (a : Array Value) (U : State) (g : JFrame) (mk : MethodId), X U → X (U.calling g mk a)) : FrameBlind (bw_Pc av D cl tys L sz X) := by
  intro a U g mk h
  obtain ⟨h1, h2, h3, h4, h5, h6⟩ := h
  exact ⟨h1, h2, h3, va_K.moved (u := U) (U := U.calling g mk a) (Vm.Alike.refl U.vm) h4, h5, hX a U g mk h6⟩
/-- what a method's rows stand on -/
def cx (wsA : List Cond) (cl : List vw_C) (X : State → Prop) (p : Program) (s : State) (m : MethodId) (args : Array Value) (meth : Method) (c : Code) (D : va_G) (tys : List (ClassId × FieldType)) (cc : ByteArray) (nL : Nat) (ret : Option FieldType) (own : String) (A : Nat → Prop) (AL : List (List Nat)) : Prop :=
  p.tables.exec = Jvm.exec ∧ c.code = cc ∧ meth.sig.returnType = ret ∧ c.maxLocals = nL ∧ s.vm.findClass own = some m.cls ∧ meth.locks = false ∧ (∀ w ∈ wsA, w.before args s = true) ∧ va_K D cl tys s ∧ bw_N A AL ∧ (∀ q : Nat, s.heap.size ≤ q → A q) ∧ X s
theorem ite_t {α : Type} {c : Prop} [Decidable c] {x y r : α} (hc : c) (h : (if c then x else y) = r) : x = r := by rw [if_pos hc] at h; exact h
theorem ite_f {α : Type} {c : Prop} [Decidable c] {x y r : α} (hc : ¬ c) (h : (if c then x else y) = r) : y = r := by rw [if_neg hc] at h; exact h
def bind0 {β : Type} (x : Option Unit) (f : Unit → Option β) : Option β := x.bind f
def bind1 {α β : Type} (x : Option α) (f : α → Option β) : Option β := x.bind f
def bind2 {α γ β : Type} (x : Option (α × γ)) (f : α → γ → Option β) : Option β := x.bind (fun y => f y.1 y.2)
def bind3 {α γ δ β : Type} (x : Option (α × γ × δ)) (f : α → γ → δ → Option β) : Option β := x.bind (fun y => f y.1 y.2.1 y.2.2)
def bind4 {α γ δ ε β : Type} (x : Option (α × γ × δ × ε)) (f : α → γ → δ → ε → Option β) : Option β := x.bind (fun y => f y.1 y.2.1 y.2.2.1 y.2.2.2)
theorem bind0_some {β : Type} {x : Option Unit} {f : Unit → Option β} {r : β} (h : bind0 x f = some r) : x = some () ∧ f () = some r := by
  obtain ⟨y, h1, h2⟩ := bind_some h
  exact ⟨h1, h2⟩
theorem bind1_some {α β : Type} {x : Option α} {f : α → Option β} {r : β} (h : bind1 x f = some r) : ∃ a, x = some a ∧ f a = some r := bind_some h
theorem bind2_some {α γ β : Type} {x : Option (α × γ)} {f : α → γ → Option β} {r : β} (h : bind2 x f = some r) : ∃ a b, x = some (a, b) ∧ f a b = some r := by
  obtain ⟨⟨a, b⟩, h1, h2⟩ := bind_some h
  exact ⟨a, b, h1, h2⟩
theorem bind3_some {α γ δ β : Type} {x : Option (α × γ × δ)} {f : α → γ → δ → Option β} {r : β} (h : bind3 x f = some r) : ∃ a b c, x = some (a, b, c) ∧ f a b c = some r := by
  obtain ⟨⟨a, b, c⟩, h1, h2⟩ := bind_some h
  exact ⟨a, b, c, h1, h2⟩
theorem bind4_some {α γ δ ε β : Type} {x : Option (α × γ × δ × ε)} {f : α → γ → δ → ε → Option β} {r : β} (h : bind4 x f = some r) : ∃ a b c d, x = some (a, b, c, d) ∧ f a b c d = some r := by
  obtain ⟨⟨a, b, c, d⟩, h1, h2⟩ := bind_some h
  exact ⟨a, b, c, d, h1, h2⟩
/-- enough turns for every loop -/
def fuel : Nat := 1000000
def iushr (x y : Int32) : Int32 := (x.toUInt32 >>> (y.toUInt32 &&& Int32.toUInt32 31)).toInt32
def lushr (x : Int64) (y : Int32) : Int64 := (x.toUInt64 >>> (y.toInt64.toUInt64 &&& Int64.toUInt64 63)).toInt64
def lshl (x : Int64) (y : Int32) : Int64 := x <<< (y.toInt64 &&& 63)
def lshr (x : Int64) (y : Int32) : Int64 := x >>> (y.toInt64 &&& 63)
def i2c (x : Int32) : Int32 := (x.toUInt32 % 65536).toInt32
def i2b (x : Int32) : Int32 := x.toInt8.toInt32
def i2s (x : Int32) : Int32 := x.toInt16.toInt32
def isB (x : Int32) : Bool := decide (x = 0) || decide (x = 1)
theorem isB_of {x : Int32} (h : isB x = true) : x = b2i (decide (¬ x = 0)) := by
  simp only [isB, Bool.or_eq_true, decide_eq_true_eq] at h
  rcases h with rfl | rfl <;> decide
def isC (x : Int32) : Bool := decide (narrow .char (.int x) = .int x)
theorem isC_nar {x : Int32} (h : isC x = true) : narrow .char (.int x) = .int x := of_decide_eq_true h
theorem bw_nil {locs : List Loc} (h : locs = []) : ∀ q ∈ locs, (fun _ : Addr => False) q.base := by
  subst h
  intro q hq
  cases hq
end
section
/-! NAMES: classes, fields, blocks -/
def R_Steps : String := "PartFormulas$Steps"
def T_Steps : u_T := fun k => match k with
  | 0 => ("PartFormulas$Steps", "kind", "[I", true)
  | 1 => ("PartFormulas$Steps", "first", "[I", true)
  | 2 => ("PartFormulas$Steps", "second", "[I", true)
  | 3 => ("PartFormulas$Steps", "count", "I", false)
  | 4 => ("PartFormulas$Steps", "start", "[I", true)
  | 5 => ("PartFormulas$Steps", "signBehind", "[C", true)
  | _ => ("PartFormulas$Steps", "expressions", "I", false)
def ty_Steps : Nat → FieldType := fun k => match k with
  | 0 => .array .int
  | 1 => .array .int
  | 2 => .array .int
  | 3 => .int
  | 4 => .array .int
  | 5 => .array .char
  | _ => .int
theorem nm_Steps : ∀ a, a < 7 → ∀ b, b < 7 → a ≠ b → (T_Steps a).2.1 ≠ (T_Steps b).2.1 := by decide +kernel
theorem tyok_Steps : ∀ k, k < 7 → parseFieldDescriptor (T_Steps k).2.2.1 = some (ty_Steps k) := by decide +kernel
theorem in_Steps : ∀ w ∈ u_ws R_Steps T_Steps 7, w ∈ wsAll := by decide +kernel
def R_Cells : String := "PartFormulas$Cells"
def T_Cells : u_T := fun k => match k with
  | 0 => ("PartFormulas$Cells", "state", "[I", true)
  | 1 => ("PartFormulas$Cells", "above", "[J", true)
  | 2 => ("PartFormulas$Cells", "below", "[J", true)
  | _ => ("PartFormulas$Cells", "chosen", "[I", true)
def ty_Cells : Nat → FieldType := fun k => match k with
  | 0 => .array .int
  | 1 => .array .long
  | 2 => .array .long
  | _ => .array .int
theorem nm_Cells : ∀ a, a < 4 → ∀ b, b < 4 → a ≠ b → (T_Cells a).2.1 ≠ (T_Cells b).2.1 := by decide +kernel
theorem tyok_Cells : ∀ k, k < 4 → parseFieldDescriptor (T_Cells k).2.2.1 = some (ty_Cells k) := by decide +kernel
theorem in_Cells : ∀ w ∈ u_ws R_Cells T_Cells 4, w ∈ wsAll := by decide +kernel
def R_Text : String := "PartFormulas$Text"
def T_Text : u_T := fun k => match k with
  | 0 => ("PartFormulas$Text", "printed", "[C", true)
  | 1 => ("PartFormulas$Text", "printedLength", "I", false)
  | 2 => ("PartFormulas$Text", "steps", "LPartFormulas$Steps;", true)
  | 3 => ("PartFormulas$Text", "statements", "I", false)
  | 4 => ("PartFormulas$Text", "cellOf", "[I", true)
  | 5 => ("PartFormulas$Text", "firstExpression", "[I", true)
  | 6 => ("PartFormulas$Text", "conditions", "[I", true)
  | 7 => ("PartFormulas$Text", "definedBy", "[I", true)
  | 8 => ("PartFormulas$Text", "needed", "[J", true)
  | 9 => ("PartFormulas$Text", "letters", "[I", true)
  | 10 => ("PartFormulas$Text", "order", "[I", true)
  | _ => ("PartFormulas$Text", "orderLength", "I", false)
def ty_Text : Nat → FieldType := fun k => match k with
  | 0 => .array .char
  | 1 => .int
  | 2 => .object "PartFormulas$Steps"
  | 3 => .int
  | 4 => .array .int
  | 5 => .array .int
  | 6 => .array .int
  | 7 => .array .int
  | 8 => .array .long
  | 9 => .array .int
  | 10 => .array .int
  | _ => .int
theorem nm_Text : ∀ a, a < 12 → ∀ b, b < 12 → a ≠ b → (T_Text a).2.1 ≠ (T_Text b).2.1 := by decide +kernel
theorem tyok_Text : ∀ k, k < 12 → parseFieldDescriptor (T_Text k).2.2.1 = some (ty_Text k) := by decide +kernel
theorem in_Text : ∀ w ∈ u_ws R_Text T_Text 12, w ∈ wsAll := by decide +kernel
def R_Reader : String := "PartFormulas$Reader"
def T_Reader : u_T := fun k => match k with
  | 0 => ("PartFormulas$Reader", "typed", "[C", true)
  | 1 => ("PartFormulas$Reader", "dropped", "[Z", true)
  | 2 => ("PartFormulas$Reader", "length", "I", false)
  | 3 => ("PartFormulas$Reader", "at", "I", false)
  | 4 => ("PartFormulas$Reader", "text", "LPartFormulas$Text;", false)
  | 5 => ("PartFormulas$Reader", "waiting", "[I", true)
  | 6 => ("PartFormulas$Reader", "waitingCount", "I", false)
  | 7 => ("PartFormulas$Reader", "openedAt", "[I", true)
  | 8 => ("PartFormulas$Reader", "shapeByOperators", "[I", true)
  | 9 => ("PartFormulas$Reader", "shapeOfFactor", "[I", true)
  | 10 => ("PartFormulas$Reader", "groups", "I", false)
  | _ => ("PartFormulas$Reader", "nested", "I", false)
def ty_Reader : Nat → FieldType := fun k => match k with
  | 0 => .array .char
  | 1 => .array .boolean
  | 2 => .int
  | 3 => .int
  | 4 => .object "PartFormulas$Text"
  | 5 => .array .int
  | 6 => .int
  | 7 => .array .int
  | 8 => .array .int
  | 9 => .array .int
  | 10 => .int
  | _ => .int
theorem nm_Reader : ∀ a, a < 12 → ∀ b, b < 12 → a ≠ b → (T_Reader a).2.1 ≠ (T_Reader b).2.1 := by decide +kernel
theorem tyok_Reader : ∀ k, k < 12 → parseFieldDescriptor (T_Reader k).2.2.1 = some (ty_Reader k) := by decide +kernel
theorem in_Reader : ∀ w ∈ u_ws R_Reader T_Reader 12, w ∈ wsAll := by decide +kernel
def R_Reckoner : String := "PartFormulas$Reckoner"
def T_Reckoner : u_T := fun k => match k with
  | 0 => ("PartFormulas$Reckoner", "optionAbove", "[J", true)
  | 1 => ("PartFormulas$Reckoner", "optionBelow", "[J", true)
  | 2 => ("PartFormulas$Reckoner", "above", "[J", true)
  | 3 => ("PartFormulas$Reckoner", "below", "[J", true)
  | 4 => ("PartFormulas$Reckoner", "height", "I", false)
  | _ => ("PartFormulas$Reckoner", "reason", "I", false)
def ty_Reckoner : Nat → FieldType := fun k => match k with
  | 0 => .array .long
  | 1 => .array .long
  | 2 => .array .long
  | 3 => .array .long
  | 4 => .int
  | _ => .int
theorem nm_Reckoner : ∀ a, a < 6 → ∀ b, b < 6 → a ≠ b → (T_Reckoner a).2.1 ≠ (T_Reckoner b).2.1 := by decide +kernel
theorem tyok_Reckoner : ∀ k, k < 6 → parseFieldDescriptor (T_Reckoner k).2.2.1 = some (ty_Reckoner k) := by decide +kernel
theorem in_Reckoner : ∀ w ∈ u_ws R_Reckoner T_Reckoner 6, w ∈ wsAll := by decide +kernel
def R_PF : String := "PartFormulas"
def T_PF : u_T := fun k => match k with
  | 0 => ("PartFormulas", "reader", "LPartFormulas$Reader;", true)
  | 1 => ("PartFormulas", "text", "LPartFormulas$Text;", false)
  | 2 => ("PartFormulas", "wasRead", "Z", false)
  | 3 => ("PartFormulas", "workedOut", "Z", false)
  | 4 => ("PartFormulas", "reckoner", "LPartFormulas$Reckoner;", true)
  | 5 => ("PartFormulas", "cells", "LPartFormulas$Cells;", true)
  | 6 => ("PartFormulas", "trial", "LPartFormulas$Cells;", true)
  | 7 => ("PartFormulas", "versions", "[LPartFormulas$Cells;", true)
  | 8 => ("PartFormulas", "versionCount", "I", false)
  | _ => ("PartFormulas", "reckonedCells", "J", false)
def ty_PF : Nat → FieldType := fun k => match k with
  | 0 => .object "PartFormulas$Reader"
  | 1 => .object "PartFormulas$Text"
  | 2 => .boolean
  | 3 => .boolean
  | 4 => .object "PartFormulas$Reckoner"
  | 5 => .object "PartFormulas$Cells"
  | 6 => .object "PartFormulas$Cells"
  | 7 => .array (.object "PartFormulas$Cells")
  | 8 => .int
  | _ => .long
theorem nm_PF : ∀ a, a < 10 → ∀ b, b < 10 → a ≠ b → (T_PF a).2.1 ≠ (T_PF b).2.1 := by decide +kernel
theorem tyok_PF : ∀ k, k < 10 → parseFieldDescriptor (T_PF k).2.2.1 = some (ty_PF k) := by decide +kernel
theorem in_PF : ∀ w ∈ u_ws R_PF T_PF 10, w ∈ wsAll := by decide +kernel
def R_Mod : String := "PartFormulasModel"
def T_Mod : u_T := fun k => match k with
  | 0 => ("PartFormulasModel", "code", "I", false)
  | 1 => ("PartFormulasModel", "typed", "[I", true)
  | 2 => ("PartFormulasModel", "typedSize", "I", false)
  | 3 => ("PartFormulasModel", "at", "I", false)
  | 4 => ("PartFormulasModel", "failed", "I", false)
  | 5 => ("PartFormulasModel", "signs", "[I", true)
  | 6 => ("PartFormulasModel", "arguments", "[I", true)
  | 7 => ("PartFormulasModel", "sizes", "[I", true)
  | 8 => ("PartFormulasModel", "statements", "[I", true)
  | 9 => ("PartFormulasModel", "begins", "[I", true)
  | 10 => ("PartFormulasModel", "defines", "[I", true)
  | 11 => ("PartFormulasModel", "isRead", "Z", false)
  | 12 => ("PartFormulasModel", "worked", "Z", false)
  | 13 => ("PartFormulasModel", "waiting", "[I", true)
  | 14 => ("PartFormulasModel", "waits", "I", false)
  | 15 => ("PartFormulasModel", "optionAbove", "[J", true)
  | 16 => ("PartFormulasModel", "optionBelow", "[J", true)
  | 17 => ("PartFormulasModel", "lines", "[I", true)
  | 18 => ("PartFormulasModel", "needed", "[Z", true)
  | 19 => ("PartFormulasModel", "states", "[I", true)
  | 20 => ("PartFormulasModel", "above", "[J", true)
  | 21 => ("PartFormulasModel", "below", "[J", true)
  | 22 => ("PartFormulasModel", "chosen", "[I", true)
  | 23 => ("PartFormulasModel", "reckoned", "J", false)
  | 24 => ("PartFormulasModel", "versions", "I", false)
  | 25 => ("PartFormulasModel", "versionStates", "[I", true)
  | 26 => ("PartFormulasModel", "versionAbove", "[J", true)
  | 27 => ("PartFormulasModel", "versionBelow", "[J", true)
  | 28 => ("PartFormulasModel", "rowAbove", "[J", true)
  | 29 => ("PartFormulasModel", "rowBelow", "[J", true)
  | 30 => ("PartFormulasModel", "top", "I", false)
  | 31 => ("PartFormulasModel", "reason", "I", false)
  | 32 => ("PartFormulasModel", "text", "[I", true)
  | 33 => ("PartFormulasModel", "printed", "I", false)
  | 34 => ("PartFormulasModel", "starts", "[I", true)
  | _ => ("PartFormulasModel", "strengths", "[I", true)
def ty_Mod : Nat → FieldType := fun k => match k with
  | 0 => .int
  | 1 => .array .int
  | 2 => .int
  | 3 => .int
  | 4 => .int
  | 5 => .array .int
  | 6 => .array .int
  | 7 => .array .int
  | 8 => .array .int
  | 9 => .array .int
  | 10 => .array .int
  | 11 => .boolean
  | 12 => .boolean
  | 13 => .array .int
  | 14 => .int
  | 15 => .array .long
  | 16 => .array .long
  | 17 => .array .int
  | 18 => .array .boolean
  | 19 => .array .int
  | 20 => .array .long
  | 21 => .array .long
  | 22 => .array .int
  | 23 => .long
  | 24 => .int
  | 25 => .array .int
  | 26 => .array .long
  | 27 => .array .long
  | 28 => .array .long
  | 29 => .array .long
  | 30 => .int
  | 31 => .int
  | 32 => .array .int
  | 33 => .int
  | 34 => .array .int
  | _ => .array .int
theorem nm_Mod : ∀ a, a < 36 → ∀ b, b < 36 → a ≠ b → (T_Mod a).2.1 ≠ (T_Mod b).2.1 := by decide +kernel
theorem tyok_Mod : ∀ k, k < 36 → parseFieldDescriptor (T_Mod k).2.2.1 = some (ty_Mod k) := by decide +kernel
theorem in_Mod : ∀ w ∈ u_ws R_Mod T_Mod 36, w ∈ wsAll := by decide +kernel
def R_JLong : String := "java/lang/Long"
def R_JMath : String := "java/lang/Math"
def R_Law : String := "PartFormulasLaw"
abbrev vwCl : List vw_C := [(R_Steps, T_Steps, 7), (R_Cells, T_Cells, 4), (R_Text, T_Text, 12), (R_Reader, T_Reader, 12), (R_Reckoner, T_Reckoner, 6), (R_PF, T_PF, 10), (R_Mod, T_Mod, 36)]
abbrev tyA (ct : Nat → ClassId) : List (ClassId × FieldType) := [(ct 0, .int), (ct 1, .long), (ct 2, .char), (ct 3, .boolean), (ct 4, .object "PartFormulas$Cells")]
def wSteps (ct : Nat → ClassId) (a : Nat → Nat) (o : Ob) : va_W := [(a 0, .inr (0, [.ref (a 1), .ref (a 2), .ref (a 3), .int (g32 o 3 0), .ref (a 4), .ref (a 5), .int (g32 o 6 0)])), (a 1, .inl (ct 0, 400, .inl (g32 o 0))), (a 2, .inl (ct 0, 400, .inl (g32 o 1))), (a 3, .inl (ct 0, 400, .inl (g32 o 2))), (a 4, .inl (ct 0, 401, .inl (g32 o 4))), (a 5, .inl (ct 2, 401, .inl (g32 o 5)))]
def adSteps (a : Nat → Nat) : List Nat := [a 0, a 1, a 2, a 3, a 4, a 5]
def wCells (ct : Nat → ClassId) (a : Nat → Nat) (o : Ob) : va_W := [(a 0, .inr (1, [.ref (a 1), .ref (a 2), .ref (a 3), .ref (a 4)])), (a 1, .inl (ct 0, 60, .inl (g32 o 0))), (a 2, .inl (ct 1, 60, .inr (.inl (g64 o 1)))), (a 3, .inl (ct 1, 60, .inr (.inl (g64 o 2)))), (a 4, .inl (ct 0, 60, .inl (g32 o 3)))]
def adCells (a : Nat → Nat) : List Nat := [a 0, a 1, a 2, a 3, a 4]
def wText (ct : Nat → ClassId) (a : Nat → Nat) (r2 : Nat) (o : Ob) : va_W := [(a 0, .inr (2, [.ref (a 1), .int (g32 o 1 0), .ref r2, .int (g32 o 3 0), .ref (a 2), .ref (a 3), .ref (a 4), .ref (a 5), .ref (a 6), .ref (a 7), .ref (a 8), .int (g32 o 11 0)])), (a 1, .inl (ct 2, 400, .inl (g32 o 0))), (a 2, .inl (ct 0, 24, .inl (g32 o 4))), (a 3, .inl (ct 0, 24, .inl (g32 o 5))), (a 4, .inl (ct 0, 24, .inl (g32 o 6))), (a 5, .inl (ct 0, 60, .inl (g32 o 7))), (a 6, .inl (ct 1, 60, .inr (.inl (g64 o 8)))), (a 7, .inl (ct 0, 60, .inl (g32 o 9))), (a 8, .inl (ct 0, 24, .inl (g32 o 10)))]
def adText (a : Nat → Nat) : List Nat := [a 0, a 1, a 2, a 3, a 4, a 5, a 6, a 7, a 8]
def wReader (ct : Nat → ClassId) (a : Nat → Nat) (r4 : Nat) (o : Ob) : va_W := [(a 0, .inr (3, [.ref (a 1), .ref (a 2), .int (g32 o 2 0), .int (g32 o 3 0), .ref r4, .ref (a 3), .int (g32 o 6 0), .ref (a 4), .ref (a 5), .ref (a 6), .int (g32 o 10 0), .int (g32 o 11 0)])), (a 1, .inl (ct 2, 400, .inl (g32 o 0))), (a 2, .inl (ct 3, 400, .inl (g32 o 1))), (a 3, .inl (ct 0, 400, .inl (g32 o 5))), (a 4, .inl (ct 0, 9, .inl (g32 o 7))), (a 5, .inl (ct 0, 9, .inl (g32 o 8))), (a 6, .inl (ct 0, 9, .inl (g32 o 9)))]
def adReader (a : Nat → Nat) : List Nat := [a 0, a 1, a 2, a 3, a 4, a 5, a 6]
def wReckoner (ct : Nat → ClassId) (a : Nat → Nat) (o : Ob) : va_W := [(a 0, .inr (4, [.ref (a 1), .ref (a 2), .ref (a 3), .ref (a 4), .int (g32 o 4 0), .int (g32 o 5 0)])), (a 1, .inl (ct 1, 8, .inr (.inl (g64 o 0)))), (a 2, .inl (ct 1, 8, .inr (.inl (g64 o 1)))), (a 3, .inl (ct 1, 19, .inr (.inl (g64 o 2)))), (a 4, .inl (ct 1, 19, .inr (.inl (g64 o 3))))]
def adReckoner (a : Nat → Nat) : List Nat := [a 0, a 1, a 2, a 3, a 4]
def wPF (ct : Nat → ClassId) (a : Nat → Nat) (r0 r1 r4 r5 r6 : Nat) (v : Nat → Nat) (o : Ob) : va_W := [(a 0, .inr (5, [.ref r0, .ref r1, .int (g32 o 2 0), .int (g32 o 3 0), .ref r4, .ref r5, .ref r6, .ref (a 1), .int (g32 o 8 0), .long (g64 o 9 0)])), (a 1, .inl (ct 4, 4, .inr (.inr (.inr (.inr (fun i => some (v i)))))))]
def adPF (a : Nat → Nat) : List Nat := [a 0, a 1]
def wMod (ct : Nat → ClassId) (a : Nat → Nat) (o : Ob) : va_W := [(a 0, .inr (6, [.int (g32 o 0 0), .ref (a 1), .int (g32 o 2 0), .int (g32 o 3 0), .int (g32 o 4 0), .ref (a 2), .ref (a 3), .ref (a 4), .ref (a 5), .ref (a 6), .ref (a 7), .int (g32 o 11 0), .int (g32 o 12 0), .ref (a 8), .int (g32 o 14 0), .ref (a 9), .ref (a 10), .ref (a 11), .ref (a 12), .ref (a 13), .ref (a 14), .ref (a 15), .ref (a 16), .long (g64 o 23 0), .int (g32 o 24 0), .ref (a 17), .ref (a 18), .ref (a 19), .ref (a 20), .ref (a 21), .int (g32 o 30 0), .int (g32 o 31 0), .ref (a 22), .int (g32 o 33 0), .ref (a 23), .ref (a 24)])), (a 1, .inl (ct 0, 400, .inl (g32 o 1))), (a 2, .inl (ct 0, 1000, .inl (g32 o 5))), (a 3, .inl (ct 0, 1000, .inl (g32 o 6))), (a 4, .inl (ct 0, 2, .inl (g32 o 7))), (a 5, .inl (ct 0, 2, .inl (g32 o 8))), (a 6, .inl (ct 0, 50, .inl (g32 o 9))), (a 7, .inl (ct 0, 50, .inl (g32 o 10))), (a 8, .inl (ct 0, 420, .inl (g32 o 13))), (a 9, .inl (ct 1, 8, .inr (.inl (g64 o 15)))), (a 10, .inl (ct 1, 8, .inr (.inl (g64 o 16)))), (a 11, .inl (ct 0, 60, .inl (g32 o 17))), (a 12, .inl (ct 3, 3600, .inl (g32 o 18))), (a 13, .inl (ct 0, 60, .inl (g32 o 19))), (a 14, .inl (ct 1, 60, .inr (.inl (g64 o 20)))), (a 15, .inl (ct 1, 60, .inr (.inl (g64 o 21)))), (a 16, .inl (ct 0, 60, .inl (g32 o 22))), (a 17, .inl (ct 0, 240, .inl (g32 o 25))), (a 18, .inl (ct 1, 240, .inr (.inl (g64 o 26)))), (a 19, .inl (ct 1, 240, .inr (.inl (g64 o 27)))), (a 20, .inl (ct 1, 420, .inr (.inl (g64 o 28)))), (a 21, .inl (ct 1, 420, .inr (.inl (g64 o 29)))), (a 22, .inl (ct 0, 900, .inl (g32 o 32))), (a 23, .inl (ct 0, 420, .inl (g32 o 34))), (a 24, .inl (ct 0, 420, .inl (g32 o 35)))]
def adMod (a : Nat → Nat) : List Nat := [a 0, a 1, a 2, a 3, a 4, a 5, a 6, a 7, a 8, a 9, a 10, a 11, a 12, a 13, a 14, a 15, a 16, a 17, a 18, a 19, a 20, a 21, a 22, a 23, a 24]
end
section
/-! Steps -/
abbrev b_Steps_clear : ByteArray := prog_5_method_2_code
def y_Steps_clear : MethodName := ⟨R_Steps, "clear", "()V"⟩
abbrev b_Steps_add : ByteArray := prog_5_method_3_code
def y_Steps_add : MethodName := ⟨R_Steps, "add", "(III)V"⟩
abbrev b_Steps_endExpression : ByteArray := prog_5_method_4_code
def y_Steps_endExpression : MethodName := ⟨R_Steps, "endExpression", "(C)V"⟩
abbrev b_Text_clear : ByteArray := prog_6_method_2_code
def y_Text_clear : MethodName := ⟨R_Text, "clear", "()V"⟩
abbrev b_Text_openCell : ByteArray := prog_6_method_4_code
def y_Text_openCell : MethodName := ⟨R_Text, "openCell", "()I"⟩
abbrev b_Text_mentionCell : ByteArray := prog_6_method_6_code
def y_Text_mentionCell : MethodName := ⟨R_Text, "mentionCell", "(I)V"⟩
theorem fl_Steps_21 : Cond.fieldLink "PartFormulas$Steps" 21 "PartFormulas$Steps" "count" "I" ∈ wsAll := wa_of 127 (by decide +kernel) (by decide +kernel)
theorem fl_Steps_32 : Cond.fieldLink "PartFormulas$Steps" 32 "PartFormulas$Steps" "expressions" "I" ∈ wsAll := wa_of 132 (by decide +kernel) (by decide +kernel)
theorem fl_Steps_25 : Cond.fieldLink "PartFormulas$Steps" 25 "PartFormulas$Steps" "start" "[I" ∈ wsAll := wa_of 128 (by decide +kernel) (by decide +kernel)
theorem fl_Steps_9 : Cond.fieldLink "PartFormulas$Steps" 9 "PartFormulas$Steps" "kind" "[I" ∈ wsAll := wa_of 121 (by decide +kernel) (by decide +kernel)
theorem fl_Steps_15 : Cond.fieldLink "PartFormulas$Steps" 15 "PartFormulas$Steps" "first" "[I" ∈ wsAll := wa_of 123 (by decide +kernel) (by decide +kernel)
theorem fl_Steps_18 : Cond.fieldLink "PartFormulas$Steps" 18 "PartFormulas$Steps" "second" "[I" ∈ wsAll := wa_of 125 (by decide +kernel) (by decide +kernel)
theorem fl_Steps_28 : Cond.fieldLink "PartFormulas$Steps" 28 "PartFormulas$Steps" "signBehind" "[C" ∈ wsAll := wa_of 130 (by decide +kernel) (by decide +kernel)
theorem fl_Text_15 : Cond.fieldLink "PartFormulas$Text" 15 "PartFormulas$Text" "printedLength" "I" ∈ wsAll := wa_of 156 (by decide +kernel) (by decide +kernel)
theorem fl_Text_22 : Cond.fieldLink "PartFormulas$Text" 22 "PartFormulas$Text" "steps" "LPartFormulas$Steps;" ∈ wsAll := wa_of 159 (by decide +kernel) (by decide +kernel)
theorem cd_Steps_clear : Cond.code ⟨"PartFormulas$Steps", "clear", "()V"⟩ prog_5_method_2_code 1 (none : Option Jvm.ClassFile.FieldType) ∈ wsAll := wa_of 356 (by decide +kernel) (by decide +kernel)
theorem ml_Text_55 : Cond.methodLink "PartFormulas$Text" 55 ⟨"PartFormulas$Steps", "clear", "()V"⟩ ∈ wsAll := wa_of 353 (by decide +kernel) (by decide +kernel)
theorem im_Steps_clear : Cond.instanceMethod ⟨"PartFormulas$Steps", "clear", "()V"⟩ ∈ wsAll := wa_of 354 (by decide +kernel) (by decide +kernel)
theorem se_Steps_clear : Cond.selects "PartFormulas$Steps" ⟨"PartFormulas$Steps", "clear", "()V"⟩ ⟨"PartFormulas$Steps", "clear", "()V"⟩ ∈ wsAll := wa_of 355 (by decide +kernel) (by decide +kernel)
theorem ini_Steps : Cond.initialized "PartFormulas$Steps" ∈ wsAll := wa_of 77 (by decide +kernel) (by decide +kernel)
theorem fl_Text_26 : Cond.fieldLink "PartFormulas$Text" 26 "PartFormulas$Text" "statements" "I" ∈ wsAll := wa_of 162 (by decide +kernel) (by decide +kernel)
theorem fl_Text_52 : Cond.fieldLink "PartFormulas$Text" 52 "PartFormulas$Text" "orderLength" "I" ∈ wsAll := wa_of 180 (by decide +kernel) (by decide +kernel)
theorem fl_Text_39 : Cond.fieldLink "PartFormulas$Text" 39 "PartFormulas$Text" "definedBy" "[I" ∈ wsAll := wa_of 173 (by decide +kernel) (by decide +kernel)
theorem fl_Text_42 : Cond.fieldLink "PartFormulas$Text" 42 "PartFormulas$Text" "needed" "[J" ∈ wsAll := wa_of 176 (by decide +kernel) (by decide +kernel)
theorem fl_Text_46 : Cond.fieldLink "PartFormulas$Text" 46 "PartFormulas$Text" "letters" "[I" ∈ wsAll := wa_of 177 (by decide +kernel) (by decide +kernel)
theorem fl_Text_29 : Cond.fieldLink "PartFormulas$Text" 29 "PartFormulas$Text" "cellOf" "[I" ∈ wsAll := wa_of 166 (by decide +kernel) (by decide +kernel)
theorem cd_Steps_add : Cond.code ⟨"PartFormulas$Steps", "add", "(III)V"⟩ prog_5_method_3_code 4 (none : Option Jvm.ClassFile.FieldType) ∈ wsAll := wa_of 408 (by decide +kernel) (by decide +kernel)
theorem ml_Text_61 : Cond.methodLink "PartFormulas$Text" 61 ⟨"PartFormulas$Steps", "add", "(III)V"⟩ ∈ wsAll := wa_of 413 (by decide +kernel) (by decide +kernel)
theorem im_Steps_add : Cond.instanceMethod ⟨"PartFormulas$Steps", "add", "(III)V"⟩ ∈ wsAll := wa_of 406 (by decide +kernel) (by decide +kernel)
theorem se_Steps_add : Cond.selects "PartFormulas$Steps" ⟨"PartFormulas$Steps", "add", "(III)V"⟩ ⟨"PartFormulas$Steps", "add", "(III)V"⟩ ∈ wsAll := wa_of 407 (by decide +kernel) (by decide +kernel)
theorem cd_Text_openCell : Cond.code ⟨"PartFormulas$Text", "openCell", "()I"⟩ prog_6_method_4_code 1 (some .int) ∈ wsAll := wa_of 417 (by decide +kernel) (by decide +kernel)
theorem ml_Text_65 : Cond.methodLink "PartFormulas$Text" 65 ⟨"PartFormulas$Text", "openCell", "()I"⟩ ∈ wsAll := wa_of 414 (by decide +kernel) (by decide +kernel)
theorem im_Text_openCell : Cond.instanceMethod ⟨"PartFormulas$Text", "openCell", "()I"⟩ ∈ wsAll := wa_of 415 (by decide +kernel) (by decide +kernel)
theorem se_Text_openCell : Cond.selects "PartFormulas$Text" ⟨"PartFormulas$Text", "openCell", "()I"⟩ ⟨"PartFormulas$Text", "openCell", "()I"⟩ ∈ wsAll := wa_of 416 (by decide +kernel) (by decide +kernel)
theorem ini_Text : Cond.initialized "PartFormulas$Text" ∈ wsAll := wa_of 76 (by decide +kernel) (by decide +kernel)
theorem d_Steps_add_0 : decode b_Steps_add 0 = .ok (.aload_n 0, 1) := by decide +kernel
theorem d_Steps_add_1 : decode b_Steps_add 1 = .ok (.getfield 21, 3) := by decide +kernel
theorem d_Steps_add_4 : decode b_Steps_add 4 = .ok (.sipush 400, 3) := by decide +kernel
theorem d_Steps_add_7 : decode b_Steps_add 7 = .ok (.if_icmp .ge 43, 3) := by decide +kernel
theorem d_Steps_add_10 : decode b_Steps_add 10 = .ok (.aload_n 0, 1) := by decide +kernel
theorem d_Steps_add_11 : decode b_Steps_add 11 = .ok (.getfield 9, 3) := by decide +kernel
theorem d_Steps_add_14 : decode b_Steps_add 14 = .ok (.aload_n 0, 1) := by decide +kernel
theorem d_Steps_add_15 : decode b_Steps_add 15 = .ok (.getfield 21, 3) := by decide +kernel
theorem d_Steps_add_18 : decode b_Steps_add 18 = .ok (.iload_n 1, 1) := by decide +kernel
theorem d_Steps_add_19 : decode b_Steps_add 19 = .ok (.iastore, 1) := by decide +kernel
theorem d_Steps_add_20 : decode b_Steps_add 20 = .ok (.aload_n 0, 1) := by decide +kernel
theorem d_Steps_add_21 : decode b_Steps_add 21 = .ok (.getfield 15, 3) := by decide +kernel
theorem d_Steps_add_24 : decode b_Steps_add 24 = .ok (.aload_n 0, 1) := by decide +kernel
theorem d_Steps_add_25 : decode b_Steps_add 25 = .ok (.getfield 21, 3) := by decide +kernel
theorem d_Steps_add_28 : decode b_Steps_add 28 = .ok (.iload_n 2, 1) := by decide +kernel
theorem d_Steps_add_29 : decode b_Steps_add 29 = .ok (.iastore, 1) := by decide +kernel
theorem d_Steps_add_30 : decode b_Steps_add 30 = .ok (.aload_n 0, 1) := by decide +kernel
theorem d_Steps_add_31 : decode b_Steps_add 31 = .ok (.getfield 18, 3) := by decide +kernel
theorem d_Steps_add_34 : decode b_Steps_add 34 = .ok (.aload_n 0, 1) := by decide +kernel
theorem d_Steps_add_35 : decode b_Steps_add 35 = .ok (.getfield 21, 3) := by decide +kernel
theorem d_Steps_add_38 : decode b_Steps_add 38 = .ok (.iload_n 3, 1) := by decide +kernel
theorem d_Steps_add_39 : decode b_Steps_add 39 = .ok (.iastore, 1) := by decide +kernel
theorem d_Steps_add_40 : decode b_Steps_add 40 = .ok (.aload_n 0, 1) := by decide +kernel
theorem d_Steps_add_41 : decode b_Steps_add 41 = .ok (.dup, 1) := by decide +kernel
theorem d_Steps_add_42 : decode b_Steps_add 42 = .ok (.getfield 21, 3) := by decide +kernel
theorem d_Steps_add_45 : decode b_Steps_add 45 = .ok (.iconst 1, 1) := by decide +kernel
theorem d_Steps_add_46 : decode b_Steps_add 46 = .ok (.iadd, 1) := by decide +kernel
theorem d_Steps_add_47 : decode b_Steps_add 47 = .ok (.putfield 21, 3) := by decide +kernel
theorem d_Steps_add_50 : decode b_Steps_add 50 = .ok (.return_, 1) := by decide +kernel
theorem d_Text_clear_0 : decode b_Text_clear 0 = .ok (.aload_n 0, 1) := by decide +kernel
theorem d_Steps_clear_0 : decode b_Steps_clear 0 = .ok (.aload_n 0, 1) := by decide +kernel
theorem d_Steps_clear_1 : decode b_Steps_clear 1 = .ok (.iconst 0, 1) := by decide +kernel
theorem d_Text_clear_1 : decode b_Text_clear 1 = .ok (.iconst 0, 1) := by decide +kernel
theorem d_Steps_clear_2 : decode b_Steps_clear 2 = .ok (.putfield 21, 3) := by decide +kernel
theorem d_Text_clear_2 : decode b_Text_clear 2 = .ok (.putfield 15, 3) := by decide +kernel
theorem d_Text_clear_5 : decode b_Text_clear 5 = .ok (.aload_n 0, 1) := by decide +kernel
theorem d_Steps_clear_5 : decode b_Steps_clear 5 = .ok (.aload_n 0, 1) := by decide +kernel
theorem d_Steps_clear_6 : decode b_Steps_clear 6 = .ok (.iconst 0, 1) := by decide +kernel
theorem d_Text_clear_6 : decode b_Text_clear 6 = .ok (.getfield 22, 3) := by decide +kernel
theorem d_Steps_clear_7 : decode b_Steps_clear 7 = .ok (.putfield 32, 3) := by decide +kernel
theorem d_Text_clear_9 : decode b_Text_clear 9 = .ok (.invokevirtual 55, 3) := by decide +kernel
theorem d_Steps_clear_10 : decode b_Steps_clear 10 = .ok (.aload_n 0, 1) := by decide +kernel
theorem d_Steps_clear_11 : decode b_Steps_clear 11 = .ok (.getfield 25, 3) := by decide +kernel
theorem d_Text_clear_12 : decode b_Text_clear 12 = .ok (.aload_n 0, 1) := by decide +kernel
theorem d_Text_clear_13 : decode b_Text_clear 13 = .ok (.iconst 0, 1) := by decide +kernel
theorem d_Text_clear_14 : decode b_Text_clear 14 = .ok (.putfield 26, 3) := by decide +kernel
theorem d_Steps_clear_14 : decode b_Steps_clear 14 = .ok (.iconst 0, 1) := by decide +kernel
theorem d_Steps_clear_15 : decode b_Steps_clear 15 = .ok (.iconst 0, 1) := by decide +kernel
theorem d_Steps_clear_16 : decode b_Steps_clear 16 = .ok (.iastore, 1) := by decide +kernel
theorem d_Text_clear_17 : decode b_Text_clear 17 = .ok (.aload_n 0, 1) := by decide +kernel
theorem d_Steps_clear_17 : decode b_Steps_clear 17 = .ok (.return_, 1) := by decide +kernel
theorem d_Text_clear_18 : decode b_Text_clear 18 = .ok (.iconst 0, 1) := by decide +kernel
theorem d_Text_clear_19 : decode b_Text_clear 19 = .ok (.putfield 52, 3) := by decide +kernel
theorem d_Text_clear_22 : decode b_Text_clear 22 = .ok (.iconst 0, 1) := by decide +kernel
theorem d_Text_clear_23 : decode b_Text_clear 23 = .ok (.istore_n 1, 1) := by decide +kernel
theorem d_Text_clear_24 : decode b_Text_clear 24 = .ok (.iload_n 1, 1) := by decide +kernel
theorem d_Text_clear_25 : decode b_Text_clear 25 = .ok (.bipush 60, 2) := by decide +kernel
theorem d_Text_clear_27 : decode b_Text_clear 27 = .ok (.if_icmp .ge 30, 3) := by decide +kernel
theorem d_Text_clear_30 : decode b_Text_clear 30 = .ok (.aload_n 0, 1) := by decide +kernel
theorem d_Text_clear_31 : decode b_Text_clear 31 = .ok (.getfield 39, 3) := by decide +kernel
theorem d_Text_clear_34 : decode b_Text_clear 34 = .ok (.iload_n 1, 1) := by decide +kernel
theorem d_Text_clear_35 : decode b_Text_clear 35 = .ok (.iconst (-1), 1) := by decide +kernel
theorem d_Text_clear_36 : decode b_Text_clear 36 = .ok (.iastore, 1) := by decide +kernel
theorem d_Text_clear_37 : decode b_Text_clear 37 = .ok (.aload_n 0, 1) := by decide +kernel
theorem d_Text_clear_38 : decode b_Text_clear 38 = .ok (.getfield 42, 3) := by decide +kernel
theorem d_Text_clear_41 : decode b_Text_clear 41 = .ok (.iload_n 1, 1) := by decide +kernel
theorem d_Text_clear_42 : decode b_Text_clear 42 = .ok (.lconst 0, 1) := by decide +kernel
theorem d_Text_clear_43 : decode b_Text_clear 43 = .ok (.lastore, 1) := by decide +kernel
theorem d_Text_clear_44 : decode b_Text_clear 44 = .ok (.aload_n 0, 1) := by decide +kernel
theorem d_Text_clear_45 : decode b_Text_clear 45 = .ok (.getfield 46, 3) := by decide +kernel
theorem d_Text_clear_48 : decode b_Text_clear 48 = .ok (.iload_n 1, 1) := by decide +kernel
theorem d_Text_clear_49 : decode b_Text_clear 49 = .ok (.iconst 0, 1) := by decide +kernel
theorem d_Text_clear_50 : decode b_Text_clear 50 = .ok (.iastore, 1) := by decide +kernel
theorem d_Text_clear_51 : decode b_Text_clear 51 = .ok (.iinc 1 1, 3) := by decide +kernel
theorem d_Text_clear_54 : decode b_Text_clear 54 = .ok (.goto (-30), 3) := by decide +kernel
theorem d_Text_clear_57 : decode b_Text_clear 57 = .ok (.return_, 1) := by decide +kernel
theorem d_Steps_endExpression_0 : decode b_Steps_endExpression 0 = .ok (.aload_n 0, 1) := by decide +kernel
theorem d_Steps_endExpression_1 : decode b_Steps_endExpression 1 = .ok (.getfield 32, 3) := by decide +kernel
theorem d_Steps_endExpression_4 : decode b_Steps_endExpression 4 = .ok (.sipush 400, 3) := by decide +kernel
theorem d_Steps_endExpression_7 : decode b_Steps_endExpression 7 = .ok (.if_icmp .ge 36, 3) := by decide +kernel
theorem d_Steps_endExpression_10 : decode b_Steps_endExpression 10 = .ok (.aload_n 0, 1) := by decide +kernel
theorem d_Steps_endExpression_11 : decode b_Steps_endExpression 11 = .ok (.getfield 28, 3) := by decide +kernel
theorem d_Steps_endExpression_14 : decode b_Steps_endExpression 14 = .ok (.aload_n 0, 1) := by decide +kernel
theorem d_Steps_endExpression_15 : decode b_Steps_endExpression 15 = .ok (.getfield 32, 3) := by decide +kernel
theorem d_Steps_endExpression_18 : decode b_Steps_endExpression 18 = .ok (.iload_n 1, 1) := by decide +kernel
theorem d_Steps_endExpression_19 : decode b_Steps_endExpression 19 = .ok (.castore, 1) := by decide +kernel
theorem d_Steps_endExpression_20 : decode b_Steps_endExpression 20 = .ok (.aload_n 0, 1) := by decide +kernel
theorem d_Steps_endExpression_21 : decode b_Steps_endExpression 21 = .ok (.dup, 1) := by decide +kernel
theorem d_Steps_endExpression_22 : decode b_Steps_endExpression 22 = .ok (.getfield 32, 3) := by decide +kernel
theorem d_Steps_endExpression_25 : decode b_Steps_endExpression 25 = .ok (.iconst 1, 1) := by decide +kernel
theorem d_Steps_endExpression_26 : decode b_Steps_endExpression 26 = .ok (.iadd, 1) := by decide +kernel
theorem d_Steps_endExpression_27 : decode b_Steps_endExpression 27 = .ok (.putfield 32, 3) := by decide +kernel
theorem d_Steps_endExpression_30 : decode b_Steps_endExpression 30 = .ok (.aload_n 0, 1) := by decide +kernel
theorem d_Steps_endExpression_31 : decode b_Steps_endExpression 31 = .ok (.getfield 25, 3) := by decide +kernel
theorem d_Steps_endExpression_34 : decode b_Steps_endExpression 34 = .ok (.aload_n 0, 1) := by decide +kernel
theorem d_Steps_endExpression_35 : decode b_Steps_endExpression 35 = .ok (.getfield 32, 3) := by decide +kernel
theorem d_Steps_endExpression_38 : decode b_Steps_endExpression 38 = .ok (.aload_n 0, 1) := by decide +kernel
theorem d_Steps_endExpression_39 : decode b_Steps_endExpression 39 = .ok (.getfield 21, 3) := by decide +kernel
theorem d_Steps_endExpression_42 : decode b_Steps_endExpression 42 = .ok (.iastore, 1) := by decide +kernel
theorem d_Steps_endExpression_43 : decode b_Steps_endExpression 43 = .ok (.return_, 1) := by decide +kernel
theorem d_Text_mentionCell_0 : decode b_Text_mentionCell 0 = .ok (.aload_n 0, 1) := by decide +kernel
theorem d_Text_mentionCell_1 : decode b_Text_mentionCell 1 = .ok (.getfield 22, 3) := by decide +kernel
theorem d_Text_mentionCell_4 : decode b_Text_mentionCell 4 = .ok (.iconst 3, 1) := by decide +kernel
theorem d_Text_mentionCell_5 : decode b_Text_mentionCell 5 = .ok (.iload_n 1, 1) := by decide +kernel
theorem d_Text_mentionCell_6 : decode b_Text_mentionCell 6 = .ok (.iconst 0, 1) := by decide +kernel
theorem d_Text_mentionCell_7 : decode b_Text_mentionCell 7 = .ok (.invokevirtual 61, 3) := by decide +kernel
theorem d_Text_mentionCell_10 : decode b_Text_mentionCell 10 = .ok (.aload_n 0, 1) := by decide +kernel
theorem d_Text_mentionCell_11 : decode b_Text_mentionCell 11 = .ok (.invokevirtual 65, 3) := by decide +kernel
theorem d_Text_mentionCell_14 : decode b_Text_mentionCell 14 = .ok (.istore_n 2, 1) := by decide +kernel
theorem d_Text_mentionCell_15 : decode b_Text_mentionCell 15 = .ok (.iload_n 2, 1) := by decide +kernel
theorem d_Text_mentionCell_16 : decode b_Text_mentionCell 16 = .ok (.iconst (-1), 1) := by decide +kernel
theorem d_Text_mentionCell_17 : decode b_Text_mentionCell 17 = .ok (.if_icmp .eq 15, 3) := by decide +kernel
theorem d_Text_mentionCell_20 : decode b_Text_mentionCell 20 = .ok (.aload_n 0, 1) := by decide +kernel
theorem d_Text_mentionCell_21 : decode b_Text_mentionCell 21 = .ok (.getfield 42, 3) := by decide +kernel
theorem d_Text_mentionCell_24 : decode b_Text_mentionCell 24 = .ok (.iload_n 2, 1) := by decide +kernel
theorem d_Text_mentionCell_25 : decode b_Text_mentionCell 25 = .ok (.dup2, 1) := by decide +kernel
theorem d_Text_mentionCell_26 : decode b_Text_mentionCell 26 = .ok (.laload, 1) := by decide +kernel
theorem d_Text_mentionCell_27 : decode b_Text_mentionCell 27 = .ok (.lconst 1, 1) := by decide +kernel
theorem d_Text_mentionCell_28 : decode b_Text_mentionCell 28 = .ok (.iload_n 1, 1) := by decide +kernel
theorem d_Text_mentionCell_29 : decode b_Text_mentionCell 29 = .ok (.lshl, 1) := by decide +kernel
theorem d_Text_mentionCell_30 : decode b_Text_mentionCell 30 = .ok (.lor, 1) := by decide +kernel
theorem d_Text_mentionCell_31 : decode b_Text_mentionCell 31 = .ok (.lastore, 1) := by decide +kernel
theorem d_Text_mentionCell_32 : decode b_Text_mentionCell 32 = .ok (.return_, 1) := by decide +kernel
theorem d_Text_openCell_0 : decode b_Text_openCell 0 = .ok (.aload_n 0, 1) := by decide +kernel
theorem d_Text_openCell_1 : decode b_Text_openCell 1 = .ok (.getfield 26, 3) := by decide +kernel
theorem d_Text_openCell_4 : decode b_Text_openCell 4 = .ok (.ifCond .le 17, 3) := by decide +kernel
theorem d_Text_openCell_7 : decode b_Text_openCell 7 = .ok (.aload_n 0, 1) := by decide +kernel
theorem d_Text_openCell_8 : decode b_Text_openCell 8 = .ok (.getfield 29, 3) := by decide +kernel
theorem d_Text_openCell_11 : decode b_Text_openCell 11 = .ok (.aload_n 0, 1) := by decide +kernel
theorem d_Text_openCell_12 : decode b_Text_openCell 12 = .ok (.getfield 26, 3) := by decide +kernel
theorem d_Text_openCell_15 : decode b_Text_openCell 15 = .ok (.iconst 1, 1) := by decide +kernel
theorem d_Text_openCell_16 : decode b_Text_openCell 16 = .ok (.isub, 1) := by decide +kernel
theorem d_Text_openCell_17 : decode b_Text_openCell 17 = .ok (.iaload, 1) := by decide +kernel
theorem d_Text_openCell_18 : decode b_Text_openCell 18 = .ok (.goto 4, 3) := by decide +kernel
theorem d_Text_openCell_21 : decode b_Text_openCell 21 = .ok (.iconst (-1), 1) := by decide +kernel
theorem d_Text_openCell_22 : decode b_Text_openCell 22 = .ok (.ireturn, 1) := by decide +kernel
def F_Steps_clear  (o0 : Ob) : Option (Ob) :=
  chk (inb (0 : Int32) 401) (some (s32 (s32 (s32 o0 3 0 (0 : Int32)) 6 0 (0 : Int32)) 4 (Int32.toNatClampNeg (0 : Int32)) (0 : Int32)))
abbrev ws_Steps_clear : List Cond := Cond.code y_Steps_clear b_Steps_clear 1 (none : Option Jvm.ClassFile.FieldType) :: wsAll
abbrev rm_Steps_clear : Room := { frames := 0, cells := 0, slots := 0, locals := 0 }
set_option maxHeartbeats 4000000 in
set_option maxRecDepth 100000 in
theorem c_Steps_clear (l : Launch) (ct dC : Nat → ClassId) (dI : Nat → Nat → Nat) (a0 : Nat → Nat)  (sz : Nat)  (o0 : Ob) (n0 : Ob) (hF : F_Steps_clear o0 = some n0) : Met l y_Steps_clear ws_Steps_clear rm_Steps_clear (bw_Pc [.ref (a0 0)] (dC, dI) vwCl (tyA ct) [wSteps ct a0 o0] sz nx) (bw_Q (dC, dI) vwCl none [wSteps ct a0 n0] (bw_A [adSteps a0] sz)) 0 0 (bw_A [adSteps a0] sz) := by
  refine Met.ofW (cc := b_Steps_clear) (maxL := 1) (ret := (none : Option Jvm.ClassFile.FieldType)) (by decide) rfl ?_
  intro p e s m args below meth c s₁ B hml hv
  obtain ⟨rfl, hsz, hP, hK, hN0, hnx⟩ := hv
  have hx := B.exec
  have hb := B.bytes
  have hr := B.returns
  have hts : ∀ w ∈ wsAll, w.before [.ref (a0 0)].toArray s = true := fun w h9 => atoms_spec (ws := ws_Steps_clear) B.pre w (List.mem_cons_of_mem _ h9)
  have hown : s.vm.findClass R_Steps = some m.cls := findClass_of_methodNamed B.named
  have hlocks := B.notSynchronized
  subst hsz
  have hN : bw_N (bw_A [adSteps a0] s.heap.size) [adSteps a0] := hN0.self s.heap.size
  generalize hAe : bw_A [adSteps a0] s.heap.size = A at hN ⊢
  have hA : ∀ q : Nat, s.heap.size ≤ q → A q := fun q h => by rw [← hAe]; exact Or.inr h
  have hS : va_S A s.heap s.heap [] := va_S.rf
  have hl := lv_entry ([.ref (a0 0)]) (n := 1) (Nat.le_of_ble_eq_true rfl)
  rw [lg_entry_eq]
  generalize (lg_sl ([.ref (a0 0)]) ++ List.replicate (1 - (lg_sl ([.ref (a0 0)])).length) Slot.unset).toArray = ls at hl ⊢
  have hl : lv_has ls 1 [(0, .ref (a0 0))] := hl
  have C0 : cx wsAll vwCl nx p s m [.ref (a0 0)].toArray meth c (dC, dI) (tyA ct) b_Steps_clear 1 (none : Option Jvm.ClassFile.FieldType) R_Steps A [adSteps a0] := ⟨hx, hb, hr, hml, hown, hlocks, hts, hK, hN, hA, hnx⟩
  have h := hF
  rw [F_Steps_clear] at h
  refine lv_aload_n hx hb d_Steps_clear_0 rfl (lv_at hl 0 rfl) ?_
  refine lv_iconst (v := 0) hx hb d_Steps_clear_1 (by decide) ?_
  refine bw_put (D := (dC, dI)) (ci := 0) (v := .int (0 : Int32)) (ty := .int) (C := R_Steps) (T := T_Steps) (N := 7) hx hb hts in_Steps ty_Steps tyok_Steps nm_Steps hown hK hP hN hS 0 0 rfl rfl rfl 3 (by decide) (hts _ fl_Steps_21) (fun _ h9 => h9) rfl (by decide +kernel) rfl rfl (Nat.le_of_ble_eq_true rfl) d_Steps_clear_2 (fun H locs hP hS => ?_)
  have hP : bw_P (dC, dI) vwCl [wSteps ct a0 (s32 o0 3 0 (0 : Int32))] H := hP
  refine lv_aload_n hx hb d_Steps_clear_5 rfl (lv_at hl 0 rfl) ?_
  refine lv_iconst (v := 0) hx hb d_Steps_clear_6 (by decide) ?_
  refine bw_put (D := (dC, dI)) (ci := 0) (v := .int (0 : Int32)) (ty := .int) (C := R_Steps) (T := T_Steps) (N := 7) hx hb hts in_Steps ty_Steps tyok_Steps nm_Steps hown hK hP hN hS 0 0 rfl rfl rfl 6 (by decide) (hts _ fl_Steps_32) (fun _ h9 => h9) rfl (by decide +kernel) rfl rfl (Nat.le_of_ble_eq_true rfl) d_Steps_clear_7 (fun H locs hP hS => ?_)
  have hP : bw_P (dC, dI) vwCl [wSteps ct a0 (s32 (s32 o0 3 0 (0 : Int32)) 6 0 (0 : Int32))] H := hP
  refine lv_aload_n hx hb d_Steps_clear_10 rfl (lv_at hl 0 rfl) ?_
  refine va_get (D := (dC, dI)) (ci := 0) (v := .ref (a0 4)) (C := R_Steps) (T := T_Steps) (N := 7) hx hb hts in_Steps hown hK (hP 0 _ rfl) 0 rfl rfl 4 (by decide) (hts _ fl_Steps_25) (fun _ h9 => h9) rfl d_Steps_clear_11 ?_
  refine lv_iconst (v := 0) hx hb d_Steps_clear_14 (by decide) ?_
  refine lv_iconst (v := 0) hx hb d_Steps_clear_15 (by decide) ?_
  obtain ⟨hi1, h⟩ := chk_some h
  refine bw_iast hx hb hK hP hN hS 0 4 0 rfl rfl rfl (inb_in hi1) d_Steps_clear_16 (fun H locs hP hS => ?_)
  have hP : bw_P (dC, dI) vwCl [wSteps ct a0 (s32 (s32 (s32 o0 3 0 (0 : Int32)) 6 0 (0 : Int32)) 4 (Int32.toNatClampNeg (0 : Int32)) (0 : Int32))] H := hP
  cases h
  exact W.vret hx hb hr (fun t ht hW => ⟨rfl, by rw [ht]; exact hP, hS.F ht⟩) hS.2.2 d_Steps_clear_17
def F_Steps_add (x1 : Int32) (x2 : Int32) (x3 : Int32) (o0 : Ob) : Option (Ob) :=
  if (400 : Int32) ≤ (g32 o0 3 0) then (some o0) else (chk (inb (g32 o0 3 0) 400) (some (s32 (s32 (s32 (s32 o0 0 (Int32.toNatClampNeg (g32 o0 3 0)) x1) 1 (Int32.toNatClampNeg (g32 o0 3 0)) x2) 2 (Int32.toNatClampNeg (g32 o0 3 0)) x3) 3 0 ((g32 o0 3 0) + (1 : Int32)))))
abbrev ws_Steps_add : List Cond := Cond.code y_Steps_add b_Steps_add 4 (none : Option Jvm.ClassFile.FieldType) :: wsAll
abbrev rm_Steps_add : Room := { frames := 0, cells := 0, slots := 0, locals := 0 }
set_option maxHeartbeats 4000000 in
set_option maxRecDepth 100000 in
theorem c_Steps_add (l : Launch) (ct dC : Nat → ClassId) (dI : Nat → Nat → Nat) (a0 : Nat → Nat)  (sz : Nat) (x1 : Int32) (x2 : Int32) (x3 : Int32) (o0 : Ob) (n0 : Ob) (hF : F_Steps_add x1 x2 x3 o0 = some n0) : Met l y_Steps_add ws_Steps_add rm_Steps_add (bw_Pc [.ref (a0 0), .int x1, .int x2, .int x3] (dC, dI) vwCl (tyA ct) [wSteps ct a0 o0] sz nx) (bw_Q (dC, dI) vwCl none [wSteps ct a0 n0] (bw_A [adSteps a0] sz)) 0 0 (bw_A [adSteps a0] sz) := by
  refine Met.ofW (cc := b_Steps_add) (maxL := 4) (ret := (none : Option Jvm.ClassFile.FieldType)) (by decide) rfl ?_
  intro p e s m args below meth c s₁ B hml hv
  obtain ⟨rfl, hsz, hP, hK, hN0, hnx⟩ := hv
  have hx := B.exec
  have hb := B.bytes
  have hr := B.returns
  have hts : ∀ w ∈ wsAll, w.before [.ref (a0 0), .int x1, .int x2, .int x3].toArray s = true := fun w h9 => atoms_spec (ws := ws_Steps_add) B.pre w (List.mem_cons_of_mem _ h9)
  have hown : s.vm.findClass R_Steps = some m.cls := findClass_of_methodNamed B.named
  have hlocks := B.notSynchronized
  subst hsz
  have hN : bw_N (bw_A [adSteps a0] s.heap.size) [adSteps a0] := hN0.self s.heap.size
  generalize hAe : bw_A [adSteps a0] s.heap.size = A at hN ⊢
  have hA : ∀ q : Nat, s.heap.size ≤ q → A q := fun q h => by rw [← hAe]; exact Or.inr h
  have hS : va_S A s.heap s.heap [] := va_S.rf
  have hl := lv_entry ([.ref (a0 0), .int x1, .int x2, .int x3]) (n := 4) (Nat.le_of_ble_eq_true rfl)
  rw [lg_entry_eq]
  generalize (lg_sl ([.ref (a0 0), .int x1, .int x2, .int x3]) ++ List.replicate (4 - (lg_sl ([.ref (a0 0), .int x1, .int x2, .int x3])).length) Slot.unset).toArray = ls at hl ⊢
  have hl : lv_has ls 4 [(0, .ref (a0 0)), (1, .int x1), (2, .int x2), (3, .int x3)] := hl
  have C0 : cx wsAll vwCl nx p s m [.ref (a0 0), .int x1, .int x2, .int x3].toArray meth c (dC, dI) (tyA ct) b_Steps_add 4 (none : Option Jvm.ClassFile.FieldType) R_Steps A [adSteps a0] := ⟨hx, hb, hr, hml, hown, hlocks, hts, hK, hN, hA, hnx⟩
  have h := hF
  rw [F_Steps_add] at h
  refine lv_aload_n hx hb d_Steps_add_0 rfl (lv_at hl 0 rfl) ?_
  refine va_get (D := (dC, dI)) (ci := 0) (v := .int (g32 o0 3 0)) (C := R_Steps) (T := T_Steps) (N := 7) hx hb hts in_Steps hown hK (hP 0 _ rfl) 0 rfl rfl 3 (by decide) (hts _ fl_Steps_21) (fun _ h9 => h9) rfl d_Steps_add_1 ?_
  refine lv_sipush (v := 400) hx hb d_Steps_add_4 (by decide) ?_
  refine lv_icmp_ge (tgt := 50) hx hb d_Steps_add_7 (by decide) (fun c1 => ?_) (fun c1 => ?_)
  · have h := ite_t c1 h
    cases h
    exact W.vret hx hb hr (fun t ht hW => ⟨rfl, by rw [ht]; exact hP, hS.F ht⟩) hS.2.2 d_Steps_add_50
  · have h := ite_f c1 h
    refine lv_aload_n hx hb d_Steps_add_10 rfl (lv_at hl 0 rfl) ?_
    refine va_get (D := (dC, dI)) (ci := 0) (v := .ref (a0 1)) (C := R_Steps) (T := T_Steps) (N := 7) hx hb hts in_Steps hown hK (hP 0 _ rfl) 0 rfl rfl 0 (by decide) (hts _ fl_Steps_9) (fun _ h9 => h9) rfl d_Steps_add_11 ?_
    refine lv_aload_n hx hb d_Steps_add_14 rfl (lv_at hl 0 rfl) ?_
    refine va_get (D := (dC, dI)) (ci := 0) (v := .int (g32 o0 3 0)) (C := R_Steps) (T := T_Steps) (N := 7) hx hb hts in_Steps hown hK (hP 0 _ rfl) 0 rfl rfl 3 (by decide) (hts _ fl_Steps_21) (fun _ h9 => h9) rfl d_Steps_add_15 ?_
    refine lv_iload_n hx hb d_Steps_add_18 rfl (lv_at hl 1 rfl) ?_
    obtain ⟨hi2, h⟩ := chk_some h
    refine bw_iast hx hb hK hP hN hS 0 1 0 rfl rfl rfl (inb_in hi2) d_Steps_add_19 (fun H locs hP hS => ?_)
    have hP : bw_P (dC, dI) vwCl [wSteps ct a0 (s32 o0 0 (Int32.toNatClampNeg (g32 o0 3 0)) x1)] H := hP
    refine lv_aload_n hx hb d_Steps_add_20 rfl (lv_at hl 0 rfl) ?_
    refine va_get (D := (dC, dI)) (ci := 0) (v := .ref (a0 2)) (C := R_Steps) (T := T_Steps) (N := 7) hx hb hts in_Steps hown hK (hP 0 _ rfl) 0 rfl rfl 1 (by decide) (hts _ fl_Steps_15) (fun _ h9 => h9) rfl d_Steps_add_21 ?_
    refine lv_aload_n hx hb d_Steps_add_24 rfl (lv_at hl 0 rfl) ?_
    refine va_get (D := (dC, dI)) (ci := 0) (v := .int (g32 o0 3 0)) (C := R_Steps) (T := T_Steps) (N := 7) hx hb hts in_Steps hown hK (hP 0 _ rfl) 0 rfl rfl 3 (by decide) (hts _ fl_Steps_21) (fun _ h9 => h9) rfl d_Steps_add_25 ?_
    refine lv_iload_n hx hb d_Steps_add_28 rfl (lv_at hl 2 rfl) ?_
    refine bw_iast hx hb hK hP hN hS 0 2 0 rfl rfl rfl (inb_in hi2) d_Steps_add_29 (fun H locs hP hS => ?_)
    have hP : bw_P (dC, dI) vwCl [wSteps ct a0 (s32 (s32 o0 0 (Int32.toNatClampNeg (g32 o0 3 0)) x1) 1 (Int32.toNatClampNeg (g32 o0 3 0)) x2)] H := hP
    refine lv_aload_n hx hb d_Steps_add_30 rfl (lv_at hl 0 rfl) ?_
    refine va_get (D := (dC, dI)) (ci := 0) (v := .ref (a0 3)) (C := R_Steps) (T := T_Steps) (N := 7) hx hb hts in_Steps hown hK (hP 0 _ rfl) 0 rfl rfl 2 (by decide) (hts _ fl_Steps_18) (fun _ h9 => h9) rfl d_Steps_add_31 ?_
    refine lv_aload_n hx hb d_Steps_add_34 rfl (lv_at hl 0 rfl) ?_
    refine va_get (D := (dC, dI)) (ci := 0) (v := .int (g32 o0 3 0)) (C := R_Steps) (T := T_Steps) (N := 7) hx hb hts in_Steps hown hK (hP 0 _ rfl) 0 rfl rfl 3 (by decide) (hts _ fl_Steps_21) (fun _ h9 => h9) rfl d_Steps_add_35 ?_
    refine lv_iload_n hx hb d_Steps_add_38 rfl (lv_at hl 3 rfl) ?_
    refine bw_iast hx hb hK hP hN hS 0 3 0 rfl rfl rfl (inb_in hi2) d_Steps_add_39 (fun H locs hP hS => ?_)
    have hP : bw_P (dC, dI) vwCl [wSteps ct a0 (s32 (s32 (s32 o0 0 (Int32.toNatClampNeg (g32 o0 3 0)) x1) 1 (Int32.toNatClampNeg (g32 o0 3 0)) x2) 2 (Int32.toNatClampNeg (g32 o0 3 0)) x3)] H := hP
    refine lv_aload_n hx hb d_Steps_add_40 rfl (lv_at hl 0 rfl) ?_
    refine lv_dup hx hb d_Steps_add_41 rfl ?_
    refine va_get (D := (dC, dI)) (ci := 0) (v := .int (g32 o0 3 0)) (C := R_Steps) (T := T_Steps) (N := 7) hx hb hts in_Steps hown hK (hP 0 _ rfl) 0 rfl rfl 3 (by decide) (hts _ fl_Steps_21) (fun _ h9 => h9) rfl d_Steps_add_42 ?_
    refine lv_iconst (v := 1) hx hb d_Steps_add_45 (by decide) ?_
    refine lv_iadd hx hb d_Steps_add_46 ?_
    refine bw_put (D := (dC, dI)) (ci := 0) (v := .int ((g32 o0 3 0) + (1 : Int32))) (ty := .int) (C := R_Steps) (T := T_Steps) (N := 7) hx hb hts in_Steps ty_Steps tyok_Steps nm_Steps hown hK hP hN hS 0 0 rfl rfl rfl 3 (by decide) (hts _ fl_Steps_21) (fun _ h9 => h9) rfl (by decide +kernel) rfl rfl (Nat.le_of_ble_eq_true rfl) d_Steps_add_47 (fun H locs hP hS => ?_)
    have hP : bw_P (dC, dI) vwCl [wSteps ct a0 (s32 (s32 (s32 (s32 o0 0 (Int32.toNatClampNeg (g32 o0 3 0)) x1) 1 (Int32.toNatClampNeg (g32 o0 3 0)) x2) 2 (Int32.toNatClampNeg (g32 o0 3 0)) x3) 3 0 ((g32 o0 3 0) + (1 : Int32)))] H := hP
    cases h
    exact W.vret hx hb hr (fun t ht hW => ⟨rfl, by rw [ht]; exact hP, hS.F ht⟩) hS.2.2 d_Steps_add_50
def F_Steps_endExpression (x1 : Int32) (o0 : Ob) : Option (Ob) :=
  if (400 : Int32) ≤ (g32 o0 6 0) then (some o0) else (chk (inb (g32 o0 6 0) 401) (chk (inb ((g32 o0 6 0) + (1 : Int32)) 401) (some (s32 (s32 (s32 o0 5 (Int32.toNatClampNeg (g32 o0 6 0)) (vp_nar .char x1)) 6 0 ((g32 o0 6 0) + (1 : Int32))) 4 (Int32.toNatClampNeg ((g32 o0 6 0) + (1 : Int32))) (g32 o0 3 0)))))
abbrev ws_Steps_endExpression : List Cond := Cond.code y_Steps_endExpression b_Steps_endExpression 2 (none : Option Jvm.ClassFile.FieldType) :: wsAll
abbrev rm_Steps_endExpression : Room := { frames := 0, cells := 0, slots := 0, locals := 0 }
set_option maxHeartbeats 4000000 in
set_option maxRecDepth 100000 in
theorem c_Steps_endExpression (l : Launch) (ct dC : Nat → ClassId) (dI : Nat → Nat → Nat) (a0 : Nat → Nat)  (sz : Nat) (x1 : Int32) (o0 : Ob) (n0 : Ob) (hF : F_Steps_endExpression x1 o0 = some n0) : Met l y_Steps_endExpression ws_Steps_endExpression rm_Steps_endExpression (bw_Pc [.ref (a0 0), .int x1] (dC, dI) vwCl (tyA ct) [wSteps ct a0 o0] sz nx) (bw_Q (dC, dI) vwCl none [wSteps ct a0 n0] (bw_A [adSteps a0] sz)) 0 0 (bw_A [adSteps a0] sz) := by
  refine Met.ofW (cc := b_Steps_endExpression) (maxL := 2) (ret := (none : Option Jvm.ClassFile.FieldType)) (by decide) rfl ?_
  intro p e s m args below meth c s₁ B hml hv
  obtain ⟨rfl, hsz, hP, hK, hN0, hnx⟩ := hv
  have hx := B.exec
  have hb := B.bytes
  have hr := B.returns
  have hts : ∀ w ∈ wsAll, w.before [.ref (a0 0), .int x1].toArray s = true := fun w h9 => atoms_spec (ws := ws_Steps_endExpression) B.pre w (List.mem_cons_of_mem _ h9)
  have hown : s.vm.findClass R_Steps = some m.cls := findClass_of_methodNamed B.named
  have hlocks := B.notSynchronized
  subst hsz
  have hN : bw_N (bw_A [adSteps a0] s.heap.size) [adSteps a0] := hN0.self s.heap.size
  generalize hAe : bw_A [adSteps a0] s.heap.size = A at hN ⊢
  have hA : ∀ q : Nat, s.heap.size ≤ q → A q := fun q h => by rw [← hAe]; exact Or.inr h
  have hS : va_S A s.heap s.heap [] := va_S.rf
  have hl := lv_entry ([.ref (a0 0), .int x1]) (n := 2) (Nat.le_of_ble_eq_true rfl)
  rw [lg_entry_eq]
  generalize (lg_sl ([.ref (a0 0), .int x1]) ++ List.replicate (2 - (lg_sl ([.ref (a0 0), .int x1])).length) Slot.unset).toArray = ls at hl ⊢
  have hl : lv_has ls 2 [(0, .ref (a0 0)), (1, .int x1)] := hl
  have C0 : cx wsAll vwCl nx p s m [.ref (a0 0), .int x1].toArray meth c (dC, dI) (tyA ct) b_Steps_endExpression 2 (none : Option Jvm.ClassFile.FieldType) R_Steps A [adSteps a0] := ⟨hx, hb, hr, hml, hown, hlocks, hts, hK, hN, hA, hnx⟩
  have h := hF
  rw [F_Steps_endExpression] at h
  refine lv_aload_n hx hb d_Steps_endExpression_0 rfl (lv_at hl 0 rfl) ?_
  refine va_get (D := (dC, dI)) (ci := 0) (v := .int (g32 o0 6 0)) (C := R_Steps) (T := T_Steps) (N := 7) hx hb hts in_Steps hown hK (hP 0 _ rfl) 0 rfl rfl 6 (by decide) (hts _ fl_Steps_32) (fun _ h9 => h9) rfl d_Steps_endExpression_1 ?_
  refine lv_sipush (v := 400) hx hb d_Steps_endExpression_4 (by decide) ?_
  refine lv_icmp_ge (tgt := 43) hx hb d_Steps_endExpression_7 (by decide) (fun c1 => ?_) (fun c1 => ?_)
  · have h := ite_t c1 h
    cases h
    exact W.vret hx hb hr (fun t ht hW => ⟨rfl, by rw [ht]; exact hP, hS.F ht⟩) hS.2.2 d_Steps_endExpression_43
  · have h := ite_f c1 h
    refine lv_aload_n hx hb d_Steps_endExpression_10 rfl (lv_at hl 0 rfl) ?_
    refine va_get (D := (dC, dI)) (ci := 0) (v := .ref (a0 5)) (C := R_Steps) (T := T_Steps) (N := 7) hx hb hts in_Steps hown hK (hP 0 _ rfl) 0 rfl rfl 5 (by decide) (hts _ fl_Steps_28) (fun _ h9 => h9) rfl d_Steps_endExpression_11 ?_
    refine lv_aload_n hx hb d_Steps_endExpression_14 rfl (lv_at hl 0 rfl) ?_
    refine va_get (D := (dC, dI)) (ci := 0) (v := .int (g32 o0 6 0)) (C := R_Steps) (T := T_Steps) (N := 7) hx hb hts in_Steps hown hK (hP 0 _ rfl) 0 rfl rfl 6 (by decide) (hts _ fl_Steps_32) (fun _ h9 => h9) rfl d_Steps_endExpression_15 ?_
    refine lv_iload_n hx hb d_Steps_endExpression_18 rfl (lv_at hl 1 rfl) ?_
    obtain ⟨hi2, h⟩ := chk_some h
    refine bw_cast hx hb hK hP hN hS 0 5 2 rfl rfl rfl (inb_in hi2) d_Steps_endExpression_19 (fun H locs hP hS => ?_)
    have hP : bw_P (dC, dI) vwCl [wSteps ct a0 (s32 o0 5 (Int32.toNatClampNeg (g32 o0 6 0)) (vp_nar .char x1))] H := hP
    refine lv_aload_n hx hb d_Steps_endExpression_20 rfl (lv_at hl 0 rfl) ?_
    refine lv_dup hx hb d_Steps_endExpression_21 rfl ?_
    refine va_get (D := (dC, dI)) (ci := 0) (v := .int (g32 o0 6 0)) (C := R_Steps) (T := T_Steps) (N := 7) hx hb hts in_Steps hown hK (hP 0 _ rfl) 0 rfl rfl 6 (by decide) (hts _ fl_Steps_32) (fun _ h9 => h9) rfl d_Steps_endExpression_22 ?_
    refine lv_iconst (v := 1) hx hb d_Steps_endExpression_25 (by decide) ?_
    refine lv_iadd hx hb d_Steps_endExpression_26 ?_
    refine bw_put (D := (dC, dI)) (ci := 0) (v := .int ((g32 o0 6 0) + (1 : Int32))) (ty := .int) (C := R_Steps) (T := T_Steps) (N := 7) hx hb hts in_Steps ty_Steps tyok_Steps nm_Steps hown hK hP hN hS 0 0 rfl rfl rfl 6 (by decide) (hts _ fl_Steps_32) (fun _ h9 => h9) rfl (by decide +kernel) rfl rfl (Nat.le_of_ble_eq_true rfl) d_Steps_endExpression_27 (fun H locs hP hS => ?_)
    have hP : bw_P (dC, dI) vwCl [wSteps ct a0 (s32 (s32 o0 5 (Int32.toNatClampNeg (g32 o0 6 0)) (vp_nar .char x1)) 6 0 ((g32 o0 6 0) + (1 : Int32)))] H := hP
    refine lv_aload_n hx hb d_Steps_endExpression_30 rfl (lv_at hl 0 rfl) ?_
    refine va_get (D := (dC, dI)) (ci := 0) (v := .ref (a0 4)) (C := R_Steps) (T := T_Steps) (N := 7) hx hb hts in_Steps hown hK (hP 0 _ rfl) 0 rfl rfl 4 (by decide) (hts _ fl_Steps_25) (fun _ h9 => h9) rfl d_Steps_endExpression_31 ?_
    refine lv_aload_n hx hb d_Steps_endExpression_34 rfl (lv_at hl 0 rfl) ?_
    refine va_get (D := (dC, dI)) (ci := 0) (v := .int ((g32 o0 6 0) + (1 : Int32))) (C := R_Steps) (T := T_Steps) (N := 7) hx hb hts in_Steps hown hK (hP 0 _ rfl) 0 rfl rfl 6 (by decide) (hts _ fl_Steps_32) (fun _ h9 => h9) rfl d_Steps_endExpression_35 ?_
    refine lv_aload_n hx hb d_Steps_endExpression_38 rfl (lv_at hl 0 rfl) ?_
    refine va_get (D := (dC, dI)) (ci := 0) (v := .int (g32 o0 3 0)) (C := R_Steps) (T := T_Steps) (N := 7) hx hb hts in_Steps hown hK (hP 0 _ rfl) 0 rfl rfl 3 (by decide) (hts _ fl_Steps_21) (fun _ h9 => h9) rfl d_Steps_endExpression_39 ?_
    obtain ⟨hi3, h⟩ := chk_some h
    refine bw_iast hx hb hK hP hN hS 0 4 0 rfl rfl rfl (inb_in hi3) d_Steps_endExpression_42 (fun H locs hP hS => ?_)
    have hP : bw_P (dC, dI) vwCl [wSteps ct a0 (s32 (s32 (s32 o0 5 (Int32.toNatClampNeg (g32 o0 6 0)) (vp_nar .char x1)) 6 0 ((g32 o0 6 0) + (1 : Int32))) 4 (Int32.toNatClampNeg ((g32 o0 6 0) + (1 : Int32))) (g32 o0 3 0))] H := hP
    cases h
    exact W.vret hx hb hr (fun t ht hW => ⟨rfl, by rw [ht]; exact hP, hS.F ht⟩) hS.2.2 d_Steps_endExpression_43
theorem g_Text_55 : GoodIn wsAll (wsV R_Text 55 R_Steps y_Steps_clear ws_Steps_clear) := gd_V ml_Text_55 im_Steps_clear se_Steps_clear ini_Steps cd_Steps_clear
def F_Text_clear_24  : Nat → Int32 → Ob → Ob → Option (Ob × Ob)
  | 0, _, _, _ => none
  | n + 1, x1, o0, o1 =>
    if (60 : Int32) ≤ x1 then (some (o0, o1)) else (chk (inb x1 60) (F_Text_clear_24 n (x1 + (1 : Int32)) (s32 (s64 (s32 o0 7 (Int32.toNatClampNeg x1) (-1 : Int32)) 8 (Int32.toNatClampNeg x1) (0 : Int64)) 9 (Int32.toNatClampNeg x1) (0 : Int32)) o1))
def F_Text_clear  (o0 o1 : Ob) : Option (Ob × Ob) :=
  bind1 (F_Steps_clear o1) (fun o_2 => F_Text_clear_24 fuel (0 : Int32) (s32 (s32 (s32 o0 1 0 (0 : Int32)) 3 0 (0 : Int32)) 11 0 (0 : Int32)) o_2)
abbrev ws_Text_clear : List Cond := Cond.code y_Text_clear b_Text_clear 2 (none : Option Jvm.ClassFile.FieldType) :: wsAll
abbrev rm_Text_clear : Room := { frames := 1, cells := 0, slots := 0, locals := 20 }
set_option maxHeartbeats 4000000 in
set_option maxRecDepth 100000 in
theorem k_Text_clear_24 {p : Program} {l : Launch} {e : Env} {s : State} {m : MethodId} {args : Array Value} {below : List Frame} {meth : Method} {c : Code} {A : Nat → Prop} {ct dC : Nat → ClassId} {dI : Nat → Nat → Nat} {a0 a1 : Nat → Nat}  {n0 n1 : Ob}   (C0 : cx wsAll vwCl nx p s m args meth c (dC, dI) (tyA ct) b_Text_clear 2 (none : Option Jvm.ClassFile.FieldType) R_Text A [adText a0, adSteps a1])  : ∀ (n : Nat) (x1 : Int32) (o0 o1 : Ob) (H : Heap) (locs : List Loc) (ls : Array Slot), bw_P (dC, dI) vwCl [wText ct a0 (a1 0) o0, wSteps ct a1 o1] H → va_S A s.heap H locs → lv_has ls 2 [(0, .ref (a0 0)), (1, .int x1)] → F_Text_clear_24 n x1 o0 o1 = some (n0, n1) → W p l e (headSpec ws_Text_clear rm_Text_clear).room s m args below meth c H locs 0 0 (MQ below (bw_Q (dC, dI) vwCl none [wText ct a0 (a1 0) n0, wSteps ct a1 n1] A) args s 0 0 A) (F0 m 24 ls []) := by
  obtain ⟨hx, hb, hr, hml, hown, hlocks, hts, hK, hN, hA, hnx⟩ := id C0
  intro n
  induction n with
  | zero =>
    intro x1 o0 o1 H locs ls hP hS hl h
    cases h
  | succ n ih =>
    intro x1 o0 o1 H locs ls hP hS hl h
    rw [F_Text_clear_24] at h
    refine lv_iload_n hx hb d_Text_clear_24 rfl (lv_at hl 1 rfl) ?_
    refine lv_bipush (v := 60) hx hb d_Text_clear_25 (by decide) ?_
    refine lv_icmp_ge (tgt := 57) hx hb d_Text_clear_27 (by decide) (fun c3 => ?_) (fun c3 => ?_)
    · have h := ite_t c3 h
      cases h
      exact W.vret hx hb hr (fun t ht hW => ⟨rfl, by rw [ht]; exact hP, hS.F ht⟩) hS.2.2 d_Text_clear_57
    · have h := ite_f c3 h
      refine lv_aload_n hx hb d_Text_clear_30 rfl (lv_at hl 0 rfl) ?_
      refine va_get (D := (dC, dI)) (ci := 2) (v := .ref (a0 5)) (C := R_Text) (T := T_Text) (N := 12) hx hb hts in_Text hown hK (hP 0 _ rfl) 0 rfl rfl 7 (by decide) (hts _ fl_Text_39) (fun _ h9 => h9) rfl d_Text_clear_31 ?_
      refine lv_iload_n hx hb d_Text_clear_34 rfl (lv_at hl 1 rfl) ?_
      refine lv_iconst (v := -1) hx hb d_Text_clear_35 (by decide) ?_
      obtain ⟨hi4, h⟩ := chk_some h
      refine bw_iast hx hb hK hP hN hS 0 5 0 rfl rfl rfl (inb_in hi4) d_Text_clear_36 (fun H locs hP hS => ?_)
      have hP : bw_P (dC, dI) vwCl [wText ct a0 (a1 0) (s32 o0 7 (Int32.toNatClampNeg x1) (-1 : Int32)), wSteps ct a1 o1] H := hP
      refine lv_aload_n hx hb d_Text_clear_37 rfl (lv_at hl 0 rfl) ?_
      refine va_get (D := (dC, dI)) (ci := 2) (v := .ref (a0 6)) (C := R_Text) (T := T_Text) (N := 12) hx hb hts in_Text hown hK (hP 0 _ rfl) 0 rfl rfl 8 (by decide) (hts _ fl_Text_42) (fun _ h9 => h9) rfl d_Text_clear_38 ?_
      refine lv_iload_n hx hb d_Text_clear_41 rfl (lv_at hl 1 rfl) ?_
      refine lv_lconst (v := 0) hx hb d_Text_clear_42 (by decide) ?_
      refine bw_last hx hb hK hP hN hS 0 6 1 rfl rfl rfl (inb_in hi4) d_Text_clear_43 (fun H locs hP hS => ?_)
      have hP : bw_P (dC, dI) vwCl [wText ct a0 (a1 0) (s64 (s32 o0 7 (Int32.toNatClampNeg x1) (-1 : Int32)) 8 (Int32.toNatClampNeg x1) (0 : Int64)), wSteps ct a1 o1] H := hP
      refine lv_aload_n hx hb d_Text_clear_44 rfl (lv_at hl 0 rfl) ?_
      refine va_get (D := (dC, dI)) (ci := 2) (v := .ref (a0 7)) (C := R_Text) (T := T_Text) (N := 12) hx hb hts in_Text hown hK (hP 0 _ rfl) 0 rfl rfl 9 (by decide) (hts _ fl_Text_46) (fun _ h9 => h9) rfl d_Text_clear_45 ?_
      refine lv_iload_n hx hb d_Text_clear_48 rfl (lv_at hl 1 rfl) ?_
      refine lv_iconst (v := 0) hx hb d_Text_clear_49 (by decide) ?_
      refine bw_iast hx hb hK hP hN hS 0 7 0 rfl rfl rfl (inb_in hi4) d_Text_clear_50 (fun H locs hP hS => ?_)
      have hP : bw_P (dC, dI) vwCl [wText ct a0 (a1 0) (s32 (s64 (s32 o0 7 (Int32.toNatClampNeg x1) (-1 : Int32)) 8 (Int32.toNatClampNeg x1) (0 : Int64)) 9 (Int32.toNatClampNeg x1) (0 : Int32)), wSteps ct a1 o1] H := hP
      refine lv_iinc (v := (x1 + (1 : Int32))) (lv' := [(1, .int (x1 + (1 : Int32))), (0, .ref (a0 0))]) hx hb d_Text_clear_51 hl (k := 1) rfl rfl (by decide) rfl (fun ls hl => ?_)
      refine lv_goto (tgt := 24) hx hb d_Text_clear_54 (by decide) ?_
      exact ih (x1 + (1 : Int32)) (s32 (s64 (s32 o0 7 (Int32.toNatClampNeg x1) (-1 : Int32)) 8 (Int32.toNatClampNeg x1) (0 : Int64)) 9 (Int32.toNatClampNeg x1) (0 : Int32)) o1 _ _ _ hP hS (lv_sub hl [1, 0] rfl) h
set_option maxHeartbeats 4000000 in
set_option maxRecDepth 100000 in
theorem c_Text_clear (l : Launch) (ct dC : Nat → ClassId) (dI : Nat → Nat → Nat) (a0 a1 : Nat → Nat)  (sz : Nat)  (o0 o1 : Ob) (n0 n1 : Ob) (hF : F_Text_clear o0 o1 = some (n0, n1)) : Met l y_Text_clear ws_Text_clear rm_Text_clear (bw_Pc [.ref (a0 0)] (dC, dI) vwCl (tyA ct) [wText ct a0 (a1 0) o0, wSteps ct a1 o1] sz nx) (bw_Q (dC, dI) vwCl none [wText ct a0 (a1 0) n0, wSteps ct a1 n1] (bw_A [adText a0, adSteps a1] sz)) 0 0 (bw_A [adText a0, adSteps a1] sz) := by
  refine Met.ofW (cc := b_Text_clear) (maxL := 2) (ret := (none : Option Jvm.ClassFile.FieldType)) (by decide) rfl ?_
  intro p e s m args below meth c s₁ B hml hv
  obtain ⟨rfl, hsz, hP, hK, hN0, hnx⟩ := hv
  have hx := B.exec
  have hb := B.bytes
  have hr := B.returns
  have hts : ∀ w ∈ wsAll, w.before [.ref (a0 0)].toArray s = true := fun w h9 => atoms_spec (ws := ws_Text_clear) B.pre w (List.mem_cons_of_mem _ h9)
  have hown : s.vm.findClass R_Text = some m.cls := findClass_of_methodNamed B.named
  have hlocks := B.notSynchronized
  subst hsz
  have hN : bw_N (bw_A [adText a0, adSteps a1] s.heap.size) [adText a0, adSteps a1] := hN0.self s.heap.size
  generalize hAe : bw_A [adText a0, adSteps a1] s.heap.size = A at hN ⊢
  have hA : ∀ q : Nat, s.heap.size ≤ q → A q := fun q h => by rw [← hAe]; exact Or.inr h
  have hS : va_S A s.heap s.heap [] := va_S.rf
  have hl := lv_entry ([.ref (a0 0)]) (n := 2) (Nat.le_of_ble_eq_true rfl)
  rw [lg_entry_eq]
  generalize (lg_sl ([.ref (a0 0)]) ++ List.replicate (2 - (lg_sl ([.ref (a0 0)])).length) Slot.unset).toArray = ls at hl ⊢
  have hl : lv_has ls 2 [(0, .ref (a0 0))] := hl
  have C0 : cx wsAll vwCl nx p s m [.ref (a0 0)].toArray meth c (dC, dI) (tyA ct) b_Text_clear 2 (none : Option Jvm.ClassFile.FieldType) R_Text A [adText a0, adSteps a1] := ⟨hx, hb, hr, hml, hown, hlocks, hts, hK, hN, hA, hnx⟩
  have h := hF
  rw [F_Text_clear] at h
  refine lv_aload_n hx hb d_Text_clear_0 rfl (lv_at hl 0 rfl) ?_
  refine lv_iconst (v := 0) hx hb d_Text_clear_1 (by decide) ?_
  refine bw_put (D := (dC, dI)) (ci := 2) (v := .int (0 : Int32)) (ty := .int) (C := R_Text) (T := T_Text) (N := 12) hx hb hts in_Text ty_Text tyok_Text nm_Text hown hK hP hN hS 0 0 rfl rfl rfl 1 (by decide) (hts _ fl_Text_15) (fun _ h9 => h9) rfl (by decide +kernel) rfl rfl (Nat.le_of_ble_eq_true rfl) d_Text_clear_2 (fun H locs hP hS => ?_)
  have hP : bw_P (dC, dI) vwCl [wText ct a0 (a1 0) (s32 o0 1 0 (0 : Int32)), wSteps ct a1 o1] H := hP
  refine lv_aload_n hx hb d_Text_clear_5 rfl (lv_at hl 0 rfl) ?_
  refine va_get (D := (dC, dI)) (ci := 2) (v := .ref (a1 0)) (C := R_Text) (T := T_Text) (N := 12) hx hb hts in_Text hown hK (hP 0 _ rfl) 0 rfl rfl 2 (by decide) (hts _ fl_Text_22) (fun _ h9 => h9) rfl d_Text_clear_6 ?_
  obtain ⟨o_2, hG1, h⟩ := bind1_some h
  refine bw_call (Lc := [wSteps ct a1 o1]) (Lc' := [wSteps ct a1 o_2]) (L' := [wText ct a0 (a1 0) (s32 o0 1 0 (0 : Int32)), wSteps ct a1 o_2]) [1] (va_runV (As := []) (rest := []) ⟨hx, hb, hml, hown, hts⟩ (c_Steps_clear l ct dC dI a1 _ o1 o_2 hG1) (cwV 0 hts g_Text_55 rfl rfl rfl (by decide +kernel) ⟨Nat.le_of_ble_eq_true rfl, Nat.le_of_ble_eq_true rfl⟩) ⟨bw_blind nx_call, va_recv hK (hP 1 _ rfl) (ci := 0) (q0 := 0) rfl rfl, fun U hU hW => ⟨rfl, by rw [hU], by rw [hU]; exact hP.sub [1] rfl, va_K.moved hW.alike hK, (hN.sub [1] (by decide) rfl).weaken (fun _ _ => trivial), nx_warm hW hnx⟩⟩ rfl rfl hl.1 rfl (Nat.le_of_ble_eq_true rfl) d_Text_clear_9 ⟨Nat.le_of_ble_eq_true rfl, Nat.le_of_ble_eq_true rfl⟩) hP hN hS hA rfl rfl rfl (fun H locs hP hS => ?_)
  refine lv_aload_n hx hb d_Text_clear_12 rfl (lv_at hl 0 rfl) ?_
  refine lv_iconst (v := 0) hx hb d_Text_clear_13 (by decide) ?_
  refine bw_put (D := (dC, dI)) (ci := 2) (v := .int (0 : Int32)) (ty := .int) (C := R_Text) (T := T_Text) (N := 12) hx hb hts in_Text ty_Text tyok_Text nm_Text hown hK hP hN hS 0 0 rfl rfl rfl 3 (by decide) (hts _ fl_Text_26) (fun _ h9 => h9) rfl (by decide +kernel) rfl rfl (Nat.le_of_ble_eq_true rfl) d_Text_clear_14 (fun H locs hP hS => ?_)
  have hP : bw_P (dC, dI) vwCl [wText ct a0 (a1 0) (s32 (s32 o0 1 0 (0 : Int32)) 3 0 (0 : Int32)), wSteps ct a1 o_2] H := hP
  refine lv_aload_n hx hb d_Text_clear_17 rfl (lv_at hl 0 rfl) ?_
  refine lv_iconst (v := 0) hx hb d_Text_clear_18 (by decide) ?_
  refine bw_put (D := (dC, dI)) (ci := 2) (v := .int (0 : Int32)) (ty := .int) (C := R_Text) (T := T_Text) (N := 12) hx hb hts in_Text ty_Text tyok_Text nm_Text hown hK hP hN hS 0 0 rfl rfl rfl 11 (by decide) (hts _ fl_Text_52) (fun _ h9 => h9) rfl (by decide +kernel) rfl rfl (Nat.le_of_ble_eq_true rfl) d_Text_clear_19 (fun H locs hP hS => ?_)
  have hP : bw_P (dC, dI) vwCl [wText ct a0 (a1 0) (s32 (s32 (s32 o0 1 0 (0 : Int32)) 3 0 (0 : Int32)) 11 0 (0 : Int32)), wSteps ct a1 o_2] H := hP
  refine lv_iconst (v := 0) hx hb d_Text_clear_22 (by decide) ?_
  refine lv_istore_n (lv' := [(1, .int (0 : Int32)), (0, .ref (a0 0))]) hx hb d_Text_clear_23 rfl hl (by decide) rfl (fun ls hl => ?_)
  exact k_Text_clear_24 C0 fuel (0 : Int32) (s32 (s32 (s32 o0 1 0 (0 : Int32)) 3 0 (0 : Int32)) 11 0 (0 : Int32)) o_2 _ _ _ hP hS (lv_sub hl [1, 0] rfl) h
def F_Text_openCell  (o0 : Ob) : Option (Int32) :=
  if (g32 o0 3 0) ≤ 0 then (some (-1 : Int32)) else (chk (inb ((g32 o0 3 0) - (1 : Int32)) 24) (some (g32 o0 4 (Int32.toNatClampNeg ((g32 o0 3 0) - (1 : Int32))))))
abbrev ws_Text_openCell : List Cond := Cond.code y_Text_openCell b_Text_openCell 1 (some .int) :: wsAll
abbrev rm_Text_openCell : Room := { frames := 0, cells := 0, slots := 0, locals := 0 }
set_option maxHeartbeats 4000000 in
set_option maxRecDepth 100000 in
theorem c_Text_openCell (l : Launch) (ct dC : Nat → ClassId) (dI : Nat → Nat → Nat) (a0 : Nat → Nat) (r0_2 : Nat) (sz : Nat)  (o0 : Ob) (r : Int32) (hF : F_Text_openCell o0 = some r) : Met l y_Text_openCell ws_Text_openCell rm_Text_openCell (bw_Pc [.ref (a0 0)] (dC, dI) vwCl (tyA ct) [wText ct a0 r0_2 o0] sz nx) (bw_QR (some (.int r))) 0 0 (fun _ => False) := by
  refine Met.ofW (cc := b_Text_openCell) (maxL := 1) (ret := (some .int)) (by decide) rfl ?_
  intro p e s m args below meth c s₁ B hml hv
  obtain ⟨rfl, hsz, hP, hK, hN0, hnx⟩ := hv
  have hx := B.exec
  have hb := B.bytes
  have hr := B.returns
  have hts : ∀ w ∈ wsAll, w.before [.ref (a0 0)].toArray s = true := fun w h9 => atoms_spec (ws := ws_Text_openCell) B.pre w (List.mem_cons_of_mem _ h9)
  have hown : s.vm.findClass R_Text = some m.cls := findClass_of_methodNamed B.named
  have hlocks := B.notSynchronized
  subst hsz
  have hN : bw_N (fun _ => True) [adText a0] := hN0
  generalize hAe : (fun _ : Nat => True) = A at hN
  have hA : ∀ q : Nat, s.heap.size ≤ q → A q := fun q _ => by rw [← hAe]; trivial
  have hS : s.heap = s.heap ∧ ([] : List Loc) = [] := ⟨rfl, rfl⟩
  have hl := lv_entry ([.ref (a0 0)]) (n := 1) (Nat.le_of_ble_eq_true rfl)
  rw [lg_entry_eq]
  generalize (lg_sl ([.ref (a0 0)]) ++ List.replicate (1 - (lg_sl ([.ref (a0 0)])).length) Slot.unset).toArray = ls at hl ⊢
  have hl : lv_has ls 1 [(0, .ref (a0 0))] := hl
  have C0 : cx wsAll vwCl nx p s m [.ref (a0 0)].toArray meth c (dC, dI) (tyA ct) b_Text_openCell 1 (some .int) R_Text A [adText a0] := ⟨hx, hb, hr, hml, hown, hlocks, hts, hK, hN, hA, hnx⟩
  have h := hF
  rw [F_Text_openCell] at h
  refine lv_aload_n hx hb d_Text_openCell_0 rfl (lv_at hl 0 rfl) ?_
  refine va_get (D := (dC, dI)) (ci := 2) (v := .int (g32 o0 3 0)) (C := R_Text) (T := T_Text) (N := 12) hx hb hts in_Text hown hK (hP 0 _ rfl) 0 rfl rfl 3 (by decide) (hts _ fl_Text_26) (fun _ h9 => h9) rfl d_Text_openCell_1 ?_
  refine lv_if_le (tgt := 21) hx hb d_Text_openCell_4 (by decide) (fun c1 => ?_) (fun c1 => ?_)
  · have h := ite_t c1 h
    refine lv_iconst (v := -1) hx hb d_Text_openCell_21 (by decide) ?_
    cases h
    exact W.iret hx hb hr (fun t ht hW => ⟨rfl, ht.trans hS.1⟩) (bw_nil hS.2) d_Text_openCell_22
  · have h := ite_f c1 h
    refine lv_aload_n hx hb d_Text_openCell_7 rfl (lv_at hl 0 rfl) ?_
    refine va_get (D := (dC, dI)) (ci := 2) (v := .ref (a0 2)) (C := R_Text) (T := T_Text) (N := 12) hx hb hts in_Text hown hK (hP 0 _ rfl) 0 rfl rfl 4 (by decide) (hts _ fl_Text_29) (fun _ h9 => h9) rfl d_Text_openCell_8 ?_
    refine lv_aload_n hx hb d_Text_openCell_11 rfl (lv_at hl 0 rfl) ?_
    refine va_get (D := (dC, dI)) (ci := 2) (v := .int (g32 o0 3 0)) (C := R_Text) (T := T_Text) (N := 12) hx hb hts in_Text hown hK (hP 0 _ rfl) 0 rfl rfl 3 (by decide) (hts _ fl_Text_26) (fun _ h9 => h9) rfl d_Text_openCell_12 ?_
    refine lv_iconst (v := 1) hx hb d_Text_openCell_15 (by decide) ?_
    refine lv_isub hx hb d_Text_openCell_16 ?_
    obtain ⟨hi2, h⟩ := chk_some h
    refine va_iald (f := g32 o0 4) hx hb hK (hP 0 _ rfl) 2 0 rfl rfl (inb_in hi2) d_Text_openCell_17 ?_
    refine lv_goto (tgt := 22) hx hb d_Text_openCell_18 (by decide) ?_
    cases h
    exact W.iret hx hb hr (fun t ht hW => ⟨rfl, ht.trans hS.1⟩) (bw_nil hS.2) d_Text_openCell_22
theorem g_Text_61 : GoodIn wsAll (wsV R_Text 61 R_Steps y_Steps_add ws_Steps_add) := gd_V ml_Text_61 im_Steps_add se_Steps_add ini_Steps cd_Steps_add
theorem g_Text_65 : GoodIn wsAll (wsV R_Text 65 R_Text y_Text_openCell ws_Text_openCell) := gd_V ml_Text_65 im_Text_openCell se_Text_openCell ini_Text cd_Text_openCell
def F_Text_mentionCell (x1 : Int32) (o0 o1 : Ob) : Option (Ob × Ob) :=
  bind1 (F_Steps_add (3 : Int32) x1 (0 : Int32) o1) (fun o_2 => bind1 (F_Text_openCell o0) (fun v4 => if v4 = (-1 : Int32) then (some (o0, o_2)) else (chk (inb v4 60) (some ((s64 o0 8 (Int32.toNatClampNeg v4) ((g64 o0 8 (Int32.toNatClampNeg v4)) ||| (lshl (1 : Int64) x1))), o_2)))))
abbrev ws_Text_mentionCell : List Cond := Cond.code y_Text_mentionCell b_Text_mentionCell 3 (none : Option Jvm.ClassFile.FieldType) :: wsAll
abbrev rm_Text_mentionCell : Room := { frames := 1, cells := 0, slots := 0, locals := 23 }
set_option maxHeartbeats 4000000 in
set_option maxRecDepth 100000 in
theorem c_Text_mentionCell (l : Launch) (ct dC : Nat → ClassId) (dI : Nat → Nat → Nat) (a0 a1 : Nat → Nat)  (sz : Nat) (x1 : Int32) (o0 o1 : Ob) (n0 n1 : Ob) (hF : F_Text_mentionCell x1 o0 o1 = some (n0, n1)) : Met l y_Text_mentionCell ws_Text_mentionCell rm_Text_mentionCell (bw_Pc [.ref (a0 0), .int x1] (dC, dI) vwCl (tyA ct) [wText ct a0 (a1 0) o0, wSteps ct a1 o1] sz nx) (bw_Q (dC, dI) vwCl none [wText ct a0 (a1 0) n0, wSteps ct a1 n1] (bw_A [adText a0, adSteps a1] sz)) 0 0 (bw_A [adText a0, adSteps a1] sz) := by
  refine Met.ofW (cc := b_Text_mentionCell) (maxL := 3) (ret := (none : Option Jvm.ClassFile.FieldType)) (by decide) rfl ?_
  intro p e s m args below meth c s₁ B hml hv
  obtain ⟨rfl, hsz, hP, hK, hN0, hnx⟩ := hv
  have hx := B.exec
  have hb := B.bytes
  have hr := B.returns
  have hts : ∀ w ∈ wsAll, w.before [.ref (a0 0), .int x1].toArray s = true := fun w h9 => atoms_spec (ws := ws_Text_mentionCell) B.pre w (List.mem_cons_of_mem _ h9)
  have hown : s.vm.findClass R_Text = some m.cls := findClass_of_methodNamed B.named
  have hlocks := B.notSynchronized
  subst hsz
  have hN : bw_N (bw_A [adText a0, adSteps a1] s.heap.size) [adText a0, adSteps a1] := hN0.self s.heap.size
  generalize hAe : bw_A [adText a0, adSteps a1] s.heap.size = A at hN ⊢
  have hA : ∀ q : Nat, s.heap.size ≤ q → A q := fun q h => by rw [← hAe]; exact Or.inr h
  have hS : va_S A s.heap s.heap [] := va_S.rf
  have hl := lv_entry ([.ref (a0 0), .int x1]) (n := 3) (Nat.le_of_ble_eq_true rfl)
  rw [lg_entry_eq]
  generalize (lg_sl ([.ref (a0 0), .int x1]) ++ List.replicate (3 - (lg_sl ([.ref (a0 0), .int x1])).length) Slot.unset).toArray = ls at hl ⊢
  have hl : lv_has ls 3 [(0, .ref (a0 0)), (1, .int x1)] := hl
  have C0 : cx wsAll vwCl nx p s m [.ref (a0 0), .int x1].toArray meth c (dC, dI) (tyA ct) b_Text_mentionCell 3 (none : Option Jvm.ClassFile.FieldType) R_Text A [adText a0, adSteps a1] := ⟨hx, hb, hr, hml, hown, hlocks, hts, hK, hN, hA, hnx⟩
  have h := hF
  rw [F_Text_mentionCell] at h
  refine lv_aload_n hx hb d_Text_mentionCell_0 rfl (lv_at hl 0 rfl) ?_
  refine va_get (D := (dC, dI)) (ci := 2) (v := .ref (a1 0)) (C := R_Text) (T := T_Text) (N := 12) hx hb hts in_Text hown hK (hP 0 _ rfl) 0 rfl rfl 2 (by decide) (hts _ fl_Text_22) (fun _ h9 => h9) rfl d_Text_mentionCell_1 ?_
  refine lv_iconst (v := 3) hx hb d_Text_mentionCell_4 (by decide) ?_
  refine lv_iload_n hx hb d_Text_mentionCell_5 rfl (lv_at hl 1 rfl) ?_
  refine lv_iconst (v := 0) hx hb d_Text_mentionCell_6 (by decide) ?_
  obtain ⟨o_2, hG1, h⟩ := bind1_some h
  refine bw_call (Lc := [wSteps ct a1 o1]) (Lc' := [wSteps ct a1 o_2]) (L' := [wText ct a0 (a1 0) o0, wSteps ct a1 o_2]) [1] (va_runV (As := [.int (3 : Int32), .int x1, .int (0 : Int32)]) (rest := []) ⟨hx, hb, hml, hown, hts⟩ (c_Steps_add l ct dC dI a1 _ (3 : Int32) x1 (0 : Int32) o1 o_2 hG1) (cwV 3 hts g_Text_61 rfl rfl rfl (by decide +kernel) ⟨Nat.le_of_ble_eq_true rfl, Nat.le_of_ble_eq_true rfl⟩) ⟨bw_blind nx_call, va_recv hK (hP 1 _ rfl) (ci := 0) (q0 := 0) rfl rfl, fun U hU hW => ⟨rfl, by rw [hU], by rw [hU]; exact hP.sub [1] rfl, va_K.moved hW.alike hK, (hN.sub [1] (by decide) rfl).weaken (fun _ _ => trivial), nx_warm hW hnx⟩⟩ rfl rfl hl.1 rfl (Nat.le_of_ble_eq_true rfl) d_Text_mentionCell_7 ⟨Nat.le_of_ble_eq_true rfl, Nat.le_of_ble_eq_true rfl⟩) hP hN hS hA rfl rfl rfl (fun H locs hP hS => ?_)
  refine lv_aload_n hx hb d_Text_mentionCell_10 rfl (lv_at hl 0 rfl) ?_
  obtain ⟨v4, hG3, h⟩ := bind1_some h
  refine bw_callR (va_runV (As := []) (rest := []) ⟨hx, hb, hml, hown, hts⟩ (c_Text_openCell l ct dC dI a0 (a1 0) _ o0 v4 hG3) (cwV 0 hts g_Text_65 rfl rfl rfl (by decide +kernel) ⟨Nat.le_of_ble_eq_true rfl, Nat.le_of_ble_eq_true rfl⟩) ⟨bw_blind nx_call, va_recv hK (hP 0 _ rfl) (ci := 2) (q0 := 0) rfl rfl, fun U hU hW => ⟨rfl, by rw [hU], by rw [hU]; exact hP.sub [0] rfl, va_K.moved hW.alike hK, (hN.sub [0] (by decide) rfl).weaken (fun _ _ => trivial), nx_warm hW hnx⟩⟩ rfl rfl hl.1 rfl (Nat.le_of_ble_eq_true rfl) d_Text_mentionCell_11 ⟨Nat.le_of_ble_eq_true rfl, Nat.le_of_ble_eq_true rfl⟩) ?_
  refine lv_istore_n (lv' := [(2, .int v4), (0, .ref (a0 0)), (1, .int x1)]) hx hb d_Text_mentionCell_14 rfl hl (by decide) rfl (fun ls hl => ?_)
  refine lv_iload_n hx hb d_Text_mentionCell_15 rfl (lv_at hl 0 rfl) ?_
  refine lv_iconst (v := -1) hx hb d_Text_mentionCell_16 (by decide) ?_
  refine lv_icmp_eq (tgt := 32) hx hb d_Text_mentionCell_17 (by decide) (fun c5 => ?_) (fun c5 => ?_)
  · have h := ite_t c5 h
    cases h
    exact W.vret hx hb hr (fun t ht hW => ⟨rfl, by rw [ht]; exact hP, hS.F ht⟩) hS.2.2 d_Text_mentionCell_32
  · have h := ite_f c5 h
    refine lv_aload_n hx hb d_Text_mentionCell_20 rfl (lv_at hl 1 rfl) ?_
    refine va_get (D := (dC, dI)) (ci := 2) (v := .ref (a0 6)) (C := R_Text) (T := T_Text) (N := 12) hx hb hts in_Text hown hK (hP 0 _ rfl) 0 rfl rfl 8 (by decide) (hts _ fl_Text_42) (fun _ h9 => h9) rfl d_Text_mentionCell_21 ?_
    refine lv_iload_n hx hb d_Text_mentionCell_24 rfl (lv_at hl 0 rfl) ?_
    refine lv_dup2_11 hx hb d_Text_mentionCell_25 rfl rfl ?_
    obtain ⟨hi6, h⟩ := chk_some h
    refine va_lald (f := g64 o0 8) hx hb hK (hP 0 _ rfl) 6 1 rfl rfl (inb_in hi6) d_Text_mentionCell_26 ?_
    refine lv_lconst (v := 1) hx hb d_Text_mentionCell_27 (by decide) ?_
    refine lv_iload_n hx hb d_Text_mentionCell_28 rfl (lv_at hl 2 rfl) ?_
    refine lv_lshl (v := (lshl (1 : Int64) x1)) hx hb d_Text_mentionCell_29 rfl ?_
    refine lv_lor hx hb d_Text_mentionCell_30 ?_
    refine bw_last hx hb hK hP hN hS 0 6 1 rfl rfl rfl (inb_in hi6) d_Text_mentionCell_31 (fun H locs hP hS => ?_)
    have hP : bw_P (dC, dI) vwCl [wText ct a0 (a1 0) (s64 o0 8 (Int32.toNatClampNeg v4) ((g64 o0 8 (Int32.toNatClampNeg v4)) ||| (lshl (1 : Int64) x1))), wSteps ct a1 o_2] H := hP
    cases h
    exact W.vret hx hb hr (fun t ht hW => ⟨rfl, by rw [ht]; exact hP, hS.F ht⟩) hS.2.2 d_Text_mentionCell_32
end
