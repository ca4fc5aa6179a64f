/-! 39.readstr -/
abbrev b_Reader_readCellName : ByteArray := prog_3_method_8_code
def y_Reader_readCellName : MethodName := ⟨R_Reader, "readCellName", "()I"⟩
abbrev b_Reader_readFactor : ByteArray := prog_3_method_13_code
def y_Reader_readFactor : MethodName := ⟨R_Reader, "readFactor", "()Z"⟩
abbrev b_Reader_readExpression : ByteArray := prog_3_method_12_code
def y_Reader_readExpression : MethodName := ⟨R_Reader, "readExpression", "()Z"⟩
abbrev b_Reader_readCondition : ByteArray := prog_3_method_9_code
def y_Reader_readCondition : MethodName := ⟨R_Reader, "readCondition", "()Z"⟩
abbrev b_Reader_readChoice : ByteArray := prog_3_method_10_code
def y_Reader_readChoice : MethodName := ⟨R_Reader, "readChoice", "()Z"⟩
abbrev b_Reader_readStatement : ByteArray := prog_3_method_7_code
def y_Reader_readStatement : MethodName := ⟨R_Reader, "readStatement", "()Z"⟩
abbrev b_Reader_readCollected : ByteArray := prog_3_method_3_code
def y_Reader_readCollected : MethodName := ⟨R_Reader, "readCollected", "()I"⟩
theorem ml_Reader_101 : Cond.methodLink "PartFormulas$Reader" 101 ⟨"java/lang/String", "indexOf", "(I)I"⟩ ∈ wsAll := wa_of 423 (by decide +kernel) (by decide +kernel)
theorem im_Str_indexOf : Cond.instanceMethod ⟨"java/lang/String", "indexOf", "(I)I"⟩ ∈ wsAll := wa_of 424 (by decide +kernel) (by decide +kernel)
theorem se_Str_indexOf : Cond.selects "java/lang/String" ⟨"java/lang/String", "indexOf", "(I)I"⟩ ⟨"java/lang/String", "indexOf", "(I)I"⟩ ∈ wsAll := wa_of 425 (by decide +kernel) (by decide +kernel)
theorem cd_Reader_readNumber : Cond.code ⟨"PartFormulas$Reader", "readNumber", "()Z"⟩ prog_3_method_14_code 6 (some .boolean) ∈ wsAll := wa_of 396 (by decide +kernel) (by decide +kernel)
theorem ml_Reader_144 : Cond.methodLink "PartFormulas$Reader" 144 ⟨"PartFormulas$Reader", "readNumber", "()Z"⟩ ∈ wsAll := wa_of 393 (by decide +kernel) (by decide +kernel)
theorem im_Reader_readNumber : Cond.instanceMethod ⟨"PartFormulas$Reader", "readNumber", "()Z"⟩ ∈ wsAll := wa_of 395 (by decide +kernel) (by decide +kernel)
theorem se_Reader_readNumber : Cond.selects "PartFormulas$Reader" ⟨"PartFormulas$Reader", "readNumber", "()Z"⟩ ⟨"PartFormulas$Reader", "readNumber", "()Z"⟩ ∈ wsAll := wa_of 8 (by decide +kernel) (by decide +kernel)
theorem cd_Reader_openGroup : Cond.code ⟨"PartFormulas$Reader", "openGroup", "()V"⟩ prog_3_method_17_code 1 (none : Option Jvm.ClassFile.FieldType) ∈ wsAll := wa_of 392 (by decide +kernel) (by decide +kernel)
theorem ml_Reader_141 : Cond.methodLink "PartFormulas$Reader" 141 ⟨"PartFormulas$Reader", "openGroup", "()V"⟩ ∈ wsAll := wa_of 389 (by decide +kernel) (by decide +kernel)
theorem im_Reader_openGroup : Cond.instanceMethod ⟨"PartFormulas$Reader", "openGroup", "()V"⟩ ∈ wsAll := wa_of 391 (by decide +kernel) (by decide +kernel)
theorem se_Reader_openGroup : Cond.selects "PartFormulas$Reader" ⟨"PartFormulas$Reader", "openGroup", "()V"⟩ ⟨"PartFormulas$Reader", "openGroup", "()V"⟩ ∈ wsAll := wa_of 7 (by decide +kernel) (by decide +kernel)
theorem cd_Text_mentionOption : Cond.code ⟨"PartFormulas$Text", "mentionOption", "(I)V"⟩ prog_6_method_5_code 3 (none : Option Jvm.ClassFile.FieldType) ∈ wsAll := wa_of 412 (by decide +kernel) (by decide +kernel)
theorem ml_Reader_147 : Cond.methodLink "PartFormulas$Reader" 147 ⟨"PartFormulas$Text", "mentionOption", "(I)V"⟩ ∈ wsAll := wa_of 409 (by decide +kernel) (by decide +kernel)
theorem im_Text_mentionOption : Cond.instanceMethod ⟨"PartFormulas$Text", "mentionOption", "(I)V"⟩ ∈ wsAll := wa_of 410 (by decide +kernel) (by decide +kernel)
theorem se_Text_mentionOption : Cond.selects "PartFormulas$Text" ⟨"PartFormulas$Text", "mentionOption", "(I)V"⟩ ⟨"PartFormulas$Text", "mentionOption", "(I)V"⟩ ∈ wsAll := wa_of 411 (by decide +kernel) (by decide +kernel)
theorem cd_Reader_readCellName : Cond.code ⟨"PartFormulas$Reader", "readCellName", "()I"⟩ prog_3_method_8_code 3 (some .int) ∈ wsAll := wa_of 421 (by decide +kernel) (by decide +kernel)
theorem ml_Reader_89 : Cond.methodLink "PartFormulas$Reader" 89 ⟨"PartFormulas$Reader", "readCellName", "()I"⟩ ∈ wsAll := wa_of 418 (by decide +kernel) (by decide +kernel)
theorem im_Reader_readCellName : Cond.instanceMethod ⟨"PartFormulas$Reader", "readCellName", "()I"⟩ ∈ wsAll := wa_of 420 (by decide +kernel) (by decide +kernel)
theorem se_Reader_readCellName : Cond.selects "PartFormulas$Reader" ⟨"PartFormulas$Reader", "readCellName", "()I"⟩ ⟨"PartFormulas$Reader", "readCellName", "()I"⟩ ∈ wsAll := wa_of 11 (by decide +kernel) (by decide +kernel)
theorem cd_Text_mentionCell : Cond.code ⟨"PartFormulas$Text", "mentionCell", "(I)V"⟩ prog_6_method_6_code 3 (none : Option Jvm.ClassFile.FieldType) ∈ wsAll := wa_of 512 (by decide +kernel) (by decide +kernel)
theorem ml_Reader_150 : Cond.methodLink "PartFormulas$Reader" 150 ⟨"PartFormulas$Text", "mentionCell", "(I)V"⟩ ∈ wsAll := wa_of 509 (by decide +kernel) (by decide +kernel)
theorem im_Text_mentionCell : Cond.instanceMethod ⟨"PartFormulas$Text", "mentionCell", "(I)V"⟩ ∈ wsAll := wa_of 510 (by decide +kernel) (by decide +kernel)
theorem se_Text_mentionCell : Cond.selects "PartFormulas$Text" ⟨"PartFormulas$Text", "mentionCell", "(I)V"⟩ ⟨"PartFormulas$Text", "mentionCell", "(I)V"⟩ ∈ wsAll := wa_of 511 (by decide +kernel) (by decide +kernel)
theorem cd_Reader_readFactor : Cond.code ⟨"PartFormulas$Reader", "readFactor", "()Z"⟩ prog_3_method_13_code 3 (some .boolean) ∈ wsAll := wa_of 384 (by decide +kernel) (by decide +kernel)
theorem ml_Reader_116 : Cond.methodLink "PartFormulas$Reader" 116 ⟨"PartFormulas$Reader", "readFactor", "()Z"⟩ ∈ wsAll := wa_of 381 (by decide +kernel) (by decide +kernel)
theorem im_Reader_readFactor : Cond.instanceMethod ⟨"PartFormulas$Reader", "readFactor", "()Z"⟩ ∈ wsAll := wa_of 383 (by decide +kernel) (by decide +kernel)
theorem se_Reader_readFactor : Cond.selects "PartFormulas$Reader" ⟨"PartFormulas$Reader", "readFactor", "()Z"⟩ ⟨"PartFormulas$Reader", "readFactor", "()Z"⟩ ∈ wsAll := wa_of 5 (by decide +kernel) (by decide +kernel)
theorem cd_Reader_closeGroups : Cond.code ⟨"PartFormulas$Reader", "closeGroups", "()V"⟩ prog_3_method_18_code 5 (none : Option Jvm.ClassFile.FieldType) ∈ wsAll := wa_of 524 (by decide +kernel) (by decide +kernel)
theorem ml_Reader_119 : Cond.methodLink "PartFormulas$Reader" 119 ⟨"PartFormulas$Reader", "closeGroups", "()V"⟩ ∈ wsAll := wa_of 521 (by decide +kernel) (by decide +kernel)
theorem im_Reader_closeGroups : Cond.instanceMethod ⟨"PartFormulas$Reader", "closeGroups", "()V"⟩ ∈ wsAll := wa_of 523 (by decide +kernel) (by decide +kernel)
theorem se_Reader_closeGroups : Cond.selects "PartFormulas$Reader" ⟨"PartFormulas$Reader", "closeGroups", "()V"⟩ ⟨"PartFormulas$Reader", "closeGroups", "()V"⟩ ∈ wsAll := wa_of 14 (by decide +kernel) (by decide +kernel)
theorem cd_Reader_readOperator : Cond.code ⟨"PartFormulas$Reader", "readOperator", "()Z"⟩ prog_3_method_20_code 3 (some .boolean) ∈ wsAll := wa_of 538 (by decide +kernel) (by decide +kernel)
theorem ml_Reader_122 : Cond.methodLink "PartFormulas$Reader" 122 ⟨"PartFormulas$Reader", "readOperator", "()Z"⟩ ∈ wsAll := wa_of 535 (by decide +kernel) (by decide +kernel)
theorem im_Reader_readOperator : Cond.instanceMethod ⟨"PartFormulas$Reader", "readOperator", "()Z"⟩ ∈ wsAll := wa_of 537 (by decide +kernel) (by decide +kernel)
theorem se_Reader_readOperator : Cond.selects "PartFormulas$Reader" ⟨"PartFormulas$Reader", "readOperator", "()Z"⟩ ⟨"PartFormulas$Reader", "readOperator", "()Z"⟩ ∈ wsAll := wa_of 16 (by decide +kernel) (by decide +kernel)
theorem cd_Steps_endExpression : Cond.code ⟨"PartFormulas$Steps", "endExpression", "(C)V"⟩ prog_5_method_4_code 2 (none : Option Jvm.ClassFile.FieldType) ∈ wsAll := wa_of 546 (by decide +kernel) (by decide +kernel)
theorem ml_Reader_132 : Cond.methodLink "PartFormulas$Reader" 132 ⟨"PartFormulas$Steps", "endExpression", "(C)V"⟩ ∈ wsAll := wa_of 543 (by decide +kernel) (by decide +kernel)
theorem im_Steps_endExpression : Cond.instanceMethod ⟨"PartFormulas$Steps", "endExpression", "(C)V"⟩ ∈ wsAll := wa_of 544 (by decide +kernel) (by decide +kernel)
theorem se_Steps_endExpression : Cond.selects "PartFormulas$Steps" ⟨"PartFormulas$Steps", "endExpression", "(C)V"⟩ ⟨"PartFormulas$Steps", "endExpression", "(C)V"⟩ ∈ wsAll := wa_of 545 (by decide +kernel) (by decide +kernel)
theorem cd_Reader_readExpression : Cond.code ⟨"PartFormulas$Reader", "readExpression", "()Z"⟩ prog_3_method_12_code 3 (some .boolean) ∈ wsAll := wa_of 380 (by decide +kernel) (by decide +kernel)
theorem ml_Reader_107 : Cond.methodLink "PartFormulas$Reader" 107 ⟨"PartFormulas$Reader", "readExpression", "()Z"⟩ ∈ wsAll := wa_of 377 (by decide +kernel) (by decide +kernel)
theorem im_Reader_readExpression : Cond.instanceMethod ⟨"PartFormulas$Reader", "readExpression", "()Z"⟩ ∈ wsAll := wa_of 379 (by decide +kernel) (by decide +kernel)
theorem se_Reader_readExpression : Cond.selects "PartFormulas$Reader" ⟨"PartFormulas$Reader", "readExpression", "()Z"⟩ ⟨"PartFormulas$Reader", "readExpression", "()Z"⟩ ∈ wsAll := wa_of 4 (by decide +kernel) (by decide +kernel)
theorem cd_Reader_passSign : Cond.code ⟨"PartFormulas$Reader", "passSign", "()Z"⟩ prog_3_method_11_code 1 (some .boolean) ∈ wsAll := wa_of 550 (by decide +kernel) (by decide +kernel)
theorem ml_Reader_110 : Cond.methodLink "PartFormulas$Reader" 110 ⟨"PartFormulas$Reader", "passSign", "()Z"⟩ ∈ wsAll := wa_of 547 (by decide +kernel) (by decide +kernel)
theorem im_Reader_passSign : Cond.instanceMethod ⟨"PartFormulas$Reader", "passSign", "()Z"⟩ ∈ wsAll := wa_of 549 (by decide +kernel) (by decide +kernel)
theorem se_Reader_passSign : Cond.selects "PartFormulas$Reader" ⟨"PartFormulas$Reader", "passSign", "()Z"⟩ ⟨"PartFormulas$Reader", "passSign", "()Z"⟩ ∈ wsAll := wa_of 17 (by decide +kernel) (by decide +kernel)
theorem fl_Reader_93 : Cond.fieldLink "PartFormulas$Reader" 93 "PartFormulas$Text" "definedBy" "[I" ∈ wsAll := wa_of 174 (by decide +kernel) (by decide +kernel)
theorem cd_Text_openStatement : Cond.code ⟨"PartFormulas$Text", "openStatement", "(I)V"⟩ prog_6_method_3_code 2 (none : Option Jvm.ClassFile.FieldType) ∈ wsAll := wa_of 372 (by decide +kernel) (by decide +kernel)
theorem ml_Reader_82 : Cond.methodLink "PartFormulas$Reader" 82 ⟨"PartFormulas$Text", "openStatement", "(I)V"⟩ ∈ wsAll := wa_of 369 (by decide +kernel) (by decide +kernel)
theorem im_Text_openStatement : Cond.instanceMethod ⟨"PartFormulas$Text", "openStatement", "(I)V"⟩ ∈ wsAll := wa_of 370 (by decide +kernel) (by decide +kernel)
theorem se_Text_openStatement : Cond.selects "PartFormulas$Text" ⟨"PartFormulas$Text", "openStatement", "(I)V"⟩ ⟨"PartFormulas$Text", "openStatement", "(I)V"⟩ ∈ wsAll := wa_of 371 (by decide +kernel) (by decide +kernel)
theorem cd_Reader_readChoice : Cond.code ⟨"PartFormulas$Reader", "readChoice", "()Z"⟩ prog_3_method_10_code 2 (some .boolean) ∈ wsAll := wa_of 558 (by decide +kernel) (by decide +kernel)
theorem ml_Reader_96 : Cond.methodLink "PartFormulas$Reader" 96 ⟨"PartFormulas$Reader", "readChoice", "()Z"⟩ ∈ wsAll := wa_of 555 (by decide +kernel) (by decide +kernel)
theorem im_Reader_readChoice : Cond.instanceMethod ⟨"PartFormulas$Reader", "readChoice", "()Z"⟩ ∈ wsAll := wa_of 557 (by decide +kernel) (by decide +kernel)
theorem se_Reader_readChoice : Cond.selects "PartFormulas$Reader" ⟨"PartFormulas$Reader", "readChoice", "()Z"⟩ ⟨"PartFormulas$Reader", "readChoice", "()Z"⟩ ∈ wsAll := wa_of 18 (by decide +kernel) (by decide +kernel)
theorem cd_Reader_readCondition : Cond.code ⟨"PartFormulas$Reader", "readCondition", "()Z"⟩ prog_3_method_9_code 1 (some .boolean) ∈ wsAll := wa_of 376 (by decide +kernel) (by decide +kernel)
theorem ml_Reader_86 : Cond.methodLink "PartFormulas$Reader" 86 ⟨"PartFormulas$Reader", "readCondition", "()Z"⟩ ∈ wsAll := wa_of 373 (by decide +kernel) (by decide +kernel)
theorem im_Reader_readCondition : Cond.instanceMethod ⟨"PartFormulas$Reader", "readCondition", "()Z"⟩ ∈ wsAll := wa_of 375 (by decide +kernel) (by decide +kernel)
theorem se_Reader_readCondition : Cond.selects "PartFormulas$Reader" ⟨"PartFormulas$Reader", "readCondition", "()Z"⟩ ⟨"PartFormulas$Reader", "readCondition", "()Z"⟩ ∈ wsAll := wa_of 3 (by decide +kernel) (by decide +kernel)
theorem cd_Text_clear : Cond.code ⟨"PartFormulas$Text", "clear", "()V"⟩ prog_6_method_2_code 2 (none : Option Jvm.ClassFile.FieldType) ∈ wsAll := wa_of 352 (by decide +kernel) (by decide +kernel)
theorem ml_Reader_55 : Cond.methodLink "PartFormulas$Reader" 55 ⟨"PartFormulas$Text", "clear", "()V"⟩ ∈ wsAll := wa_of 349 (by decide +kernel) (by decide +kernel)
theorem im_Text_clear : Cond.instanceMethod ⟨"PartFormulas$Text", "clear", "()V"⟩ ∈ wsAll := wa_of 350 (by decide +kernel) (by decide +kernel)
theorem se_Text_clear : Cond.selects "PartFormulas$Text" ⟨"PartFormulas$Text", "clear", "()V"⟩ ⟨"PartFormulas$Text", "clear", "()V"⟩ ∈ wsAll := wa_of 351 (by decide +kernel) (by decide +kernel)
theorem cd_Reader_readStatement : Cond.code ⟨"PartFormulas$Reader", "readStatement", "()Z"⟩ prog_3_method_7_code 3 (some .boolean) ∈ wsAll := wa_of 360 (by decide +kernel) (by decide +kernel)
theorem ml_Reader_58 : Cond.methodLink "PartFormulas$Reader" 58 ⟨"PartFormulas$Reader", "readStatement", "()Z"⟩ ∈ wsAll := wa_of 357 (by decide +kernel) (by decide +kernel)
theorem im_Reader_readStatement : Cond.instanceMethod ⟨"PartFormulas$Reader", "readStatement", "()Z"⟩ ∈ wsAll := wa_of 359 (by decide +kernel) (by decide +kernel)
theorem se_Reader_readStatement : Cond.selects "PartFormulas$Reader" ⟨"PartFormulas$Reader", "readStatement", "()Z"⟩ ⟨"PartFormulas$Reader", "readStatement", "()Z"⟩ ∈ wsAll := wa_of 0 (by decide +kernel) (by decide +kernel)
theorem cd_Text_followNeeds : Cond.code ⟨"PartFormulas$Text", "followNeeds", "()V"⟩ prog_6_method_12_code 3 (none : Option Jvm.ClassFile.FieldType) ∈ wsAll := wa_of 562 (by decide +kernel) (by decide +kernel)
theorem ml_Reader_66 : Cond.methodLink "PartFormulas$Reader" 66 ⟨"PartFormulas$Text", "followNeeds", "()V"⟩ ∈ wsAll := wa_of 559 (by decide +kernel) (by decide +kernel)
theorem im_Text_followNeeds : Cond.instanceMethod ⟨"PartFormulas$Text", "followNeeds", "()V"⟩ ∈ wsAll := wa_of 560 (by decide +kernel) (by decide +kernel)
theorem se_Text_followNeeds : Cond.selects "PartFormulas$Text" ⟨"PartFormulas$Text", "followNeeds", "()V"⟩ ⟨"PartFormulas$Text", "followNeeds", "()V"⟩ ∈ wsAll := wa_of 561 (by decide +kernel) (by decide +kernel)
theorem cd_Text_findOrder : Cond.code ⟨"PartFormulas$Text", "findOrder", "()V"⟩ prog_6_method_13_code 6 (none : Option Jvm.ClassFile.FieldType) ∈ wsAll := wa_of 570 (by decide +kernel) (by decide +kernel)
theorem ml_Reader_69 : Cond.methodLink "PartFormulas$Reader" 69 ⟨"PartFormulas$Text", "findOrder", "()V"⟩ ∈ wsAll := wa_of 567 (by decide +kernel) (by decide +kernel)
theorem im_Text_findOrder : Cond.instanceMethod ⟨"PartFormulas$Text", "findOrder", "()V"⟩ ∈ wsAll := wa_of 568 (by decide +kernel) (by decide +kernel)
theorem se_Text_findOrder : Cond.selects "PartFormulas$Text" ⟨"PartFormulas$Text", "findOrder", "()V"⟩ ⟨"PartFormulas$Text", "findOrder", "()V"⟩ ∈ wsAll := wa_of 569 (by decide +kernel) (by decide +kernel)
theorem cd_Reader_print : Cond.code ⟨"PartFormulas$Reader", "print", "()V"⟩ prog_3_method_27_code 2 (none : Option Jvm.ClassFile.FieldType) ∈ wsAll := wa_of 583 (by decide +kernel) (by decide +kernel)
theorem ml_Reader_72 : Cond.methodLink "PartFormulas$Reader" 72 ⟨"PartFormulas$Reader", "print", "()V"⟩ ∈ wsAll := wa_of 580 (by decide +kernel) (by decide +kernel)
theorem im_Reader_print : Cond.instanceMethod ⟨"PartFormulas$Reader", "print", "()V"⟩ ∈ wsAll := wa_of 582 (by decide +kernel) (by decide +kernel)
theorem se_Reader_print : Cond.selects "PartFormulas$Reader" ⟨"PartFormulas$Reader", "print", "()V"⟩ ⟨"PartFormulas$Reader", "print", "()V"⟩ ∈ wsAll := wa_of 19 (by decide +kernel) (by decide +kernel)
theorem fl_Reader_75 : Cond.fieldLink "PartFormulas$Reader" 75 "PartFormulas$Text" "statements" "I" ∈ wsAll := wa_of 163 (by decide +kernel) (by decide +kernel)
theorem d_Reader_readCellName_0 : decode b_Reader_readCellName 0 = .ok (.aload_n 0, 1) := by decide +kernel
theorem d_Reader_readCellName_1 : decode b_Reader_readCellName 1 = .ok (.invokevirtual 78, 3) := by decide +kernel
theorem d_Reader_readCellName_4 : decode b_Reader_readCellName 4 = .ok (.bipush 65, 2) := by decide +kernel
theorem d_Reader_readCellName_6 : decode b_Reader_readCellName 6 = .ok (.isub, 1) := by decide +kernel
theorem d_Reader_readCellName_7 : decode b_Reader_readCellName 7 = .ok (.istore_n 1, 1) := by decide +kernel
theorem d_Reader_readCellName_8 : decode b_Reader_readCellName 8 = .ok (.iload_n 1, 1) := by decide +kernel
theorem d_Reader_readCellName_9 : decode b_Reader_readCellName 9 = .ok (.ifCond .lt 9, 3) := by decide +kernel
theorem d_Reader_readCellName_12 : decode b_Reader_readCellName 12 = .ok (.iload_n 1, 1) := by decide +kernel
theorem d_Reader_readCellName_13 : decode b_Reader_readCellName 13 = .ok (.bipush 10, 2) := by decide +kernel
theorem d_Reader_readCellName_15 : decode b_Reader_readCellName 15 = .ok (.if_icmp .lt 5, 3) := by decide +kernel
theorem d_Reader_readCellName_18 : decode b_Reader_readCellName 18 = .ok (.iconst (-1), 1) := by decide +kernel
theorem d_Reader_readCellName_19 : decode b_Reader_readCellName 19 = .ok (.ireturn, 1) := by decide +kernel
theorem d_Reader_readCellName_20 : decode b_Reader_readCellName 20 = .ok (.aload_n 0, 1) := by decide +kernel
theorem d_Reader_readCellName_21 : decode b_Reader_readCellName 21 = .ok (.dup, 1) := by decide +kernel
theorem d_Reader_readCellName_22 : decode b_Reader_readCellName 22 = .ok (.getfield 23, 3) := by decide +kernel
theorem d_Reader_readCellName_25 : decode b_Reader_readCellName 25 = .ok (.iconst 1, 1) := by decide +kernel
theorem d_Reader_readCellName_26 : decode b_Reader_readCellName 26 = .ok (.iadd, 1) := by decide +kernel
theorem d_Reader_readCellName_27 : decode b_Reader_readCellName 27 = .ok (.putfield 23, 3) := by decide +kernel
theorem d_Reader_readCellName_30 : decode b_Reader_readCellName 30 = .ok (.ldc 99, 2) := by decide +kernel
theorem d_Reader_readCellName_32 : decode b_Reader_readCellName 32 = .ok (.aload_n 0, 1) := by decide +kernel
theorem d_Reader_readCellName_33 : decode b_Reader_readCellName 33 = .ok (.invokevirtual 78, 3) := by decide +kernel
theorem d_Reader_readCellName_36 : decode b_Reader_readCellName 36 = .ok (.invokevirtual 101, 3) := by decide +kernel
theorem d_Reader_readCellName_39 : decode b_Reader_readCellName 39 = .ok (.istore_n 2, 1) := by decide +kernel
theorem d_Reader_readCellName_40 : decode b_Reader_readCellName 40 = .ok (.iload_n 2, 1) := by decide +kernel
theorem d_Reader_readCellName_41 : decode b_Reader_readCellName 41 = .ok (.ifCond .ge 5, 3) := by decide +kernel
theorem d_Reader_readCellName_44 : decode b_Reader_readCellName 44 = .ok (.iconst (-1), 1) := by decide +kernel
theorem d_Reader_readCellName_45 : decode b_Reader_readCellName 45 = .ok (.ireturn, 1) := by decide +kernel
theorem d_Reader_readCellName_46 : decode b_Reader_readCellName 46 = .ok (.aload_n 0, 1) := by decide +kernel
theorem d_Reader_readCellName_47 : decode b_Reader_readCellName 47 = .ok (.dup, 1) := by decide +kernel
theorem d_Reader_readCellName_48 : decode b_Reader_readCellName 48 = .ok (.getfield 23, 3) := by decide +kernel
theorem d_Reader_readCellName_51 : decode b_Reader_readCellName 51 = .ok (.iconst 1, 1) := by decide +kernel
theorem d_Reader_readCellName_52 : decode b_Reader_readCellName 52 = .ok (.iadd, 1) := by decide +kernel
theorem d_Reader_readCellName_53 : decode b_Reader_readCellName 53 = .ok (.putfield 23, 3) := by decide +kernel
theorem d_Reader_readCellName_56 : decode b_Reader_readCellName 56 = .ok (.bipush 6, 2) := by decide +kernel
theorem d_Reader_readCellName_58 : decode b_Reader_readCellName 58 = .ok (.iload_n 1, 1) := by decide +kernel
theorem d_Reader_readCellName_59 : decode b_Reader_readCellName 59 = .ok (.imul, 1) := by decide +kernel
theorem d_Reader_readCellName_60 : decode b_Reader_readCellName 60 = .ok (.iload_n 2, 1) := by decide +kernel
theorem d_Reader_readCellName_61 : decode b_Reader_readCellName 61 = .ok (.iadd, 1) := by decide +kernel
theorem d_Reader_readCellName_62 : decode b_Reader_readCellName 62 = .ok (.ireturn, 1) := by decide +kernel
theorem d_Reader_readChoice_0 : decode b_Reader_readChoice 0 = .ok (.iconst 0, 1) := by decide +kernel
theorem d_Reader_readChoice_1 : decode b_Reader_readChoice 1 = .ok (.istore_n 1, 1) := by decide +kernel
theorem d_Reader_readChoice_2 : decode b_Reader_readChoice 2 = .ok (.iload_n 1, 1) := by decide +kernel
theorem d_Reader_readChoice_3 : decode b_Reader_readChoice 3 = .ok (.iconst 4, 1) := by decide +kernel
theorem d_Reader_readChoice_4 : decode b_Reader_readChoice 4 = .ok (.if_icmp .ge 61, 3) := by decide +kernel
theorem d_Reader_readChoice_7 : decode b_Reader_readChoice 7 = .ok (.aload_n 0, 1) := by decide +kernel
theorem d_Reader_readChoice_8 : decode b_Reader_readChoice 8 = .ok (.invokevirtual 107, 3) := by decide +kernel
theorem d_Reader_readChoice_11 : decode b_Reader_readChoice 11 = .ok (.ifCond .ne 5, 3) := by decide +kernel
theorem d_Reader_readChoice_14 : decode b_Reader_readChoice 14 = .ok (.iconst 0, 1) := by decide +kernel
theorem d_Reader_readChoice_15 : decode b_Reader_readChoice 15 = .ok (.ireturn, 1) := by decide +kernel
theorem d_Reader_readChoice_16 : decode b_Reader_readChoice 16 = .ok (.aload_n 0, 1) := by decide +kernel
theorem d_Reader_readChoice_17 : decode b_Reader_readChoice 17 = .ok (.invokevirtual 110, 3) := by decide +kernel
theorem d_Reader_readChoice_20 : decode b_Reader_readChoice 20 = .ok (.ifCond .ne 5, 3) := by decide +kernel
theorem d_Reader_readChoice_23 : decode b_Reader_readChoice 23 = .ok (.iconst 1, 1) := by decide +kernel
theorem d_Reader_readChoice_24 : decode b_Reader_readChoice 24 = .ok (.ireturn, 1) := by decide +kernel
theorem d_Reader_readChoice_25 : decode b_Reader_readChoice 25 = .ok (.aload_n 0, 1) := by decide +kernel
theorem d_Reader_readChoice_26 : decode b_Reader_readChoice 26 = .ok (.invokevirtual 107, 3) := by decide +kernel
theorem d_Reader_readChoice_29 : decode b_Reader_readChoice 29 = .ok (.ifCond .eq 28, 3) := by decide +kernel
theorem d_Reader_readChoice_32 : decode b_Reader_readChoice 32 = .ok (.aload_n 0, 1) := by decide +kernel
theorem d_Reader_readChoice_33 : decode b_Reader_readChoice 33 = .ok (.bipush 63, 2) := by decide +kernel
theorem d_Reader_readChoice_35 : decode b_Reader_readChoice 35 = .ok (.invokevirtual 62, 3) := by decide +kernel
theorem d_Reader_readChoice_38 : decode b_Reader_readChoice 38 = .ok (.ifCond .eq 19, 3) := by decide +kernel
theorem d_Reader_readChoice_41 : decode b_Reader_readChoice 41 = .ok (.aload_n 0, 1) := by decide +kernel
theorem d_Reader_readChoice_42 : decode b_Reader_readChoice 42 = .ok (.invokevirtual 107, 3) := by decide +kernel
theorem d_Reader_readChoice_45 : decode b_Reader_readChoice 45 = .ok (.ifCond .eq 12, 3) := by decide +kernel
theorem d_Reader_readChoice_48 : decode b_Reader_readChoice 48 = .ok (.aload_n 0, 1) := by decide +kernel
theorem d_Reader_readChoice_49 : decode b_Reader_readChoice 49 = .ok (.bipush 58, 2) := by decide +kernel
theorem d_Reader_readChoice_51 : decode b_Reader_readChoice 51 = .ok (.invokevirtual 62, 3) := by decide +kernel
theorem d_Reader_readChoice_54 : decode b_Reader_readChoice 54 = .ok (.ifCond .ne 5, 3) := by decide +kernel
theorem d_Reader_readChoice_57 : decode b_Reader_readChoice 57 = .ok (.iconst 0, 1) := by decide +kernel
theorem d_Reader_readChoice_58 : decode b_Reader_readChoice 58 = .ok (.ireturn, 1) := by decide +kernel
theorem d_Reader_readChoice_59 : decode b_Reader_readChoice 59 = .ok (.iinc 1 1, 3) := by decide +kernel
theorem d_Reader_readChoice_62 : decode b_Reader_readChoice 62 = .ok (.goto (-60), 3) := by decide +kernel
theorem d_Reader_readChoice_65 : decode b_Reader_readChoice 65 = .ok (.aload_n 0, 1) := by decide +kernel
theorem d_Reader_readChoice_66 : decode b_Reader_readChoice 66 = .ok (.invokevirtual 107, 3) := by decide +kernel
theorem d_Reader_readChoice_69 : decode b_Reader_readChoice 69 = .ok (.ireturn, 1) := by decide +kernel
theorem d_Reader_readCollected_0 : decode b_Reader_readCollected 0 = .ok (.aload_n 0, 1) := by decide +kernel
theorem d_Reader_readCollected_1 : decode b_Reader_readCollected 1 = .ok (.iconst 0, 1) := by decide +kernel
theorem d_Reader_readCollected_2 : decode b_Reader_readCollected 2 = .ok (.putfield 23, 3) := by decide +kernel
theorem d_Reader_readCollected_5 : decode b_Reader_readCollected 5 = .ok (.aload_n 0, 1) := by decide +kernel
theorem d_Reader_readCollected_6 : decode b_Reader_readCollected 6 = .ok (.getfield 29, 3) := by decide +kernel
theorem d_Reader_readCollected_9 : decode b_Reader_readCollected 9 = .ok (.invokevirtual 55, 3) := by decide +kernel
theorem d_Reader_readCollected_12 : decode b_Reader_readCollected 12 = .ok (.aload_n 0, 1) := by decide +kernel
theorem d_Reader_readCollected_13 : decode b_Reader_readCollected 13 = .ok (.invokevirtual 58, 3) := by decide +kernel
theorem d_Reader_readCollected_16 : decode b_Reader_readCollected 16 = .ok (.istore_n 1, 1) := by decide +kernel
theorem d_Reader_readCollected_17 : decode b_Reader_readCollected 17 = .ok (.iconst 1, 1) := by decide +kernel
theorem d_Reader_readCollected_18 : decode b_Reader_readCollected 18 = .ok (.istore_n 2, 1) := by decide +kernel
theorem d_Reader_readCollected_19 : decode b_Reader_readCollected 19 = .ok (.iload_n 2, 1) := by decide +kernel
theorem d_Reader_readCollected_20 : decode b_Reader_readCollected 20 = .ok (.bipush 24, 2) := by decide +kernel
theorem d_Reader_readCollected_22 : decode b_Reader_readCollected 22 = .ok (.if_icmp .ge 27, 3) := by decide +kernel
theorem d_Reader_readCollected_25 : decode b_Reader_readCollected 25 = .ok (.iload_n 1, 1) := by decide +kernel
theorem d_Reader_readCollected_26 : decode b_Reader_readCollected 26 = .ok (.ifCond .eq 23, 3) := by decide +kernel
theorem d_Reader_readCollected_29 : decode b_Reader_readCollected 29 = .ok (.aload_n 0, 1) := by decide +kernel
theorem d_Reader_readCollected_30 : decode b_Reader_readCollected 30 = .ok (.bipush 59, 2) := by decide +kernel
theorem d_Reader_readCollected_32 : decode b_Reader_readCollected 32 = .ok (.invokevirtual 62, 3) := by decide +kernel
theorem d_Reader_readCollected_35 : decode b_Reader_readCollected 35 = .ok (.ifCond .eq 14, 3) := by decide +kernel
theorem d_Reader_readCollected_38 : decode b_Reader_readCollected 38 = .ok (.aload_n 0, 1) := by decide +kernel
theorem d_Reader_readCollected_39 : decode b_Reader_readCollected 39 = .ok (.invokevirtual 58, 3) := by decide +kernel
theorem d_Reader_readCollected_42 : decode b_Reader_readCollected 42 = .ok (.istore_n 1, 1) := by decide +kernel
theorem d_Reader_readCollected_43 : decode b_Reader_readCollected 43 = .ok (.iinc 2 1, 3) := by decide +kernel
theorem d_Reader_readCollected_46 : decode b_Reader_readCollected 46 = .ok (.goto (-27), 3) := by decide +kernel
theorem d_Reader_readCollected_49 : decode b_Reader_readCollected 49 = .ok (.iload_n 1, 1) := by decide +kernel
theorem d_Reader_readCollected_50 : decode b_Reader_readCollected 50 = .ok (.ifCond .eq 18, 3) := by decide +kernel
theorem d_Reader_readCollected_53 : decode b_Reader_readCollected 53 = .ok (.aload_n 0, 1) := by decide +kernel
theorem d_Reader_readCollected_54 : decode b_Reader_readCollected 54 = .ok (.getfield 23, 3) := by decide +kernel
theorem d_Reader_readCollected_57 : decode b_Reader_readCollected 57 = .ok (.aload_n 0, 1) := by decide +kernel
theorem d_Reader_readCollected_58 : decode b_Reader_readCollected 58 = .ok (.getfield 19, 3) := by decide +kernel
theorem d_Reader_readCollected_61 : decode b_Reader_readCollected 61 = .ok (.if_icmp .ne 7, 3) := by decide +kernel
theorem d_Reader_readCollected_64 : decode b_Reader_readCollected 64 = .ok (.iconst 1, 1) := by decide +kernel
theorem d_Reader_readCollected_65 : decode b_Reader_readCollected 65 = .ok (.goto 4, 3) := by decide +kernel
theorem d_Reader_readCollected_68 : decode b_Reader_readCollected 68 = .ok (.iconst 0, 1) := by decide +kernel
theorem d_Reader_readCollected_69 : decode b_Reader_readCollected 69 = .ok (.istore_n 1, 1) := by decide +kernel
theorem d_Reader_readCollected_70 : decode b_Reader_readCollected 70 = .ok (.iload_n 1, 1) := by decide +kernel
theorem d_Reader_readCollected_71 : decode b_Reader_readCollected 71 = .ok (.ifCond .eq 21, 3) := by decide +kernel
theorem d_Reader_readCollected_74 : decode b_Reader_readCollected 74 = .ok (.aload_n 0, 1) := by decide +kernel
theorem d_Reader_readCollected_75 : decode b_Reader_readCollected 75 = .ok (.getfield 29, 3) := by decide +kernel
theorem d_Reader_readCollected_78 : decode b_Reader_readCollected 78 = .ok (.invokevirtual 66, 3) := by decide +kernel
theorem d_Reader_readCollected_81 : decode b_Reader_readCollected 81 = .ok (.aload_n 0, 1) := by decide +kernel
theorem d_Reader_readCollected_82 : decode b_Reader_readCollected 82 = .ok (.getfield 29, 3) := by decide +kernel
theorem d_Reader_readCollected_85 : decode b_Reader_readCollected 85 = .ok (.invokevirtual 69, 3) := by decide +kernel
theorem d_Reader_readCollected_88 : decode b_Reader_readCollected 88 = .ok (.aload_n 0, 1) := by decide +kernel
theorem d_Reader_readCollected_89 : decode b_Reader_readCollected 89 = .ok (.invokevirtual 72, 3) := by decide +kernel
theorem d_Reader_readCollected_92 : decode b_Reader_readCollected 92 = .ok (.aload_n 0, 1) := by decide +kernel
theorem d_Reader_readCollected_93 : decode b_Reader_readCollected 93 = .ok (.iconst 0, 1) := by decide +kernel
theorem d_Reader_readCollected_94 : decode b_Reader_readCollected 94 = .ok (.putfield 19, 3) := by decide +kernel
theorem d_Reader_readCollected_97 : decode b_Reader_readCollected 97 = .ok (.iload_n 1, 1) := by decide +kernel
theorem d_Reader_readCollected_98 : decode b_Reader_readCollected 98 = .ok (.ifCond .eq 13, 3) := by decide +kernel
theorem d_Reader_readCollected_101 : decode b_Reader_readCollected 101 = .ok (.aload_n 0, 1) := by decide +kernel
theorem d_Reader_readCollected_102 : decode b_Reader_readCollected 102 = .ok (.getfield 29, 3) := by decide +kernel
theorem d_Reader_readCollected_105 : decode b_Reader_readCollected 105 = .ok (.getfield 75, 3) := by decide +kernel
theorem d_Reader_readCollected_108 : decode b_Reader_readCollected 108 = .ok (.goto 9, 3) := by decide +kernel
theorem d_Reader_readCollected_111 : decode b_Reader_readCollected 111 = .ok (.iconst (-1), 1) := by decide +kernel
theorem d_Reader_readCollected_112 : decode b_Reader_readCollected 112 = .ok (.aload_n 0, 1) := by decide +kernel
theorem d_Reader_readCollected_113 : decode b_Reader_readCollected 113 = .ok (.getfield 23, 3) := by decide +kernel
theorem d_Reader_readCollected_116 : decode b_Reader_readCollected 116 = .ok (.isub, 1) := by decide +kernel
theorem d_Reader_readCollected_117 : decode b_Reader_readCollected 117 = .ok (.ireturn, 1) := by decide +kernel
theorem d_Reader_readCondition_0 : decode b_Reader_readCondition 0 = .ok (.aload_n 0, 1) := by decide +kernel
theorem d_Reader_readCondition_1 : decode b_Reader_readCondition 1 = .ok (.invokevirtual 107, 3) := by decide +kernel
theorem d_Reader_readCondition_4 : decode b_Reader_readCondition 4 = .ok (.ifCond .eq 21, 3) := by decide +kernel
theorem d_Reader_readCondition_7 : decode b_Reader_readCondition 7 = .ok (.aload_n 0, 1) := by decide +kernel
theorem d_Reader_readCondition_8 : decode b_Reader_readCondition 8 = .ok (.invokevirtual 110, 3) := by decide +kernel
theorem d_Reader_readCondition_11 : decode b_Reader_readCondition 11 = .ok (.ifCond .eq 14, 3) := by decide +kernel
theorem d_Reader_readCondition_14 : decode b_Reader_readCondition 14 = .ok (.aload_n 0, 1) := by decide +kernel
theorem d_Reader_readCondition_15 : decode b_Reader_readCondition 15 = .ok (.invokevirtual 107, 3) := by decide +kernel
theorem d_Reader_readCondition_18 : decode b_Reader_readCondition 18 = .ok (.ifCond .eq 7, 3) := by decide +kernel
theorem d_Reader_readCondition_21 : decode b_Reader_readCondition 21 = .ok (.iconst 1, 1) := by decide +kernel
theorem d_Reader_readCondition_22 : decode b_Reader_readCondition 22 = .ok (.goto 4, 3) := by decide +kernel
theorem d_Reader_readCondition_25 : decode b_Reader_readCondition 25 = .ok (.iconst 0, 1) := by decide +kernel
theorem d_Reader_readCondition_26 : decode b_Reader_readCondition 26 = .ok (.ireturn, 1) := by decide +kernel
theorem d_Reader_readExpression_0 : decode b_Reader_readExpression 0 = .ok (.aload_n 0, 1) := by decide +kernel
theorem d_Reader_readExpression_1 : decode b_Reader_readExpression 1 = .ok (.iconst 0, 1) := by decide +kernel
theorem d_Reader_readExpression_2 : decode b_Reader_readExpression 2 = .ok (.putfield 37, 3) := by decide +kernel
theorem d_Reader_readExpression_5 : decode b_Reader_readExpression 5 = .ok (.aload_n 0, 1) := by decide +kernel
theorem d_Reader_readExpression_6 : decode b_Reader_readExpression 6 = .ok (.iconst 0, 1) := by decide +kernel
theorem d_Reader_readExpression_7 : decode b_Reader_readExpression 7 = .ok (.putfield 49, 3) := by decide +kernel
theorem d_Reader_readExpression_10 : decode b_Reader_readExpression 10 = .ok (.aload_n 0, 1) := by decide +kernel
theorem d_Reader_readExpression_11 : decode b_Reader_readExpression 11 = .ok (.iconst 0, 1) := by decide +kernel
theorem d_Reader_readExpression_12 : decode b_Reader_readExpression 12 = .ok (.putfield 52, 3) := by decide +kernel
theorem d_Reader_readExpression_15 : decode b_Reader_readExpression 15 = .ok (.aload_n 0, 1) := by decide +kernel
theorem d_Reader_readExpression_16 : decode b_Reader_readExpression 16 = .ok (.getfield 43, 3) := by decide +kernel
theorem d_Reader_readExpression_19 : decode b_Reader_readExpression 19 = .ok (.iconst 0, 1) := by decide +kernel
theorem d_Reader_readExpression_20 : decode b_Reader_readExpression 20 = .ok (.iconst 0, 1) := by decide +kernel
theorem d_Reader_readExpression_21 : decode b_Reader_readExpression 21 = .ok (.iastore, 1) := by decide +kernel
theorem d_Reader_readExpression_22 : decode b_Reader_readExpression 22 = .ok (.iconst 1, 1) := by decide +kernel
theorem d_Reader_readExpression_23 : decode b_Reader_readExpression 23 = .ok (.istore_n 1, 1) := by decide +kernel
theorem d_Reader_readExpression_24 : decode b_Reader_readExpression 24 = .ok (.iconst 0, 1) := by decide +kernel
theorem d_Reader_readExpression_25 : decode b_Reader_readExpression 25 = .ok (.istore_n 2, 1) := by decide +kernel
theorem d_Reader_readExpression_26 : decode b_Reader_readExpression 26 = .ok (.iload_n 2, 1) := by decide +kernel
theorem d_Reader_readExpression_27 : decode b_Reader_readExpression 27 = .ok (.sipush 400, 3) := by decide +kernel
theorem d_Reader_readExpression_30 : decode b_Reader_readExpression 30 = .ok (.if_icmp .ge 31, 3) := by decide +kernel
theorem d_Reader_readExpression_33 : decode b_Reader_readExpression 33 = .ok (.iload_n 1, 1) := by decide +kernel
theorem d_Reader_readExpression_34 : decode b_Reader_readExpression 34 = .ok (.ifCond .eq 27, 3) := by decide +kernel
theorem d_Reader_readExpression_37 : decode b_Reader_readExpression 37 = .ok (.aload_n 0, 1) := by decide +kernel
theorem d_Reader_readExpression_38 : decode b_Reader_readExpression 38 = .ok (.invokevirtual 116, 3) := by decide +kernel
theorem d_Reader_readExpression_41 : decode b_Reader_readExpression 41 = .ok (.ifCond .ne 5, 3) := by decide +kernel
theorem d_Reader_readExpression_44 : decode b_Reader_readExpression 44 = .ok (.iconst 0, 1) := by decide +kernel
theorem d_Reader_readExpression_45 : decode b_Reader_readExpression 45 = .ok (.ireturn, 1) := by decide +kernel
theorem d_Reader_readExpression_46 : decode b_Reader_readExpression 46 = .ok (.aload_n 0, 1) := by decide +kernel
theorem d_Reader_readExpression_47 : decode b_Reader_readExpression 47 = .ok (.invokevirtual 119, 3) := by decide +kernel
theorem d_Reader_readExpression_50 : decode b_Reader_readExpression 50 = .ok (.aload_n 0, 1) := by decide +kernel
theorem d_Reader_readExpression_51 : decode b_Reader_readExpression 51 = .ok (.invokevirtual 122, 3) := by decide +kernel
theorem d_Reader_readExpression_54 : decode b_Reader_readExpression 54 = .ok (.istore_n 1, 1) := by decide +kernel
theorem d_Reader_readExpression_55 : decode b_Reader_readExpression 55 = .ok (.iinc 2 1, 3) := by decide +kernel
theorem d_Reader_readExpression_58 : decode b_Reader_readExpression 58 = .ok (.goto (-32), 3) := by decide +kernel
theorem d_Reader_readExpression_61 : decode b_Reader_readExpression 61 = .ok (.aload_n 0, 1) := by decide +kernel
theorem d_Reader_readExpression_62 : decode b_Reader_readExpression 62 = .ok (.getfield 49, 3) := by decide +kernel
theorem d_Reader_readExpression_65 : decode b_Reader_readExpression 65 = .ok (.ifCond .le 5, 3) := by decide +kernel
theorem d_Reader_readExpression_68 : decode b_Reader_readExpression 68 = .ok (.iconst 0, 1) := by decide +kernel
theorem d_Reader_readExpression_69 : decode b_Reader_readExpression 69 = .ok (.ireturn, 1) := by decide +kernel
theorem d_Reader_readExpression_70 : decode b_Reader_readExpression 70 = .ok (.aload_n 0, 1) := by decide +kernel
theorem d_Reader_readExpression_71 : decode b_Reader_readExpression 71 = .ok (.iconst 0, 1) := by decide +kernel
theorem d_Reader_readExpression_72 : decode b_Reader_readExpression 72 = .ok (.invokevirtual 125, 3) := by decide +kernel
theorem d_Reader_readExpression_75 : decode b_Reader_readExpression 75 = .ok (.aload_n 0, 1) := by decide +kernel
theorem d_Reader_readExpression_76 : decode b_Reader_readExpression 76 = .ok (.getfield 29, 3) := by decide +kernel
theorem d_Reader_readExpression_79 : decode b_Reader_readExpression 79 = .ok (.getfield 128, 3) := by decide +kernel
theorem d_Reader_readExpression_82 : decode b_Reader_readExpression 82 = .ok (.aload_n 0, 1) := by decide +kernel
theorem d_Reader_readExpression_83 : decode b_Reader_readExpression 83 = .ok (.invokevirtual 78, 3) := by decide +kernel
theorem d_Reader_readExpression_86 : decode b_Reader_readExpression 86 = .ok (.invokevirtual 132, 3) := by decide +kernel
theorem d_Reader_readExpression_89 : decode b_Reader_readExpression 89 = .ok (.iconst 1, 1) := by decide +kernel
theorem d_Reader_readExpression_90 : decode b_Reader_readExpression 90 = .ok (.ireturn, 1) := by decide +kernel
theorem d_Reader_readFactor_0 : decode b_Reader_readFactor 0 = .ok (.aload_n 0, 1) := by decide +kernel
theorem d_Reader_readFactor_1 : decode b_Reader_readFactor 1 = .ok (.getfield 52, 3) := by decide +kernel
theorem d_Reader_readFactor_4 : decode b_Reader_readFactor 4 = .ok (.bipush 8, 2) := by decide +kernel
theorem d_Reader_readFactor_6 : decode b_Reader_readFactor 6 = .ok (.if_icmp .ge 65, 3) := by decide +kernel
theorem d_Reader_readFactor_9 : decode b_Reader_readFactor 9 = .ok (.aload_n 0, 1) := by decide +kernel
theorem d_Reader_readFactor_10 : decode b_Reader_readFactor 10 = .ok (.invokevirtual 78, 3) := by decide +kernel
theorem d_Reader_readFactor_13 : decode b_Reader_readFactor 13 = .ok (.bipush 45, 2) := by decide +kernel
theorem d_Reader_readFactor_15 : decode b_Reader_readFactor 15 = .ok (.if_icmp .eq 12, 3) := by decide +kernel
theorem d_Reader_readFactor_18 : decode b_Reader_readFactor 18 = .ok (.aload_n 0, 1) := by decide +kernel
theorem d_Reader_readFactor_19 : decode b_Reader_readFactor 19 = .ok (.invokevirtual 78, 3) := by decide +kernel
theorem d_Reader_readFactor_22 : decode b_Reader_readFactor 22 = .ok (.bipush 40, 2) := by decide +kernel
theorem d_Reader_readFactor_24 : decode b_Reader_readFactor 24 = .ok (.if_icmp .ne 47, 3) := by decide +kernel
theorem d_Reader_readFactor_27 : decode b_Reader_readFactor 27 = .ok (.aload_n 0, 1) := by decide +kernel
theorem d_Reader_readFactor_28 : decode b_Reader_readFactor 28 = .ok (.invokevirtual 78, 3) := by decide +kernel
theorem d_Reader_readFactor_31 : decode b_Reader_readFactor 31 = .ok (.bipush 45, 2) := by decide +kernel
theorem d_Reader_readFactor_33 : decode b_Reader_readFactor 33 = .ok (.if_icmp .ne 11, 3) := by decide +kernel
theorem d_Reader_readFactor_36 : decode b_Reader_readFactor 36 = .ok (.aload_n 0, 1) := by decide +kernel
theorem d_Reader_readFactor_37 : decode b_Reader_readFactor 37 = .ok (.iconst 4, 1) := by decide +kernel
theorem d_Reader_readFactor_38 : decode b_Reader_readFactor 38 = .ok (.invokevirtual 138, 3) := by decide +kernel
theorem d_Reader_readFactor_41 : decode b_Reader_readFactor 41 = .ok (.goto 7, 3) := by decide +kernel
theorem d_Reader_readFactor_44 : decode b_Reader_readFactor 44 = .ok (.aload_n 0, 1) := by decide +kernel
theorem d_Reader_readFactor_45 : decode b_Reader_readFactor 45 = .ok (.invokevirtual 141, 3) := by decide +kernel
theorem d_Reader_readFactor_48 : decode b_Reader_readFactor 48 = .ok (.aload_n 0, 1) := by decide +kernel
theorem d_Reader_readFactor_49 : decode b_Reader_readFactor 49 = .ok (.dup, 1) := by decide +kernel
theorem d_Reader_readFactor_50 : decode b_Reader_readFactor 50 = .ok (.getfield 23, 3) := by decide +kernel
theorem d_Reader_readFactor_53 : decode b_Reader_readFactor 53 = .ok (.iconst 1, 1) := by decide +kernel
theorem d_Reader_readFactor_54 : decode b_Reader_readFactor 54 = .ok (.iadd, 1) := by decide +kernel
theorem d_Reader_readFactor_55 : decode b_Reader_readFactor 55 = .ok (.putfield 23, 3) := by decide +kernel
theorem d_Reader_readFactor_58 : decode b_Reader_readFactor 58 = .ok (.aload_n 0, 1) := by decide +kernel
theorem d_Reader_readFactor_59 : decode b_Reader_readFactor 59 = .ok (.dup, 1) := by decide +kernel
theorem d_Reader_readFactor_60 : decode b_Reader_readFactor 60 = .ok (.getfield 52, 3) := by decide +kernel
theorem d_Reader_readFactor_63 : decode b_Reader_readFactor 63 = .ok (.iconst 1, 1) := by decide +kernel
theorem d_Reader_readFactor_64 : decode b_Reader_readFactor 64 = .ok (.iadd, 1) := by decide +kernel
theorem d_Reader_readFactor_65 : decode b_Reader_readFactor 65 = .ok (.putfield 52, 3) := by decide +kernel
theorem d_Reader_readFactor_68 : decode b_Reader_readFactor 68 = .ok (.goto (-68), 3) := by decide +kernel
theorem d_Reader_readFactor_71 : decode b_Reader_readFactor 71 = .ok (.aload_n 0, 1) := by decide +kernel
theorem d_Reader_readFactor_72 : decode b_Reader_readFactor 72 = .ok (.getfield 46, 3) := by decide +kernel
theorem d_Reader_readFactor_75 : decode b_Reader_readFactor 75 = .ok (.aload_n 0, 1) := by decide +kernel
theorem d_Reader_readFactor_76 : decode b_Reader_readFactor 76 = .ok (.getfield 49, 3) := by decide +kernel
theorem d_Reader_readFactor_79 : decode b_Reader_readFactor 79 = .ok (.iconst 0, 1) := by decide +kernel
theorem d_Reader_readFactor_80 : decode b_Reader_readFactor 80 = .ok (.iastore, 1) := by decide +kernel
theorem d_Reader_readFactor_81 : decode b_Reader_readFactor 81 = .ok (.aload_n 0, 1) := by decide +kernel
theorem d_Reader_readFactor_82 : decode b_Reader_readFactor 82 = .ok (.invokevirtual 78, 3) := by decide +kernel
theorem d_Reader_readFactor_85 : decode b_Reader_readFactor 85 = .ok (.istore_n 1, 1) := by decide +kernel
theorem d_Reader_readFactor_86 : decode b_Reader_readFactor 86 = .ok (.iload_n 1, 1) := by decide +kernel
theorem d_Reader_readFactor_87 : decode b_Reader_readFactor 87 = .ok (.bipush 48, 2) := by decide +kernel
theorem d_Reader_readFactor_89 : decode b_Reader_readFactor 89 = .ok (.if_icmp .lt 18, 3) := by decide +kernel
theorem d_Reader_readFactor_92 : decode b_Reader_readFactor 92 = .ok (.iload_n 1, 1) := by decide +kernel
theorem d_Reader_readFactor_93 : decode b_Reader_readFactor 93 = .ok (.bipush 57, 2) := by decide +kernel
theorem d_Reader_readFactor_95 : decode b_Reader_readFactor 95 = .ok (.if_icmp .gt 12, 3) := by decide +kernel
theorem d_Reader_readFactor_98 : decode b_Reader_readFactor 98 = .ok (.aload_n 0, 1) := by decide +kernel
theorem d_Reader_readFactor_99 : decode b_Reader_readFactor 99 = .ok (.invokevirtual 144, 3) := by decide +kernel
theorem d_Reader_readFactor_102 : decode b_Reader_readFactor 102 = .ok (.ifCond .ne 64, 3) := by decide +kernel
theorem d_Reader_readFactor_105 : decode b_Reader_readFactor 105 = .ok (.iconst 0, 1) := by decide +kernel
theorem d_Reader_readFactor_106 : decode b_Reader_readFactor 106 = .ok (.ireturn, 1) := by decide +kernel
theorem d_Reader_readFactor_107 : decode b_Reader_readFactor 107 = .ok (.iload_n 1, 1) := by decide +kernel
theorem d_Reader_readFactor_108 : decode b_Reader_readFactor 108 = .ok (.bipush 97, 2) := by decide +kernel
theorem d_Reader_readFactor_110 : decode b_Reader_readFactor 110 = .ok (.if_icmp .lt 36, 3) := by decide +kernel
theorem d_Reader_readFactor_113 : decode b_Reader_readFactor 113 = .ok (.iload_n 1, 1) := by decide +kernel
theorem d_Reader_readFactor_114 : decode b_Reader_readFactor 114 = .ok (.bipush 97, 2) := by decide +kernel
theorem d_Reader_readFactor_116 : decode b_Reader_readFactor 116 = .ok (.isub, 1) := by decide +kernel
theorem d_Reader_readFactor_117 : decode b_Reader_readFactor 117 = .ok (.bipush 8, 2) := by decide +kernel
theorem d_Reader_readFactor_119 : decode b_Reader_readFactor 119 = .ok (.if_icmp .ge 27, 3) := by decide +kernel
theorem d_Reader_readFactor_122 : decode b_Reader_readFactor 122 = .ok (.aload_n 0, 1) := by decide +kernel
theorem d_Reader_readFactor_123 : decode b_Reader_readFactor 123 = .ok (.getfield 29, 3) := by decide +kernel
theorem d_Reader_readFactor_126 : decode b_Reader_readFactor 126 = .ok (.iload_n 1, 1) := by decide +kernel
theorem d_Reader_readFactor_127 : decode b_Reader_readFactor 127 = .ok (.bipush 97, 2) := by decide +kernel
theorem d_Reader_readFactor_129 : decode b_Reader_readFactor 129 = .ok (.isub, 1) := by decide +kernel
theorem d_Reader_readFactor_130 : decode b_Reader_readFactor 130 = .ok (.invokevirtual 147, 3) := by decide +kernel
theorem d_Reader_readFactor_133 : decode b_Reader_readFactor 133 = .ok (.aload_n 0, 1) := by decide +kernel
theorem d_Reader_readFactor_134 : decode b_Reader_readFactor 134 = .ok (.dup, 1) := by decide +kernel
theorem d_Reader_readFactor_135 : decode b_Reader_readFactor 135 = .ok (.getfield 23, 3) := by decide +kernel
theorem d_Reader_readFactor_138 : decode b_Reader_readFactor 138 = .ok (.iconst 1, 1) := by decide +kernel
theorem d_Reader_readFactor_139 : decode b_Reader_readFactor 139 = .ok (.iadd, 1) := by decide +kernel
theorem d_Reader_readFactor_140 : decode b_Reader_readFactor 140 = .ok (.putfield 23, 3) := by decide +kernel
theorem d_Reader_readFactor_143 : decode b_Reader_readFactor 143 = .ok (.goto 23, 3) := by decide +kernel
theorem d_Reader_readFactor_146 : decode b_Reader_readFactor 146 = .ok (.aload_n 0, 1) := by decide +kernel
theorem d_Reader_readFactor_147 : decode b_Reader_readFactor 147 = .ok (.invokevirtual 89, 3) := by decide +kernel
theorem d_Reader_readFactor_150 : decode b_Reader_readFactor 150 = .ok (.istore_n 2, 1) := by decide +kernel
theorem d_Reader_readFactor_151 : decode b_Reader_readFactor 151 = .ok (.iload_n 2, 1) := by decide +kernel
theorem d_Reader_readFactor_152 : decode b_Reader_readFactor 152 = .ok (.iconst (-1), 1) := by decide +kernel
theorem d_Reader_readFactor_153 : decode b_Reader_readFactor 153 = .ok (.if_icmp .ne 5, 3) := by decide +kernel
theorem d_Reader_readFactor_156 : decode b_Reader_readFactor 156 = .ok (.iconst 0, 1) := by decide +kernel
theorem d_Reader_readFactor_157 : decode b_Reader_readFactor 157 = .ok (.ireturn, 1) := by decide +kernel
theorem d_Reader_readFactor_158 : decode b_Reader_readFactor 158 = .ok (.aload_n 0, 1) := by decide +kernel
theorem d_Reader_readFactor_159 : decode b_Reader_readFactor 159 = .ok (.getfield 29, 3) := by decide +kernel
theorem d_Reader_readFactor_162 : decode b_Reader_readFactor 162 = .ok (.iload_n 2, 1) := by decide +kernel
theorem d_Reader_readFactor_163 : decode b_Reader_readFactor 163 = .ok (.invokevirtual 150, 3) := by decide +kernel
theorem d_Reader_readFactor_166 : decode b_Reader_readFactor 166 = .ok (.aload_n 0, 1) := by decide +kernel
theorem d_Reader_readFactor_167 : decode b_Reader_readFactor 167 = .ok (.invokevirtual 153, 3) := by decide +kernel
theorem d_Reader_readFactor_170 : decode b_Reader_readFactor 170 = .ok (.iconst 1, 1) := by decide +kernel
theorem d_Reader_readFactor_171 : decode b_Reader_readFactor 171 = .ok (.ireturn, 1) := by decide +kernel
theorem d_Reader_readStatement_0 : decode b_Reader_readStatement 0 = .ok (.aload_n 0, 1) := by decide +kernel
theorem d_Reader_readStatement_1 : decode b_Reader_readStatement 1 = .ok (.bipush 33, 2) := by decide +kernel
theorem d_Reader_readStatement_3 : decode b_Reader_readStatement 3 = .ok (.invokevirtual 62, 3) := by decide +kernel
theorem d_Reader_readStatement_6 : decode b_Reader_readStatement 6 = .ok (.ifCond .eq 16, 3) := by decide +kernel
theorem d_Reader_readStatement_9 : decode b_Reader_readStatement 9 = .ok (.aload_n 0, 1) := by decide +kernel
theorem d_Reader_readStatement_10 : decode b_Reader_readStatement 10 = .ok (.getfield 29, 3) := by decide +kernel
theorem d_Reader_readStatement_13 : decode b_Reader_readStatement 13 = .ok (.iconst (-1), 1) := by decide +kernel
theorem d_Reader_readStatement_14 : decode b_Reader_readStatement 14 = .ok (.invokevirtual 82, 3) := by decide +kernel
theorem d_Reader_readStatement_17 : decode b_Reader_readStatement 17 = .ok (.aload_n 0, 1) := by decide +kernel
theorem d_Reader_readStatement_18 : decode b_Reader_readStatement 18 = .ok (.invokevirtual 86, 3) := by decide +kernel
theorem d_Reader_readStatement_21 : decode b_Reader_readStatement 21 = .ok (.ireturn, 1) := by decide +kernel
theorem d_Reader_readStatement_22 : decode b_Reader_readStatement 22 = .ok (.aload_n 0, 1) := by decide +kernel
theorem d_Reader_readStatement_23 : decode b_Reader_readStatement 23 = .ok (.getfield 23, 3) := by decide +kernel
theorem d_Reader_readStatement_26 : decode b_Reader_readStatement 26 = .ok (.istore_n 1, 1) := by decide +kernel
theorem d_Reader_readStatement_27 : decode b_Reader_readStatement 27 = .ok (.aload_n 0, 1) := by decide +kernel
theorem d_Reader_readStatement_28 : decode b_Reader_readStatement 28 = .ok (.invokevirtual 89, 3) := by decide +kernel
theorem d_Reader_readStatement_31 : decode b_Reader_readStatement 31 = .ok (.istore_n 2, 1) := by decide +kernel
theorem d_Reader_readStatement_32 : decode b_Reader_readStatement 32 = .ok (.iload_n 2, 1) := by decide +kernel
theorem d_Reader_readStatement_33 : decode b_Reader_readStatement 33 = .ok (.iconst (-1), 1) := by decide +kernel
theorem d_Reader_readStatement_34 : decode b_Reader_readStatement 34 = .ok (.if_icmp .ne 5, 3) := by decide +kernel
theorem d_Reader_readStatement_37 : decode b_Reader_readStatement 37 = .ok (.iconst 0, 1) := by decide +kernel
theorem d_Reader_readStatement_38 : decode b_Reader_readStatement 38 = .ok (.ireturn, 1) := by decide +kernel
theorem d_Reader_readStatement_39 : decode b_Reader_readStatement 39 = .ok (.aload_n 0, 1) := by decide +kernel
theorem d_Reader_readStatement_40 : decode b_Reader_readStatement 40 = .ok (.getfield 29, 3) := by decide +kernel
theorem d_Reader_readStatement_43 : decode b_Reader_readStatement 43 = .ok (.getfield 93, 3) := by decide +kernel
theorem d_Reader_readStatement_46 : decode b_Reader_readStatement 46 = .ok (.iload_n 2, 1) := by decide +kernel
theorem d_Reader_readStatement_47 : decode b_Reader_readStatement 47 = .ok (.iaload, 1) := by decide +kernel
theorem d_Reader_readStatement_48 : decode b_Reader_readStatement 48 = .ok (.iconst (-1), 1) := by decide +kernel
theorem d_Reader_readStatement_49 : decode b_Reader_readStatement 49 = .ok (.if_icmp .eq 10, 3) := by decide +kernel
theorem d_Reader_readStatement_52 : decode b_Reader_readStatement 52 = .ok (.aload_n 0, 1) := by decide +kernel
theorem d_Reader_readStatement_53 : decode b_Reader_readStatement 53 = .ok (.iload_n 1, 1) := by decide +kernel
theorem d_Reader_readStatement_54 : decode b_Reader_readStatement 54 = .ok (.putfield 23, 3) := by decide +kernel
theorem d_Reader_readStatement_57 : decode b_Reader_readStatement 57 = .ok (.iconst 0, 1) := by decide +kernel
theorem d_Reader_readStatement_58 : decode b_Reader_readStatement 58 = .ok (.ireturn, 1) := by decide +kernel
theorem d_Reader_readStatement_59 : decode b_Reader_readStatement 59 = .ok (.aload_n 0, 1) := by decide +kernel
theorem d_Reader_readStatement_60 : decode b_Reader_readStatement 60 = .ok (.bipush 61, 2) := by decide +kernel
theorem d_Reader_readStatement_62 : decode b_Reader_readStatement 62 = .ok (.invokevirtual 62, 3) := by decide +kernel
theorem d_Reader_readStatement_65 : decode b_Reader_readStatement 65 = .ok (.ifCond .ne 5, 3) := by decide +kernel
theorem d_Reader_readStatement_68 : decode b_Reader_readStatement 68 = .ok (.iconst 0, 1) := by decide +kernel
theorem d_Reader_readStatement_69 : decode b_Reader_readStatement 69 = .ok (.ireturn, 1) := by decide +kernel
theorem d_Reader_readStatement_70 : decode b_Reader_readStatement 70 = .ok (.aload_n 0, 1) := by decide +kernel
theorem d_Reader_readStatement_71 : decode b_Reader_readStatement 71 = .ok (.getfield 29, 3) := by decide +kernel
theorem d_Reader_readStatement_74 : decode b_Reader_readStatement 74 = .ok (.iload_n 2, 1) := by decide +kernel
theorem d_Reader_readStatement_75 : decode b_Reader_readStatement 75 = .ok (.invokevirtual 82, 3) := by decide +kernel
theorem d_Reader_readStatement_78 : decode b_Reader_readStatement 78 = .ok (.aload_n 0, 1) := by decide +kernel
theorem d_Reader_readStatement_79 : decode b_Reader_readStatement 79 = .ok (.invokevirtual 96, 3) := by decide +kernel
theorem d_Reader_readStatement_82 : decode b_Reader_readStatement 82 = .ok (.ireturn, 1) := by decide +kernel
theorem g_Reader_101 : GoodIn wsAll (wsV R_Reader 101 "java/lang/String" y_Str_indexOf ws_Str_indexOf) := gd_V ml_Reader_101 im_Str_indexOf se_Str_indexOf ini_String cd_Str_indexOf
def F_Reader_readCellName  (o0 : Ob) : Option (Int32 × Ob) :=
  bind1 (F_Reader_next o0) (fun v2 => if (v2 - (65 : Int32)) < 0 then (some ((-1 : Int32), o0)) else (if (v2 - (65 : Int32)) < (10 : Int32) then (bind1 (F_Reader_next (s32 o0 3 0 ((g32 o0 3 0) + (1 : Int32)))) (fun v6 => if 0 ≤ (idxOf v6) then (some ((((6 : Int32) * (v2 - (65 : Int32))) + (idxOf v6)), (s32 (s32 o0 3 0 ((g32 o0 3 0) + (1 : Int32))) 3 0 (((g32 o0 3 0) + (1 : Int32)) + (1 : Int32))))) else (some ((-1 : Int32), (s32 o0 3 0 ((g32 o0 3 0) + (1 : Int32))))))) else (some ((-1 : Int32), o0))))
abbrev ws_Reader_readCellName : List Cond := Cond.code y_Reader_readCellName b_Reader_readCellName 3 (some .int) :: wsAll
abbrev rm_Reader_readCellName : Room := { frames := 4, cells := 0, slots := 0, locals := 175 }
set_option maxHeartbeats 4000000 in
set_option maxRecDepth 100000 in
theorem c_Reader_readCellName (l : Launch) (ct dC : Nat → ClassId) (dI : Nat → Nat → Nat) (a0 : Nat → Nat) (r0_4 : Nat) (sz : Nat)  (o0 : Ob) (r : Int32) (n0 : Ob) (hF : F_Reader_readCellName o0 = some (r, n0)) : Met l y_Reader_readCellName ws_Reader_readCellName rm_Reader_readCellName (bw_Pc [.ref (a0 0)] (dC, dI) vwCl (tyA ct) [wReader ct a0 r0_4 o0] sz (nxs (bw_A [adReader a0] sz))) (bw_Q (dC, dI) vwCl (some (.int r)) [wReader ct a0 r0_4 n0] (bw_A [adReader a0] sz)) 0 0 (bw_A [adReader a0] sz) := by
  refine Met.ofW (cc := b_Reader_readCellName) (maxL := 3) (ret := (some .int)) (by decide) rfl ?_
  intro p e s m args below meth c s₁ B hml hv
  obtain ⟨rfl, hsz, hP, hK, hN0, hnx, hsx⟩ := hv
  have hx := B.exec
  have hb := B.bytes
  have hr := B.returns
  have hts : ∀ w ∈ wsAll, w.before [.ref (a0 0)].toArray s = true := fun w h9 => atoms_spec (ws := ws_Reader_readCellName) B.pre w (List.mem_cons_of_mem _ h9)
  have hown : s.vm.findClass R_Reader = some m.cls := findClass_of_methodNamed B.named
  have hlocks := B.notSynchronized
  subst hsz
  have hN : bw_N (bw_A [adReader a0] s.heap.size) [adReader a0] := hN0.self s.heap.size
  generalize hAe : bw_A [adReader a0] s.heap.size = A at hsx hN ⊢
  have hA : ∀ q : Nat, s.heap.size ≤ q → A q := fun q h => by rw [← hAe]; exact Or.inr h
  have hS : va_S A s.heap s.heap [] := va_S.rf
  have hl := lv_entry ([.ref (a0 0)]) (n := 3) (Nat.le_of_ble_eq_true rfl)
  rw [lg_entry_eq]
  generalize (lg_sl ([.ref (a0 0)]) ++ List.replicate (3 - (lg_sl ([.ref (a0 0)])).length) Slot.unset).toArray = ls at hl ⊢
  have hl : lv_has ls 3 [(0, .ref (a0 0))] := hl
  have C0 : cx wsAll vwCl (nxs A) p s m [.ref (a0 0)].toArray meth c (dC, dI) (tyA ct) b_Reader_readCellName 3 (some .int) R_Reader A [adReader a0] := ⟨hx, hb, hr, hml, hown, hlocks, hts, hK, hN, hA, hnx, hsx⟩
  have h := hF
  rw [F_Reader_readCellName] at h
  refine lv_aload_n hx hb d_Reader_readCellName_0 rfl (lv_at hl 0 rfl) ?_
  obtain ⟨v2, hG1, h⟩ := bind1_some h
  refine bw_callR (va_runV (As := []) (rest := []) ⟨hx, hb, hml, hown, hts⟩ (c_Reader_next l ct dC dI a0 r0_4 _ o0 v2 hG1) (cwV 0 hts g_Reader_78 rfl rfl rfl (by decide +kernel) ⟨Nat.le_of_ble_eq_true rfl, Nat.le_of_ble_eq_true rfl⟩) ⟨bw_blind nx_call, va_recv hK (hP 0 _ rfl) (ci := 3) (q0 := 0) rfl rfl, fun U hU hW => ⟨rfl, by rw [hU], by rw [hU]; exact hP.sub [0] rfl, va_K.moved hW.alike hK, (hN.sub [0] (by decide) rfl).weaken (fun _ _ => trivial), nx_warm hW hnx⟩⟩ rfl rfl hl.1 rfl (Nat.le_of_ble_eq_true rfl) d_Reader_readCellName_1 ⟨Nat.le_of_ble_eq_true rfl, Nat.le_of_ble_eq_true rfl⟩) ?_
  refine lv_bipush (v := 65) hx hb d_Reader_readCellName_4 (by decide) ?_
  refine lv_isub hx hb d_Reader_readCellName_6 ?_
  refine lv_istore_n (lv' := [(1, .int (v2 - (65 : Int32))), (0, .ref (a0 0))]) hx hb d_Reader_readCellName_7 rfl hl (by decide) rfl (fun ls hl => ?_)
  refine lv_iload_n hx hb d_Reader_readCellName_8 rfl (lv_at hl 0 rfl) ?_
  refine lv_if_lt (tgt := 18) hx hb d_Reader_readCellName_9 (by decide) (fun c3 => ?_) (fun c3 => ?_)
  · have h := ite_t c3 h
    refine lv_iconst (v := -1) hx hb d_Reader_readCellName_18 (by decide) ?_
    obtain ⟨rfl, rfl⟩ := res2 h
    exact W.iret hx hb hr (fun t ht hW => ⟨rfl, by rw [ht]; exact hP, hS.F ht⟩) hS.2.2 d_Reader_readCellName_19
  · have h := ite_f c3 h
    refine lv_iload_n hx hb d_Reader_readCellName_12 rfl (lv_at hl 0 rfl) ?_
    refine lv_bipush (v := 10) hx hb d_Reader_readCellName_13 (by decide) ?_
    refine lv_icmp_lt (tgt := 20) hx hb d_Reader_readCellName_15 (by decide) (fun c4 => ?_) (fun c4 => ?_)
    · have h := ite_t c4 h
      refine lv_aload_n hx hb d_Reader_readCellName_20 rfl (lv_at hl 1 rfl) ?_
      refine lv_dup hx hb d_Reader_readCellName_21 rfl ?_
      refine va_get (D := (dC, dI)) (ci := 3) (v := .int (g32 o0 3 0)) (C := R_Reader) (T := T_Reader) (N := 12) hx hb hts in_Reader hown hK (hP 0 _ rfl) 0 rfl rfl 3 (by decide) (hts _ fl_Reader_23) (fun _ h9 => h9) rfl d_Reader_readCellName_22 ?_
      refine lv_iconst (v := 1) hx hb d_Reader_readCellName_25 (by decide) ?_
      refine lv_iadd hx hb d_Reader_readCellName_26 ?_
      refine pt_Reader_3 hx hb hts hown hK hP hN hS 0 rfl (hts _ fl_Reader_23) d_Reader_readCellName_27 (fun H locs hP hS => ?_)
      have hP : bw_P (dC, dI) vwCl [wReader ct a0 r0_4 (s32 o0 3 0 ((g32 o0 3 0) + (1 : Int32)))] H := hP
      obtain ⟨q9, qv9, hZ9, hE9⟩ := id hsx
      refine va_ldcS hx hb hown hZ9 d_Reader_readCellName_30 ?_
      refine lv_aload_n hx hb d_Reader_readCellName_32 rfl (lv_at hl 1 rfl) ?_
      obtain ⟨v6, hG5, h⟩ := bind1_some h
      refine bw_callR (va_runV (As := []) (rest := [.ref q9]) ⟨hx, hb, hml, hown, hts⟩ (c_Reader_next l ct dC dI a0 r0_4 _ (s32 o0 3 0 ((g32 o0 3 0) + (1 : Int32))) v6 hG5) (cwV 0 hts g_Reader_78 rfl rfl rfl (by decide +kernel) ⟨Nat.le_of_ble_eq_true rfl, Nat.le_of_ble_eq_true rfl⟩) ⟨bw_blind nx_call, va_recv hK (hP 0 _ rfl) (ci := 3) (q0 := 0) rfl rfl, fun U hU hW => ⟨rfl, by rw [hU], by rw [hU]; exact hP.sub [0] rfl, va_K.moved hW.alike hK, (hN.sub [0] (by decide) rfl).weaken (fun _ _ => trivial), nx_warm hW hnx⟩⟩ rfl rfl hl.1 rfl (Nat.le_of_ble_eq_true rfl) d_Reader_readCellName_33 ⟨Nat.le_of_ble_eq_true rfl, Nat.le_of_ble_eq_true rfl⟩) ?_
      refine bw_callR (va_runV (As := [.int v6]) (rest := []) ⟨hx, hb, hml, hown, hts⟩ (c_Str_indexOf l q9 qv9 v6) (cwV 1 hts g_Reader_101 rfl rfl rfl (by decide +kernel) ⟨Nat.le_of_ble_eq_true rfl, Nat.le_of_ble_eq_true rfl⟩) (strX_pre hE9 hS) rfl rfl hl.1 rfl (Nat.le_of_ble_eq_true rfl) d_Reader_readCellName_36 ⟨Nat.le_of_ble_eq_true rfl, Nat.le_of_ble_eq_true rfl⟩) ?_
      refine lv_istore_n (lv' := [(2, .int (idxOf v6)), (1, .int (v2 - (65 : Int32))), (0, .ref (a0 0))]) hx hb d_Reader_readCellName_39 rfl hl (by decide) rfl (fun ls hl => ?_)
      refine lv_iload_n hx hb d_Reader_readCellName_40 rfl (lv_at hl 0 rfl) ?_
      refine lv_if_ge (tgt := 46) hx hb d_Reader_readCellName_41 (by decide) (fun c7 => ?_) (fun c7 => ?_)
      · have h := ite_t c7 h
        refine lv_aload_n hx hb d_Reader_readCellName_46 rfl (lv_at hl 2 rfl) ?_
        refine lv_dup hx hb d_Reader_readCellName_47 rfl ?_
        refine va_get (D := (dC, dI)) (ci := 3) (v := .int ((g32 o0 3 0) + (1 : Int32))) (C := R_Reader) (T := T_Reader) (N := 12) hx hb hts in_Reader hown hK (hP 0 _ rfl) 0 rfl rfl 3 (by decide) (hts _ fl_Reader_23) (fun _ h9 => h9) rfl d_Reader_readCellName_48 ?_
        refine lv_iconst (v := 1) hx hb d_Reader_readCellName_51 (by decide) ?_
        refine lv_iadd hx hb d_Reader_readCellName_52 ?_
        refine pt_Reader_3 hx hb hts hown hK hP hN hS 0 rfl (hts _ fl_Reader_23) d_Reader_readCellName_53 (fun H locs hP hS => ?_)
        have hP : bw_P (dC, dI) vwCl [wReader ct a0 r0_4 (s32 (s32 o0 3 0 ((g32 o0 3 0) + (1 : Int32))) 3 0 (((g32 o0 3 0) + (1 : Int32)) + (1 : Int32)))] H := hP
        refine lv_bipush (v := 6) hx hb d_Reader_readCellName_56 (by decide) ?_
        refine lv_iload_n hx hb d_Reader_readCellName_58 rfl (lv_at hl 1 rfl) ?_
        refine lv_imul hx hb d_Reader_readCellName_59 ?_
        refine lv_iload_n hx hb d_Reader_readCellName_60 rfl (lv_at hl 0 rfl) ?_
        refine lv_iadd hx hb d_Reader_readCellName_61 ?_
        obtain ⟨rfl, rfl⟩ := res2 h
        exact W.iret hx hb hr (fun t ht hW => ⟨rfl, by rw [ht]; exact hP, hS.F ht⟩) hS.2.2 d_Reader_readCellName_62
      · have h := ite_f c7 h
        refine lv_iconst (v := -1) hx hb d_Reader_readCellName_44 (by decide) ?_
        obtain ⟨rfl, rfl⟩ := res2 h
        exact W.iret hx hb hr (fun t ht hW => ⟨rfl, by rw [ht]; exact hP, hS.F ht⟩) hS.2.2 d_Reader_readCellName_45
    · have h := ite_f c4 h
      refine lv_iconst (v := -1) hx hb d_Reader_readCellName_18 (by decide) ?_
      obtain ⟨rfl, rfl⟩ := res2 h
      exact W.iret hx hb hr (fun t ht hW => ⟨rfl, by rw [ht]; exact hP, hS.F ht⟩) hS.2.2 d_Reader_readCellName_19
theorem g_Reader_144 : GoodIn wsAll (wsV R_Reader 144 R_Reader y_Reader_readNumber ws_Reader_readNumber) := gd_V ml_Reader_144 im_Reader_readNumber se_Reader_readNumber ini_Reader cd_Reader_readNumber
theorem g_Reader_141 : GoodIn wsAll (wsV R_Reader 141 R_Reader y_Reader_openGroup ws_Reader_openGroup) := gd_V ml_Reader_141 im_Reader_openGroup se_Reader_openGroup ini_Reader cd_Reader_openGroup
theorem g_Reader_147 : GoodIn wsAll (wsV R_Reader 147 R_Text y_Text_mentionOption ws_Text_mentionOption) := gd_V ml_Reader_147 im_Text_mentionOption se_Text_mentionOption ini_Text cd_Text_mentionOption
theorem g_Reader_89 : GoodIn wsAll (wsV R_Reader 89 R_Reader y_Reader_readCellName ws_Reader_readCellName) := gd_V ml_Reader_89 im_Reader_readCellName se_Reader_readCellName ini_Reader cd_Reader_readCellName
theorem g_Reader_150 : GoodIn wsAll (wsV R_Reader 150 R_Text y_Text_mentionCell ws_Text_mentionCell) := gd_V ml_Reader_150 im_Text_mentionCell se_Text_mentionCell ini_Text cd_Text_mentionCell
def F_Reader_readFactor_146   (o0 o1 o2 : Ob) : Option (Bool × Ob × Ob × Ob) :=
  bind2 (F_Reader_readCellName o0) (fun v37 o_38 => if v37 = (-1 : Int32) then (some (false, o_38, o1, o2)) else (bind2 (F_Text_mentionCell v37 o1 o2) (fun o_41 o_42 => bind2 (F_Reader_releaseNegations o_38 o_41 o_42) (fun o_44 o_45 => some (true, o_44, o_41, o_45)))))
def F_Reader_readFactor_107  (x1 : Int32) (o0 o1 o2 : Ob) : Option (Bool × Ob × Ob × Ob) :=
  if x1 < (97 : Int32) then (F_Reader_readFactor_146 o0 o1 o2) else (if (8 : Int32) ≤ (x1 - (97 : Int32)) then (F_Reader_readFactor_146 o0 o1 o2) else (bind2 (F_Text_mentionOption (x1 - (97 : Int32)) o1 o2) (fun o_31 o_32 => bind2 (F_Reader_releaseNegations (s32 o0 3 0 ((g32 o0 3 0) + (1 : Int32))) o_31 o_32) (fun o_34 o_35 => some (true, o_34, o_31, o_35)))))
def F_Reader_readFactor_71   (o0 o1 o2 : Ob) : Option (Bool × Ob × Ob × Ob) :=
  chk (inb (g32 o0 10 0) 9) (bind1 (F_Reader_next (s32 o0 9 (Int32.toNatClampNeg (g32 o0 10 0)) (0 : Int32))) (fun v10 => if v10 < (48 : Int32) then (F_Reader_readFactor_107 v10 (s32 o0 9 (Int32.toNatClampNeg (g32 o0 10 0)) (0 : Int32)) o1 o2) else (if (57 : Int32) < v10 then (F_Reader_readFactor_107 v10 (s32 o0 9 (Int32.toNatClampNeg (g32 o0 10 0)) (0 : Int32)) o1 o2) else (bind3 (F_Reader_readNumber (s32 o0 9 (Int32.toNatClampNeg (g32 o0 10 0)) (0 : Int32)) o1 o2) (fun v14 o_15 o_16 => if (b2i v14) = 0 then (some (false, o_15, o1, o_16)) else (bind2 (F_Reader_releaseNegations o_15 o1 o_16) (fun o_19 o_20 => some (true, o_19, o1, o_20))))))))
def F_Reader_readFactor_27 (k0 : Ob → Ob → Ob → Option (Bool × Ob × Ob × Ob))  (o0 o1 o2 : Ob) : Option (Bool × Ob × Ob × Ob) :=
  bind1 (F_Reader_next o0) (fun v22 => if v22 = (45 : Int32) then (bind1 (F_Reader_hold (4 : Int32) o0) (fun o_27 => k0 (s32 (s32 o_27 3 0 ((g32 o_27 3 0) + (1 : Int32))) 11 0 ((g32 o_27 11 0) + (1 : Int32))) o1 o2)) else (bind1 (F_Reader_openGroup o0) (fun o_25 => k0 (s32 (s32 o_25 3 0 ((g32 o_25 3 0) + (1 : Int32))) 11 0 ((g32 o_25 11 0) + (1 : Int32))) o1 o2)))
def F_Reader_readFactor_0  : Nat → Ob → Ob → Ob → Option (Bool × Ob × Ob × Ob)
  | 0, _, _, _ => none
  | n + 1, o0, o1, o2 =>
    if (8 : Int32) ≤ (g32 o0 11 0) then (F_Reader_readFactor_71 o0 o1 o2) else (bind1 (F_Reader_next o0) (fun v3 => if v3 = (45 : Int32) then (F_Reader_readFactor_27 (F_Reader_readFactor_0 n) o0 o1 o2) else (bind1 (F_Reader_next o0) (fun v6 => if v6 = (40 : Int32) then (F_Reader_readFactor_27 (F_Reader_readFactor_0 n) o0 o1 o2) else (F_Reader_readFactor_71 o0 o1 o2)))))
def F_Reader_readFactor  (o0 o1 o2 : Ob) : Option (Bool × Ob × Ob × Ob) :=
  F_Reader_readFactor_0 fuel o0 o1 o2
abbrev ws_Reader_readFactor : List Cond := Cond.code y_Reader_readFactor b_Reader_readFactor 3 (some .boolean) :: wsAll
abbrev rm_Reader_readFactor : Room := { frames := 5, cells := 0, slots := 0, locals := 197 }
set_option maxHeartbeats 4000000 in
set_option maxRecDepth 100000 in
theorem k_Reader_readFactor_146 {p : Program} {l : Launch} {e : Env} {s : State} {m : MethodId} {args : Array Value} {below : List Frame} {meth : Method} {c : Code} {A : Nat → Prop} {ct dC : Nat → ClassId} {dI : Nat → Nat → Nat} {a0 a1 a2 : Nat → Nat}  {r : Bool} {n0 n1 n2 : Ob}   (C0 : cx wsAll vwCl (nxs A) p s m args meth c (dC, dI) (tyA ct) b_Reader_readFactor 3 (some .boolean) R_Reader A [adReader a0, adText a1, adSteps a2])  : ∀  (o0 o1 o2 : Ob) (H : Heap) (locs : List Loc) (ls : Array Slot), bw_P (dC, dI) vwCl [wReader ct a0 (a1 0) o0, wText ct a1 (a2 0) o1, wSteps ct a2 o2] H → va_S A s.heap H locs → lv_has ls 3 [(0, .ref (a0 0))] → F_Reader_readFactor_146 o0 o1 o2 = some (r, n0, n1, n2) → W p l e (headSpec ws_Reader_readFactor rm_Reader_readFactor).room s m args below meth c H locs 0 0 (MQ below (bw_Q (dC, dI) vwCl (some (.int (b2i r))) [wReader ct a0 (a1 0) n0, wText ct a1 (a2 0) n1, wSteps ct a2 n2] A) args s 0 0 A) (F0 m 146 ls []) := by
  obtain ⟨hx, hb, hr, hml, hown, hlocks, hts, hK, hN, hA, hnx, hsx⟩ := id C0
  intro o0 o1 o2 H locs ls hP hS hl h
  rw [F_Reader_readFactor_146] at h
  refine lv_aload_n hx hb d_Reader_readFactor_146 rfl (lv_at hl 0 rfl) ?_
  obtain ⟨v37, o_38, hG36, h⟩ := bind2_some h
  refine bw_call (Lc := [wReader ct a0 (a1 0) o0]) (Lc' := [wReader ct a0 (a1 0) o_38]) (L' := [wReader ct a0 (a1 0) o_38, wText ct a1 (a2 0) o1, wSteps ct a2 o2]) [0] (va_runV (As := []) (rest := []) ⟨hx, hb, hml, hown, hts⟩ (c_Reader_readCellName l ct dC dI a0 (a1 0) _ o0 v37 o_38 hG36) (cwV 0 hts g_Reader_89 rfl rfl rfl (by decide +kernel) ⟨Nat.le_of_ble_eq_true rfl, Nat.le_of_ble_eq_true rfl⟩) ⟨bw_blind nxs_call, va_recv hK (hP 0 _ rfl) (ci := 3) (q0 := 0) rfl rfl, fun U hU hW => ⟨rfl, by rw [hU], by rw [hU]; exact hP.sub [0] rfl, va_K.moved hW.alike hK, (hN.sub [0] (by decide) rfl).weaken (fun _ _ => trivial), ⟨nx_warm hW hnx, sx_call hsx hS hN hA [0] rfl hU hW⟩⟩⟩ rfl rfl hl.1 rfl (Nat.le_of_ble_eq_true rfl) d_Reader_readFactor_147 ⟨Nat.le_of_ble_eq_true rfl, Nat.le_of_ble_eq_true rfl⟩) hP hN hS hA rfl rfl rfl (fun H locs hP hS => ?_)
  refine lv_istore_n (lv' := [(2, .int v37), (0, .ref (a0 0))]) hx hb d_Reader_readFactor_150 rfl hl (by decide) rfl (fun ls hl => ?_)
  refine lv_iload_n hx hb d_Reader_readFactor_151 rfl (lv_at hl 0 rfl) ?_
  refine lv_iconst (v := -1) hx hb d_Reader_readFactor_152 (by decide) ?_
  refine lv_icmp_ne (tgt := 158) hx hb d_Reader_readFactor_153 (by decide) (fun c39 => ?_) (fun c39 => ?_)
  · have h := ite_f c39 h
    refine lv_aload_n hx hb d_Reader_readFactor_158 rfl (lv_at hl 1 rfl) ?_
    refine va_get (D := (dC, dI)) (ci := 3) (v := .ref (a1 0)) (C := R_Reader) (T := T_Reader) (N := 12) hx hb hts in_Reader hown hK (hP 0 _ rfl) 0 rfl rfl 4 (by decide) (hts _ fl_Reader_29) (fun _ h9 => h9) rfl d_Reader_readFactor_159 ?_
    refine lv_iload_n hx hb d_Reader_readFactor_162 rfl (lv_at hl 0 rfl) ?_
    obtain ⟨o_41, o_42, hG40, h⟩ := bind2_some h
    refine bw_call (Lc := [wText ct a1 (a2 0) o1, wSteps ct a2 o2]) (Lc' := [wText ct a1 (a2 0) o_41, wSteps ct a2 o_42]) (L' := [wReader ct a0 (a1 0) o_38, wText ct a1 (a2 0) o_41, wSteps ct a2 o_42]) [1, 2] (va_runV (As := [.int v37]) (rest := []) ⟨hx, hb, hml, hown, hts⟩ (c_Text_mentionCell l ct dC dI a1 a2 _ v37 o1 o2 o_41 o_42 hG40) (cwV 1 hts g_Reader_150 rfl rfl rfl (by decide +kernel) ⟨Nat.le_of_ble_eq_true rfl, Nat.le_of_ble_eq_true rfl⟩) ⟨bw_blind nx_call, va_recv hK (hP 1 _ rfl) (ci := 2) (q0 := 0) rfl rfl, fun U hU hW => ⟨rfl, by rw [hU], by rw [hU]; exact hP.sub [1, 2] rfl, va_K.moved hW.alike hK, (hN.sub [1, 2] (by decide) rfl).weaken (fun _ _ => trivial), nx_warm hW hnx⟩⟩ rfl rfl hl.1 rfl (Nat.le_of_ble_eq_true rfl) d_Reader_readFactor_163 ⟨Nat.le_of_ble_eq_true rfl, Nat.le_of_ble_eq_true rfl⟩) hP hN hS hA rfl rfl rfl (fun H locs hP hS => ?_)
    refine lv_aload_n hx hb d_Reader_readFactor_166 rfl (lv_at hl 1 rfl) ?_
    obtain ⟨o_44, o_45, hG43, h⟩ := bind2_some h
    refine bw_call (Lc := [wReader ct a0 (a1 0) o_38, wText ct a1 (a2 0) o_41, wSteps ct a2 o_42]) (Lc' := [wReader ct a0 (a1 0) o_44, wText ct a1 (a2 0) o_41, wSteps ct a2 o_45]) (L' := [wReader ct a0 (a1 0) o_44, wText ct a1 (a2 0) o_41, wSteps ct a2 o_45]) [0, 1, 2] (va_runV (As := []) (rest := []) ⟨hx, hb, hml, hown, hts⟩ (c_Reader_releaseNegations l ct dC dI a0 a1 a2 _ o_38 o_41 o_42 o_44 o_45 hG43) (cwV 0 hts g_Reader_153 rfl rfl rfl (by decide +kernel) ⟨Nat.le_of_ble_eq_true rfl, Nat.le_of_ble_eq_true rfl⟩) ⟨bw_blind nx_call, va_recv hK (hP 0 _ rfl) (ci := 3) (q0 := 0) rfl rfl, fun U hU hW => ⟨rfl, by rw [hU], by rw [hU]; exact hP.sub [0, 1, 2] rfl, va_K.moved hW.alike hK, (hN.sub [0, 1, 2] (by decide) rfl).weaken (fun _ _ => trivial), nx_warm hW hnx⟩⟩ rfl rfl hl.1 rfl (Nat.le_of_ble_eq_true rfl) d_Reader_readFactor_167 ⟨Nat.le_of_ble_eq_true rfl, Nat.le_of_ble_eq_true rfl⟩) hP hN hS hA rfl rfl rfl (fun H locs hP hS => ?_)
    refine lv_iconst (v := 1) hx hb d_Reader_readFactor_170 (by decide) ?_
    obtain ⟨rfl, rfl, rfl, rfl⟩ := res4 h
    exact W.zret hx hb hr rfl (fun t ht hW => ⟨rfl, by rw [ht]; exact hP, hS.F ht⟩) hS.2.2 d_Reader_readFactor_171
  · have h := ite_t c39 h
    refine lv_iconst (v := 0) hx hb d_Reader_readFactor_156 (by decide) ?_
    obtain ⟨rfl, rfl, rfl, rfl⟩ := res4 h
    exact W.zret hx hb hr rfl (fun t ht hW => ⟨rfl, by rw [ht]; exact hP, hS.F ht⟩) hS.2.2 d_Reader_readFactor_157
set_option maxHeartbeats 4000000 in
set_option maxRecDepth 100000 in
theorem k_Reader_readFactor_107 {p : Program} {l : Launch} {e : Env} {s : State} {m : MethodId} {args : Array Value} {below : List Frame} {meth : Method} {c : Code} {A : Nat → Prop} {ct dC : Nat → ClassId} {dI : Nat → Nat → Nat} {a0 a1 a2 : Nat → Nat}  {r : Bool} {n0 n1 n2 : Ob}   (C0 : cx wsAll vwCl (nxs A) p s m args meth c (dC, dI) (tyA ct) b_Reader_readFactor 3 (some .boolean) R_Reader A [adReader a0, adText a1, adSteps a2])  : ∀ (x1 : Int32) (o0 o1 o2 : Ob) (H : Heap) (locs : List Loc) (ls : Array Slot), bw_P (dC, dI) vwCl [wReader ct a0 (a1 0) o0, wText ct a1 (a2 0) o1, wSteps ct a2 o2] H → va_S A s.heap H locs → lv_has ls 3 [(0, .ref (a0 0)), (1, .int x1)] → F_Reader_readFactor_107 x1 o0 o1 o2 = some (r, n0, n1, n2) → W p l e (headSpec ws_Reader_readFactor rm_Reader_readFactor).room s m args below meth c H locs 0 0 (MQ below (bw_Q (dC, dI) vwCl (some (.int (b2i r))) [wReader ct a0 (a1 0) n0, wText ct a1 (a2 0) n1, wSteps ct a2 n2] A) args s 0 0 A) (F0 m 107 ls []) := by
  obtain ⟨hx, hb, hr, hml, hown, hlocks, hts, hK, hN, hA, hnx, hsx⟩ := id C0
  intro x1 o0 o1 o2 H locs ls hP hS hl h
  rw [F_Reader_readFactor_107] at h
  refine lv_iload_n hx hb d_Reader_readFactor_107 rfl (lv_at hl 1 rfl) ?_
  refine lv_bipush (v := 97) hx hb d_Reader_readFactor_108 (by decide) ?_
  refine lv_icmp_lt (tgt := 146) hx hb d_Reader_readFactor_110 (by decide) (fun c28 => ?_) (fun c28 => ?_)
  · have h := ite_t c28 h
    exact k_Reader_readFactor_146 C0 o0 o1 o2 _ _ _ hP hS (lv_sub hl [0] rfl) h
  · have h := ite_f c28 h
    refine lv_iload_n hx hb d_Reader_readFactor_113 rfl (lv_at hl 1 rfl) ?_
    refine lv_bipush (v := 97) hx hb d_Reader_readFactor_114 (by decide) ?_
    refine lv_isub hx hb d_Reader_readFactor_116 ?_
    refine lv_bipush (v := 8) hx hb d_Reader_readFactor_117 (by decide) ?_
    refine lv_icmp_ge (tgt := 146) hx hb d_Reader_readFactor_119 (by decide) (fun c29 => ?_) (fun c29 => ?_)
    · have h := ite_t c29 h
      exact k_Reader_readFactor_146 C0 o0 o1 o2 _ _ _ hP hS (lv_sub hl [0] rfl) h
    · have h := ite_f c29 h
      refine lv_aload_n hx hb d_Reader_readFactor_122 rfl (lv_at hl 0 rfl) ?_
      refine va_get (D := (dC, dI)) (ci := 3) (v := .ref (a1 0)) (C := R_Reader) (T := T_Reader) (N := 12) hx hb hts in_Reader hown hK (hP 0 _ rfl) 0 rfl rfl 4 (by decide) (hts _ fl_Reader_29) (fun _ h9 => h9) rfl d_Reader_readFactor_123 ?_
      refine lv_iload_n hx hb d_Reader_readFactor_126 rfl (lv_at hl 1 rfl) ?_
      refine lv_bipush (v := 97) hx hb d_Reader_readFactor_127 (by decide) ?_
      refine lv_isub hx hb d_Reader_readFactor_129 ?_
      obtain ⟨o_31, o_32, hG30, h⟩ := bind2_some h
      refine bw_call (Lc := [wText ct a1 (a2 0) o1, wSteps ct a2 o2]) (Lc' := [wText ct a1 (a2 0) o_31, wSteps ct a2 o_32]) (L' := [wReader ct a0 (a1 0) o0, wText ct a1 (a2 0) o_31, wSteps ct a2 o_32]) [1, 2] (va_runV (As := [.int (x1 - (97 : Int32))]) (rest := []) ⟨hx, hb, hml, hown, hts⟩ (c_Text_mentionOption l ct dC dI a1 a2 _ (x1 - (97 : Int32)) o1 o2 o_31 o_32 hG30) (cwV 1 hts g_Reader_147 rfl rfl rfl (by decide +kernel) ⟨Nat.le_of_ble_eq_true rfl, Nat.le_of_ble_eq_true rfl⟩) ⟨bw_blind nx_call, va_recv hK (hP 1 _ rfl) (ci := 2) (q0 := 0) rfl rfl, fun U hU hW => ⟨rfl, by rw [hU], by rw [hU]; exact hP.sub [1, 2] rfl, va_K.moved hW.alike hK, (hN.sub [1, 2] (by decide) rfl).weaken (fun _ _ => trivial), nx_warm hW hnx⟩⟩ rfl rfl hl.1 rfl (Nat.le_of_ble_eq_true rfl) d_Reader_readFactor_130 ⟨Nat.le_of_ble_eq_true rfl, Nat.le_of_ble_eq_true rfl⟩) hP hN hS hA rfl rfl rfl (fun H locs hP hS => ?_)
      refine lv_aload_n hx hb d_Reader_readFactor_133 rfl (lv_at hl 0 rfl) ?_
      refine lv_dup hx hb d_Reader_readFactor_134 rfl ?_
      refine va_get (D := (dC, dI)) (ci := 3) (v := .int (g32 o0 3 0)) (C := R_Reader) (T := T_Reader) (N := 12) hx hb hts in_Reader hown hK (hP 0 _ rfl) 0 rfl rfl 3 (by decide) (hts _ fl_Reader_23) (fun _ h9 => h9) rfl d_Reader_readFactor_135 ?_
      refine lv_iconst (v := 1) hx hb d_Reader_readFactor_138 (by decide) ?_
      refine lv_iadd hx hb d_Reader_readFactor_139 ?_
      refine pt_Reader_3 hx hb hts hown hK hP hN hS 0 rfl (hts _ fl_Reader_23) d_Reader_readFactor_140 (fun H locs hP hS => ?_)
      have hP : bw_P (dC, dI) vwCl [wReader ct a0 (a1 0) (s32 o0 3 0 ((g32 o0 3 0) + (1 : Int32))), wText ct a1 (a2 0) o_31, wSteps ct a2 o_32] H := hP
      refine lv_goto (tgt := 166) hx hb d_Reader_readFactor_143 (by decide) ?_
      refine lv_aload_n hx hb d_Reader_readFactor_166 rfl (lv_at hl 0 rfl) ?_
      obtain ⟨o_34, o_35, hG33, h⟩ := bind2_some h
      refine bw_call (Lc := [wReader ct a0 (a1 0) (s32 o0 3 0 ((g32 o0 3 0) + (1 : Int32))), wText ct a1 (a2 0) o_31, wSteps ct a2 o_32]) (Lc' := [wReader ct a0 (a1 0) o_34, wText ct a1 (a2 0) o_31, wSteps ct a2 o_35]) (L' := [wReader ct a0 (a1 0) o_34, wText ct a1 (a2 0) o_31, wSteps ct a2 o_35]) [0, 1, 2] (va_runV (As := []) (rest := []) ⟨hx, hb, hml, hown, hts⟩ (c_Reader_releaseNegations l ct dC dI a0 a1 a2 _ (s32 o0 3 0 ((g32 o0 3 0) + (1 : Int32))) o_31 o_32 o_34 o_35 hG33) (cwV 0 hts g_Reader_153 rfl rfl rfl (by decide +kernel) ⟨Nat.le_of_ble_eq_true rfl, Nat.le_of_ble_eq_true rfl⟩) ⟨bw_blind nx_call, va_recv hK (hP 0 _ rfl) (ci := 3) (q0 := 0) rfl rfl, fun U hU hW => ⟨rfl, by rw [hU], by rw [hU]; exact hP.sub [0, 1, 2] rfl, va_K.moved hW.alike hK, (hN.sub [0, 1, 2] (by decide) rfl).weaken (fun _ _ => trivial), nx_warm hW hnx⟩⟩ rfl rfl hl.1 rfl (Nat.le_of_ble_eq_true rfl) d_Reader_readFactor_167 ⟨Nat.le_of_ble_eq_true rfl, Nat.le_of_ble_eq_true rfl⟩) hP hN hS hA rfl rfl rfl (fun H locs hP hS => ?_)
      refine lv_iconst (v := 1) hx hb d_Reader_readFactor_170 (by decide) ?_
      obtain ⟨rfl, rfl, rfl, rfl⟩ := res4 h
      exact W.zret hx hb hr rfl (fun t ht hW => ⟨rfl, by rw [ht]; exact hP, hS.F ht⟩) hS.2.2 d_Reader_readFactor_171
set_option maxHeartbeats 4000000 in
set_option maxRecDepth 100000 in
theorem k_Reader_readFactor_71 {p : Program} {l : Launch} {e : Env} {s : State} {m : MethodId} {args : Array Value} {below : List Frame} {meth : Method} {c : Code} {A : Nat → Prop} {ct dC : Nat → ClassId} {dI : Nat → Nat → Nat} {a0 a1 a2 : Nat → Nat}  {r : Bool} {n0 n1 n2 : Ob}   (C0 : cx wsAll vwCl (nxs A) p s m args meth c (dC, dI) (tyA ct) b_Reader_readFactor 3 (some .boolean) R_Reader A [adReader a0, adText a1, adSteps a2])  : ∀  (o0 o1 o2 : Ob) (H : Heap) (locs : List Loc) (ls : Array Slot), bw_P (dC, dI) vwCl [wReader ct a0 (a1 0) o0, wText ct a1 (a2 0) o1, wSteps ct a2 o2] H → va_S A s.heap H locs → lv_has ls 3 [(0, .ref (a0 0))] → F_Reader_readFactor_71 o0 o1 o2 = some (r, n0, n1, n2) → W p l e (headSpec ws_Reader_readFactor rm_Reader_readFactor).room s m args below meth c H locs 0 0 (MQ below (bw_Q (dC, dI) vwCl (some (.int (b2i r))) [wReader ct a0 (a1 0) n0, wText ct a1 (a2 0) n1, wSteps ct a2 n2] A) args s 0 0 A) (F0 m 71 ls []) := by
  obtain ⟨hx, hb, hr, hml, hown, hlocks, hts, hK, hN, hA, hnx, hsx⟩ := id C0
  intro o0 o1 o2 H locs ls hP hS hl h
  rw [F_Reader_readFactor_71] at h
  refine lv_aload_n hx hb d_Reader_readFactor_71 rfl (lv_at hl 0 rfl) ?_
  refine va_get (D := (dC, dI)) (ci := 3) (v := .ref (a0 6)) (C := R_Reader) (T := T_Reader) (N := 12) hx hb hts in_Reader hown hK (hP 0 _ rfl) 0 rfl rfl 9 (by decide) (hts _ fl_Reader_46) (fun _ h9 => h9) rfl d_Reader_readFactor_72 ?_
  refine lv_aload_n hx hb d_Reader_readFactor_75 rfl (lv_at hl 0 rfl) ?_
  refine va_get (D := (dC, dI)) (ci := 3) (v := .int (g32 o0 10 0)) (C := R_Reader) (T := T_Reader) (N := 12) hx hb hts in_Reader hown hK (hP 0 _ rfl) 0 rfl rfl 10 (by decide) (hts _ fl_Reader_49) (fun _ h9 => h9) rfl d_Reader_readFactor_76 ?_
  refine lv_iconst (v := 0) hx hb d_Reader_readFactor_79 (by decide) ?_
  obtain ⟨hi8, h⟩ := chk_some h
  refine st_Reader_9 hx hb hK hP hN hS 0 rfl (inb_in hi8) d_Reader_readFactor_80 (fun H locs hP hS => ?_)
  have hP : bw_P (dC, dI) vwCl [wReader ct a0 (a1 0) (s32 o0 9 (Int32.toNatClampNeg (g32 o0 10 0)) (0 : Int32)), wText ct a1 (a2 0) o1, wSteps ct a2 o2] H := hP
  refine lv_aload_n hx hb d_Reader_readFactor_81 rfl (lv_at hl 0 rfl) ?_
  obtain ⟨v10, hG9, h⟩ := bind1_some h
  refine bw_callR (va_runV (As := []) (rest := []) ⟨hx, hb, hml, hown, hts⟩ (c_Reader_next l ct dC dI a0 (a1 0) _ (s32 o0 9 (Int32.toNatClampNeg (g32 o0 10 0)) (0 : Int32)) v10 hG9) (cwV 0 hts g_Reader_78 rfl rfl rfl (by decide +kernel) ⟨Nat.le_of_ble_eq_true rfl, Nat.le_of_ble_eq_true rfl⟩) ⟨bw_blind nx_call, va_recv hK (hP 0 _ rfl) (ci := 3) (q0 := 0) rfl rfl, fun U hU hW => ⟨rfl, by rw [hU], by rw [hU]; exact hP.sub [0] rfl, va_K.moved hW.alike hK, (hN.sub [0] (by decide) rfl).weaken (fun _ _ => trivial), nx_warm hW hnx⟩⟩ rfl rfl hl.1 rfl (Nat.le_of_ble_eq_true rfl) d_Reader_readFactor_82 ⟨Nat.le_of_ble_eq_true rfl, Nat.le_of_ble_eq_true rfl⟩) ?_
  refine lv_istore_n (lv' := [(1, .int v10), (0, .ref (a0 0))]) hx hb d_Reader_readFactor_85 rfl hl (by decide) rfl (fun ls hl => ?_)
  refine lv_iload_n hx hb d_Reader_readFactor_86 rfl (lv_at hl 0 rfl) ?_
  refine lv_bipush (v := 48) hx hb d_Reader_readFactor_87 (by decide) ?_
  refine lv_icmp_lt (tgt := 107) hx hb d_Reader_readFactor_89 (by decide) (fun c11 => ?_) (fun c11 => ?_)
  · have h := ite_t c11 h
    exact k_Reader_readFactor_107 C0 v10 (s32 o0 9 (Int32.toNatClampNeg (g32 o0 10 0)) (0 : Int32)) o1 o2 _ _ _ hP hS (lv_sub hl [1, 0] rfl) h
  · have h := ite_f c11 h
    refine lv_iload_n hx hb d_Reader_readFactor_92 rfl (lv_at hl 0 rfl) ?_
    refine lv_bipush (v := 57) hx hb d_Reader_readFactor_93 (by decide) ?_
    refine lv_icmp_gt (tgt := 107) hx hb d_Reader_readFactor_95 (by decide) (fun c12 => ?_) (fun c12 => ?_)
    · have h := ite_t c12 h
      exact k_Reader_readFactor_107 C0 v10 (s32 o0 9 (Int32.toNatClampNeg (g32 o0 10 0)) (0 : Int32)) o1 o2 _ _ _ hP hS (lv_sub hl [1, 0] rfl) h
    · have h := ite_f c12 h
      refine lv_aload_n hx hb d_Reader_readFactor_98 rfl (lv_at hl 1 rfl) ?_
      obtain ⟨v14, o_15, o_16, hG13, h⟩ := bind3_some h
      refine bw_call (Lc := [wReader ct a0 (a1 0) (s32 o0 9 (Int32.toNatClampNeg (g32 o0 10 0)) (0 : Int32)), wText ct a1 (a2 0) o1, wSteps ct a2 o2]) (Lc' := [wReader ct a0 (a1 0) o_15, wText ct a1 (a2 0) o1, wSteps ct a2 o_16]) (L' := [wReader ct a0 (a1 0) o_15, wText ct a1 (a2 0) o1, wSteps ct a2 o_16]) [0, 1, 2] (va_runV (As := []) (rest := []) ⟨hx, hb, hml, hown, hts⟩ (c_Reader_readNumber l ct dC dI a0 a1 a2 _ (s32 o0 9 (Int32.toNatClampNeg (g32 o0 10 0)) (0 : Int32)) o1 o2 v14 o_15 o_16 hG13) (cwV 0 hts g_Reader_144 rfl rfl rfl (by decide +kernel) ⟨Nat.le_of_ble_eq_true rfl, Nat.le_of_ble_eq_true rfl⟩) ⟨bw_blind nx_call, va_recv hK (hP 0 _ rfl) (ci := 3) (q0 := 0) rfl rfl, fun U hU hW => ⟨rfl, by rw [hU], by rw [hU]; exact hP.sub [0, 1, 2] rfl, va_K.moved hW.alike hK, (hN.sub [0, 1, 2] (by decide) rfl).weaken (fun _ _ => trivial), nx_warm hW hnx⟩⟩ rfl rfl hl.1 rfl (Nat.le_of_ble_eq_true rfl) d_Reader_readFactor_99 ⟨Nat.le_of_ble_eq_true rfl, Nat.le_of_ble_eq_true rfl⟩) hP hN hS hA rfl rfl rfl (fun H locs hP hS => ?_)
      refine lv_if_ne (tgt := 166) hx hb d_Reader_readFactor_102 (by decide) (fun c17 => ?_) (fun c17 => ?_)
      · have h := ite_f c17 h
        refine lv_aload_n hx hb d_Reader_readFactor_166 rfl (lv_at hl 1 rfl) ?_
        obtain ⟨o_19, o_20, hG18, h⟩ := bind2_some h
        refine bw_call (Lc := [wReader ct a0 (a1 0) o_15, wText ct a1 (a2 0) o1, wSteps ct a2 o_16]) (Lc' := [wReader ct a0 (a1 0) o_19, wText ct a1 (a2 0) o1, wSteps ct a2 o_20]) (L' := [wReader ct a0 (a1 0) o_19, wText ct a1 (a2 0) o1, wSteps ct a2 o_20]) [0, 1, 2] (va_runV (As := []) (rest := []) ⟨hx, hb, hml, hown, hts⟩ (c_Reader_releaseNegations l ct dC dI a0 a1 a2 _ o_15 o1 o_16 o_19 o_20 hG18) (cwV 0 hts g_Reader_153 rfl rfl rfl (by decide +kernel) ⟨Nat.le_of_ble_eq_true rfl, Nat.le_of_ble_eq_true rfl⟩) ⟨bw_blind nx_call, va_recv hK (hP 0 _ rfl) (ci := 3) (q0 := 0) rfl rfl, fun U hU hW => ⟨rfl, by rw [hU], by rw [hU]; exact hP.sub [0, 1, 2] rfl, va_K.moved hW.alike hK, (hN.sub [0, 1, 2] (by decide) rfl).weaken (fun _ _ => trivial), nx_warm hW hnx⟩⟩ rfl rfl hl.1 rfl (Nat.le_of_ble_eq_true rfl) d_Reader_readFactor_167 ⟨Nat.le_of_ble_eq_true rfl, Nat.le_of_ble_eq_true rfl⟩) hP hN hS hA rfl rfl rfl (fun H locs hP hS => ?_)
        refine lv_iconst (v := 1) hx hb d_Reader_readFactor_170 (by decide) ?_
        obtain ⟨rfl, rfl, rfl, rfl⟩ := res4 h
        exact W.zret hx hb hr rfl (fun t ht hW => ⟨rfl, by rw [ht]; exact hP, hS.F ht⟩) hS.2.2 d_Reader_readFactor_171
      · have h := ite_t c17 h
        refine lv_iconst (v := 0) hx hb d_Reader_readFactor_105 (by decide) ?_
        obtain ⟨rfl, rfl, rfl, rfl⟩ := res4 h
        exact W.zret hx hb hr rfl (fun t ht hW => ⟨rfl, by rw [ht]; exact hP, hS.F ht⟩) hS.2.2 d_Reader_readFactor_106
set_option maxHeartbeats 4000000 in
set_option maxRecDepth 100000 in
theorem k_Reader_readFactor_27 {p : Program} {l : Launch} {e : Env} {s : State} {m : MethodId} {args : Array Value} {below : List Frame} {meth : Method} {c : Code} {A : Nat → Prop} {ct dC : Nat → ClassId} {dI : Nat → Nat → Nat} {a0 a1 a2 : Nat → Nat}  {r : Bool} {n0 n1 n2 : Ob}  {k0 : Ob → Ob → Ob → Option (Bool × Ob × Ob × Ob)} (C0 : cx wsAll vwCl (nxs A) p s m args meth c (dC, dI) (tyA ct) b_Reader_readFactor 3 (some .boolean) R_Reader A [adReader a0, adText a1, adSteps a2]) (hk0 : ∀  (o0 o1 o2 : Ob) (H : Heap) (locs : List Loc) (ls : Array Slot), bw_P (dC, dI) vwCl [wReader ct a0 (a1 0) o0, wText ct a1 (a2 0) o1, wSteps ct a2 o2] H → va_S A s.heap H locs → lv_has ls 3 [(0, .ref (a0 0))] → k0 o0 o1 o2 = some (r, n0, n1, n2) → W p l e (headSpec ws_Reader_readFactor rm_Reader_readFactor).room s m args below meth c H locs 0 0 (MQ below (bw_Q (dC, dI) vwCl (some (.int (b2i r))) [wReader ct a0 (a1 0) n0, wText ct a1 (a2 0) n1, wSteps ct a2 n2] A) args s 0 0 A) (F0 m 0 ls [])) : ∀  (o0 o1 o2 : Ob) (H : Heap) (locs : List Loc) (ls : Array Slot), bw_P (dC, dI) vwCl [wReader ct a0 (a1 0) o0, wText ct a1 (a2 0) o1, wSteps ct a2 o2] H → va_S A s.heap H locs → lv_has ls 3 [(0, .ref (a0 0))] → F_Reader_readFactor_27 k0 o0 o1 o2 = some (r, n0, n1, n2) → W p l e (headSpec ws_Reader_readFactor rm_Reader_readFactor).room s m args below meth c H locs 0 0 (MQ below (bw_Q (dC, dI) vwCl (some (.int (b2i r))) [wReader ct a0 (a1 0) n0, wText ct a1 (a2 0) n1, wSteps ct a2 n2] A) args s 0 0 A) (F0 m 27 ls []) := by
  obtain ⟨hx, hb, hr, hml, hown, hlocks, hts, hK, hN, hA, hnx, hsx⟩ := id C0
  intro o0 o1 o2 H locs ls hP hS hl h
  rw [F_Reader_readFactor_27] at h
  refine lv_aload_n hx hb d_Reader_readFactor_27 rfl (lv_at hl 0 rfl) ?_
  obtain ⟨v22, hG21, h⟩ := bind1_some h
  refine bw_callR (va_runV (As := []) (rest := []) ⟨hx, hb, hml, hown, hts⟩ (c_Reader_next l ct dC dI a0 (a1 0) _ o0 v22 hG21) (cwV 0 hts g_Reader_78 rfl rfl rfl (by decide +kernel) ⟨Nat.le_of_ble_eq_true rfl, Nat.le_of_ble_eq_true rfl⟩) ⟨bw_blind nx_call, va_recv hK (hP 0 _ rfl) (ci := 3) (q0 := 0) rfl rfl, fun U hU hW => ⟨rfl, by rw [hU], by rw [hU]; exact hP.sub [0] rfl, va_K.moved hW.alike hK, (hN.sub [0] (by decide) rfl).weaken (fun _ _ => trivial), nx_warm hW hnx⟩⟩ rfl rfl hl.1 rfl (Nat.le_of_ble_eq_true rfl) d_Reader_readFactor_28 ⟨Nat.le_of_ble_eq_true rfl, Nat.le_of_ble_eq_true rfl⟩) ?_
  refine lv_bipush (v := 45) hx hb d_Reader_readFactor_31 (by decide) ?_
  refine lv_icmp_ne (tgt := 44) hx hb d_Reader_readFactor_33 (by decide) (fun c23 => ?_) (fun c23 => ?_)
  · have h := ite_f c23 h
    refine lv_aload_n hx hb d_Reader_readFactor_44 rfl (lv_at hl 0 rfl) ?_
    obtain ⟨o_25, hG24, h⟩ := bind1_some h
    refine bw_call (Lc := [wReader ct a0 (a1 0) o0]) (Lc' := [wReader ct a0 (a1 0) o_25]) (L' := [wReader ct a0 (a1 0) o_25, wText ct a1 (a2 0) o1, wSteps ct a2 o2]) [0] (va_runV (As := []) (rest := []) ⟨hx, hb, hml, hown, hts⟩ (c_Reader_openGroup l ct dC dI a0 (a1 0) _ o0 o_25 hG24) (cwV 0 hts g_Reader_141 rfl rfl rfl (by decide +kernel) ⟨Nat.le_of_ble_eq_true rfl, Nat.le_of_ble_eq_true rfl⟩) ⟨bw_blind nx_call, va_recv hK (hP 0 _ rfl) (ci := 3) (q0 := 0) rfl rfl, fun U hU hW => ⟨rfl, by rw [hU], by rw [hU]; exact hP.sub [0] rfl, va_K.moved hW.alike hK, (hN.sub [0] (by decide) rfl).weaken (fun _ _ => trivial), nx_warm hW hnx⟩⟩ rfl rfl hl.1 rfl (Nat.le_of_ble_eq_true rfl) d_Reader_readFactor_45 ⟨Nat.le_of_ble_eq_true rfl, Nat.le_of_ble_eq_true rfl⟩) hP hN hS hA rfl rfl rfl (fun H locs hP hS => ?_)
    refine lv_aload_n hx hb d_Reader_readFactor_48 rfl (lv_at hl 0 rfl) ?_
    refine lv_dup hx hb d_Reader_readFactor_49 rfl ?_
    refine va_get (D := (dC, dI)) (ci := 3) (v := .int (g32 o_25 3 0)) (C := R_Reader) (T := T_Reader) (N := 12) hx hb hts in_Reader hown hK (hP 0 _ rfl) 0 rfl rfl 3 (by decide) (hts _ fl_Reader_23) (fun _ h9 => h9) rfl d_Reader_readFactor_50 ?_
    refine lv_iconst (v := 1) hx hb d_Reader_readFactor_53 (by decide) ?_
    refine lv_iadd hx hb d_Reader_readFactor_54 ?_
    refine pt_Reader_3 hx hb hts hown hK hP hN hS 0 rfl (hts _ fl_Reader_23) d_Reader_readFactor_55 (fun H locs hP hS => ?_)
    have hP : bw_P (dC, dI) vwCl [wReader ct a0 (a1 0) (s32 o_25 3 0 ((g32 o_25 3 0) + (1 : Int32))), wText ct a1 (a2 0) o1, wSteps ct a2 o2] H := hP
    refine lv_aload_n hx hb d_Reader_readFactor_58 rfl (lv_at hl 0 rfl) ?_
    refine lv_dup hx hb d_Reader_readFactor_59 rfl ?_
    refine va_get (D := (dC, dI)) (ci := 3) (v := .int (g32 o_25 11 0)) (C := R_Reader) (T := T_Reader) (N := 12) hx hb hts in_Reader hown hK (hP 0 _ rfl) 0 rfl rfl 11 (by decide) (hts _ fl_Reader_52) (fun _ h9 => h9) rfl d_Reader_readFactor_60 ?_
    refine lv_iconst (v := 1) hx hb d_Reader_readFactor_63 (by decide) ?_
    refine lv_iadd hx hb d_Reader_readFactor_64 ?_
    refine pt_Reader_11 hx hb hts hown hK hP hN hS 0 rfl (hts _ fl_Reader_52) d_Reader_readFactor_65 (fun H locs hP hS => ?_)
    have hP : bw_P (dC, dI) vwCl [wReader ct a0 (a1 0) (s32 (s32 o_25 3 0 ((g32 o_25 3 0) + (1 : Int32))) 11 0 ((g32 o_25 11 0) + (1 : Int32))), wText ct a1 (a2 0) o1, wSteps ct a2 o2] H := hP
    refine lv_goto (tgt := 0) hx hb d_Reader_readFactor_68 (by decide) ?_
    exact hk0 (s32 (s32 o_25 3 0 ((g32 o_25 3 0) + (1 : Int32))) 11 0 ((g32 o_25 11 0) + (1 : Int32))) o1 o2 _ _ _ hP hS (lv_sub hl [0] rfl) h
  · have h := ite_t c23 h
    refine lv_aload_n hx hb d_Reader_readFactor_36 rfl (lv_at hl 0 rfl) ?_
    refine lv_iconst (v := 4) hx hb d_Reader_readFactor_37 (by decide) ?_
    obtain ⟨o_27, hG26, h⟩ := bind1_some h
    refine bw_call (Lc := [wReader ct a0 (a1 0) o0]) (Lc' := [wReader ct a0 (a1 0) o_27]) (L' := [wReader ct a0 (a1 0) o_27, wText ct a1 (a2 0) o1, wSteps ct a2 o2]) [0] (va_runV (As := [.int (4 : Int32)]) (rest := []) ⟨hx, hb, hml, hown, hts⟩ (c_Reader_hold l ct dC dI a0 (a1 0) _ (4 : Int32) o0 o_27 hG26) (cwV 1 hts g_Reader_138 rfl rfl rfl (by decide +kernel) ⟨Nat.le_of_ble_eq_true rfl, Nat.le_of_ble_eq_true rfl⟩) ⟨bw_blind nx_call, va_recv hK (hP 0 _ rfl) (ci := 3) (q0 := 0) rfl rfl, fun U hU hW => ⟨rfl, by rw [hU], by rw [hU]; exact hP.sub [0] rfl, va_K.moved hW.alike hK, (hN.sub [0] (by decide) rfl).weaken (fun _ _ => trivial), nx_warm hW hnx⟩⟩ rfl rfl hl.1 rfl (Nat.le_of_ble_eq_true rfl) d_Reader_readFactor_38 ⟨Nat.le_of_ble_eq_true rfl, Nat.le_of_ble_eq_true rfl⟩) hP hN hS hA rfl rfl rfl (fun H locs hP hS => ?_)
    refine lv_goto (tgt := 48) hx hb d_Reader_readFactor_41 (by decide) ?_
    refine lv_aload_n hx hb d_Reader_readFactor_48 rfl (lv_at hl 0 rfl) ?_
    refine lv_dup hx hb d_Reader_readFactor_49 rfl ?_
    refine va_get (D := (dC, dI)) (ci := 3) (v := .int (g32 o_27 3 0)) (C := R_Reader) (T := T_Reader) (N := 12) hx hb hts in_Reader hown hK (hP 0 _ rfl) 0 rfl rfl 3 (by decide) (hts _ fl_Reader_23) (fun _ h9 => h9) rfl d_Reader_readFactor_50 ?_
    refine lv_iconst (v := 1) hx hb d_Reader_readFactor_53 (by decide) ?_
    refine lv_iadd hx hb d_Reader_readFactor_54 ?_
    refine pt_Reader_3 hx hb hts hown hK hP hN hS 0 rfl (hts _ fl_Reader_23) d_Reader_readFactor_55 (fun H locs hP hS => ?_)
    have hP : bw_P (dC, dI) vwCl [wReader ct a0 (a1 0) (s32 o_27 3 0 ((g32 o_27 3 0) + (1 : Int32))), wText ct a1 (a2 0) o1, wSteps ct a2 o2] H := hP
    refine lv_aload_n hx hb d_Reader_readFactor_58 rfl (lv_at hl 0 rfl) ?_
    refine lv_dup hx hb d_Reader_readFactor_59 rfl ?_
    refine va_get (D := (dC, dI)) (ci := 3) (v := .int (g32 o_27 11 0)) (C := R_Reader) (T := T_Reader) (N := 12) hx hb hts in_Reader hown hK (hP 0 _ rfl) 0 rfl rfl 11 (by decide) (hts _ fl_Reader_52) (fun _ h9 => h9) rfl d_Reader_readFactor_60 ?_
    refine lv_iconst (v := 1) hx hb d_Reader_readFactor_63 (by decide) ?_
    refine lv_iadd hx hb d_Reader_readFactor_64 ?_
    refine pt_Reader_11 hx hb hts hown hK hP hN hS 0 rfl (hts _ fl_Reader_52) d_Reader_readFactor_65 (fun H locs hP hS => ?_)
    have hP : bw_P (dC, dI) vwCl [wReader ct a0 (a1 0) (s32 (s32 o_27 3 0 ((g32 o_27 3 0) + (1 : Int32))) 11 0 ((g32 o_27 11 0) + (1 : Int32))), wText ct a1 (a2 0) o1, wSteps ct a2 o2] H := hP
    refine lv_goto (tgt := 0) hx hb d_Reader_readFactor_68 (by decide) ?_
    exact hk0 (s32 (s32 o_27 3 0 ((g32 o_27 3 0) + (1 : Int32))) 11 0 ((g32 o_27 11 0) + (1 : Int32))) o1 o2 _ _ _ hP hS (lv_sub hl [0] rfl) h
set_option maxHeartbeats 4000000 in
set_option maxRecDepth 100000 in
theorem k_Reader_readFactor_0 {p : Program} {l : Launch} {e : Env} {s : State} {m : MethodId} {args : Array Value} {below : List Frame} {meth : Method} {c : Code} {A : Nat → Prop} {ct dC : Nat → ClassId} {dI : Nat → Nat → Nat} {a0 a1 a2 : Nat → Nat}  {r : Bool} {n0 n1 n2 : Ob}   (C0 : cx wsAll vwCl (nxs A) p s m args meth c (dC, dI) (tyA ct) b_Reader_readFactor 3 (some .boolean) R_Reader A [adReader a0, adText a1, adSteps a2])  : ∀ (n : Nat)  (o0 o1 o2 : Ob) (H : Heap) (locs : List Loc) (ls : Array Slot), bw_P (dC, dI) vwCl [wReader ct a0 (a1 0) o0, wText ct a1 (a2 0) o1, wSteps ct a2 o2] H → va_S A s.heap H locs → lv_has ls 3 [(0, .ref (a0 0))] → F_Reader_readFactor_0 n o0 o1 o2 = some (r, n0, n1, n2) → W p l e (headSpec ws_Reader_readFactor rm_Reader_readFactor).room s m args below meth c H locs 0 0 (MQ below (bw_Q (dC, dI) vwCl (some (.int (b2i r))) [wReader ct a0 (a1 0) n0, wText ct a1 (a2 0) n1, wSteps ct a2 n2] A) args s 0 0 A) (F0 m 0 ls []) := by
  obtain ⟨hx, hb, hr, hml, hown, hlocks, hts, hK, hN, hA, hnx, hsx⟩ := id C0
  intro n
  induction n with
  | zero =>
    intro o0 o1 o2 H locs ls hP hS hl h
    cases h
  | succ n ih =>
    intro o0 o1 o2 H locs ls hP hS hl h
    rw [F_Reader_readFactor_0] at h
    refine lv_aload_n hx hb d_Reader_readFactor_0 rfl (lv_at hl 0 rfl) ?_
    refine va_get (D := (dC, dI)) (ci := 3) (v := .int (g32 o0 11 0)) (C := R_Reader) (T := T_Reader) (N := 12) hx hb hts in_Reader hown hK (hP 0 _ rfl) 0 rfl rfl 11 (by decide) (hts _ fl_Reader_52) (fun _ h9 => h9) rfl d_Reader_readFactor_1 ?_
    refine lv_bipush (v := 8) hx hb d_Reader_readFactor_4 (by decide) ?_
    refine lv_icmp_ge (tgt := 71) hx hb d_Reader_readFactor_6 (by decide) (fun c1 => ?_) (fun c1 => ?_)
    · have h := ite_t c1 h
      exact k_Reader_readFactor_71 C0 o0 o1 o2 _ _ _ hP hS (lv_sub hl [0] rfl) h
    · have h := ite_f c1 h
      refine lv_aload_n hx hb d_Reader_readFactor_9 rfl (lv_at hl 0 rfl) ?_
      obtain ⟨v3, hG2, h⟩ := bind1_some h
      refine bw_callR (va_runV (As := []) (rest := []) ⟨hx, hb, hml, hown, hts⟩ (c_Reader_next l ct dC dI a0 (a1 0) _ o0 v3 hG2) (cwV 0 hts g_Reader_78 rfl rfl rfl (by decide +kernel) ⟨Nat.le_of_ble_eq_true rfl, Nat.le_of_ble_eq_true rfl⟩) ⟨bw_blind nx_call, va_recv hK (hP 0 _ rfl) (ci := 3) (q0 := 0) rfl rfl, fun U hU hW => ⟨rfl, by rw [hU], by rw [hU]; exact hP.sub [0] rfl, va_K.moved hW.alike hK, (hN.sub [0] (by decide) rfl).weaken (fun _ _ => trivial), nx_warm hW hnx⟩⟩ rfl rfl hl.1 rfl (Nat.le_of_ble_eq_true rfl) d_Reader_readFactor_10 ⟨Nat.le_of_ble_eq_true rfl, Nat.le_of_ble_eq_true rfl⟩) ?_
      refine lv_bipush (v := 45) hx hb d_Reader_readFactor_13 (by decide) ?_
      refine lv_icmp_eq (tgt := 27) hx hb d_Reader_readFactor_15 (by decide) (fun c4 => ?_) (fun c4 => ?_)
      · have h := ite_t c4 h
        exact k_Reader_readFactor_27 C0 ih o0 o1 o2 _ _ _ hP hS (lv_sub hl [0] rfl) h
      · have h := ite_f c4 h
        refine lv_aload_n hx hb d_Reader_readFactor_18 rfl (lv_at hl 0 rfl) ?_
        obtain ⟨v6, hG5, h⟩ := bind1_some h
        refine bw_callR (va_runV (As := []) (rest := []) ⟨hx, hb, hml, hown, hts⟩ (c_Reader_next l ct dC dI a0 (a1 0) _ o0 v6 hG5) (cwV 0 hts g_Reader_78 rfl rfl rfl (by decide +kernel) ⟨Nat.le_of_ble_eq_true rfl, Nat.le_of_ble_eq_true rfl⟩) ⟨bw_blind nx_call, va_recv hK (hP 0 _ rfl) (ci := 3) (q0 := 0) rfl rfl, fun U hU hW => ⟨rfl, by rw [hU], by rw [hU]; exact hP.sub [0] rfl, va_K.moved hW.alike hK, (hN.sub [0] (by decide) rfl).weaken (fun _ _ => trivial), nx_warm hW hnx⟩⟩ rfl rfl hl.1 rfl (Nat.le_of_ble_eq_true rfl) d_Reader_readFactor_19 ⟨Nat.le_of_ble_eq_true rfl, Nat.le_of_ble_eq_true rfl⟩) ?_
        refine lv_bipush (v := 40) hx hb d_Reader_readFactor_22 (by decide) ?_
        refine lv_icmp_ne (tgt := 71) hx hb d_Reader_readFactor_24 (by decide) (fun c7 => ?_) (fun c7 => ?_)
        · have h := ite_f c7 h
          exact k_Reader_readFactor_71 C0 o0 o1 o2 _ _ _ hP hS (lv_sub hl [0] rfl) h
        · have h := ite_t c7 h
          exact k_Reader_readFactor_27 C0 ih o0 o1 o2 _ _ _ hP hS (lv_sub hl [0] rfl) h
set_option maxHeartbeats 4000000 in
set_option maxRecDepth 100000 in
theorem c_Reader_readFactor (l : Launch) (ct dC : Nat → ClassId) (dI : Nat → Nat → Nat) (a0 a1 a2 : Nat → Nat)  (sz : Nat)  (o0 o1 o2 : Ob) (r : Bool) (n0 n1 n2 : Ob) (hF : F_Reader_readFactor o0 o1 o2 = some (r, n0, n1, n2)) : Met l y_Reader_readFactor ws_Reader_readFactor rm_Reader_readFactor (bw_Pc [.ref (a0 0)] (dC, dI) vwCl (tyA ct) [wReader ct a0 (a1 0) o0, wText ct a1 (a2 0) o1, wSteps ct a2 o2] sz (nxs (bw_A [adReader a0, adText a1, adSteps a2] sz))) (bw_Q (dC, dI) vwCl (some (.int (b2i r))) [wReader ct a0 (a1 0) n0, wText ct a1 (a2 0) n1, wSteps ct a2 n2] (bw_A [adReader a0, adText a1, adSteps a2] sz)) 0 0 (bw_A [adReader a0, adText a1, adSteps a2] sz) := by
  refine Met.ofW (cc := b_Reader_readFactor) (maxL := 3) (ret := (some .boolean)) (by decide) rfl ?_
  intro p e s m args below meth c s₁ B hml hv
  obtain ⟨rfl, hsz, hP, hK, hN0, hnx, hsx⟩ := hv
  have hx := B.exec
  have hb := B.bytes
  have hr := B.returns
  have hts : ∀ w ∈ wsAll, w.before [.ref (a0 0)].toArray s = true := fun w h9 => atoms_spec (ws := ws_Reader_readFactor) B.pre w (List.mem_cons_of_mem _ h9)
  have hown : s.vm.findClass R_Reader = some m.cls := findClass_of_methodNamed B.named
  have hlocks := B.notSynchronized
  subst hsz
  have hN : bw_N (bw_A [adReader a0, adText a1, adSteps a2] s.heap.size) [adReader a0, adText a1, adSteps a2] := hN0.self s.heap.size
  generalize hAe : bw_A [adReader a0, adText a1, adSteps a2] s.heap.size = A at hsx hN ⊢
  have hA : ∀ q : Nat, s.heap.size ≤ q → A q := fun q h => by rw [← hAe]; exact Or.inr h
  have hS : va_S A s.heap s.heap [] := va_S.rf
  have hl := lv_entry ([.ref (a0 0)]) (n := 3) (Nat.le_of_ble_eq_true rfl)
  rw [lg_entry_eq]
  generalize (lg_sl ([.ref (a0 0)]) ++ List.replicate (3 - (lg_sl ([.ref (a0 0)])).length) Slot.unset).toArray = ls at hl ⊢
  have hl : lv_has ls 3 [(0, .ref (a0 0))] := hl
  have C0 : cx wsAll vwCl (nxs A) p s m [.ref (a0 0)].toArray meth c (dC, dI) (tyA ct) b_Reader_readFactor 3 (some .boolean) R_Reader A [adReader a0, adText a1, adSteps a2] := ⟨hx, hb, hr, hml, hown, hlocks, hts, hK, hN, hA, hnx, hsx⟩
  have h := hF
  rw [F_Reader_readFactor] at h
  exact k_Reader_readFactor_0 C0 fuel o0 o1 o2 _ _ _ hP hS (lv_sub hl [0] rfl) h
theorem g_Reader_116 : GoodIn wsAll (wsV R_Reader 116 R_Reader y_Reader_readFactor ws_Reader_readFactor) := gd_V ml_Reader_116 im_Reader_readFactor se_Reader_readFactor ini_Reader cd_Reader_readFactor
theorem g_Reader_119 : GoodIn wsAll (wsV R_Reader 119 R_Reader y_Reader_closeGroups ws_Reader_closeGroups) := gd_V ml_Reader_119 im_Reader_closeGroups se_Reader_closeGroups ini_Reader cd_Reader_closeGroups
theorem g_Reader_122 : GoodIn wsAll (wsV R_Reader 122 R_Reader y_Reader_readOperator ws_Reader_readOperator) := gd_V ml_Reader_122 im_Reader_readOperator se_Reader_readOperator ini_Reader cd_Reader_readOperator
theorem g_Reader_132 : GoodIn wsAll (wsV R_Reader 132 R_Steps y_Steps_endExpression ws_Steps_endExpression) := gd_V ml_Reader_132 im_Steps_endExpression se_Steps_endExpression ini_Steps cd_Steps_endExpression
def F_Reader_readExpression_61   (o0 o1 o2 : Ob) : Option (Bool × Ob × Ob × Ob) :=
  if (g32 o0 10 0) ≤ 0 then (bind2 (F_Reader_releaseWaiting (0 : Int32) o0 o1 o2) (fun o_19 o_20 => bind1 (F_Reader_next o_19) (fun v22 => bind1 (F_Steps_endExpression v22 o_20) (fun o_24 => some (true, o_19, o1, o_24))))) else (some (false, o0, o1, o2))
def F_Reader_readExpression_26  : Nat → Int32 → Int32 → Ob → Ob → Ob → Option (Bool × Ob × Ob × Ob)
  | 0, _, _, _, _, _ => none
  | n + 1, x1, x2, o0, o1, o2 =>
    if (400 : Int32) ≤ x2 then (F_Reader_readExpression_61 o0 o1 o2) else (if x1 = 0 then (F_Reader_readExpression_61 o0 o1 o2) else (bind4 (F_Reader_readFactor o0 o1 o2) (fun v5 o_6 o_7 o_8 => if (b2i v5) = 0 then (some (false, o_6, o_7, o_8)) else (bind2 (F_Reader_closeGroups o_6 o_7 o_8) (fun o_11 o_12 => bind3 (F_Reader_readOperator o_11 o_7 o_12) (fun v14 o_15 o_16 => F_Reader_readExpression_26 n (b2i v14) (x2 + (1 : Int32)) o_15 o_7 o_16))))))
def F_Reader_readExpression  (o0 o1 o2 : Ob) : Option (Bool × Ob × Ob × Ob) :=
  chk (inb (0 : Int32) 9) (F_Reader_readExpression_26 fuel (1 : Int32) (0 : Int32) (s32 (s32 (s32 (s32 o0 6 0 (0 : Int32)) 10 0 (0 : Int32)) 11 0 (0 : Int32)) 8 (Int32.toNatClampNeg (0 : Int32)) (0 : Int32)) o1 o2)
abbrev ws_Reader_readExpression : List Cond := Cond.code y_Reader_readExpression b_Reader_readExpression 3 (some .boolean) :: wsAll
abbrev rm_Reader_readExpression : Room := { frames := 6, cells := 0, slots := 0, locals := 219 }
set_option maxHeartbeats 4000000 in
set_option maxRecDepth 100000 in
theorem k_Reader_readExpression_61 {p : Program} {l : Launch} {e : Env} {s : State} {m : MethodId} {args : Array Value} {below : List Frame} {meth : Method} {c : Code} {A : Nat → Prop} {ct dC : Nat → ClassId} {dI : Nat → Nat → Nat} {a0 a1 a2 : Nat → Nat}  {r : Bool} {n0 n1 n2 : Ob}   (C0 : cx wsAll vwCl (nxs A) p s m args meth c (dC, dI) (tyA ct) b_Reader_readExpression 3 (some .boolean) R_Reader A [adReader a0, adText a1, adSteps a2])  : ∀  (o0 o1 o2 : Ob) (H : Heap) (locs : List Loc) (ls : Array Slot), bw_P (dC, dI) vwCl [wReader ct a0 (a1 0) o0, wText ct a1 (a2 0) o1, wSteps ct a2 o2] H → va_S A s.heap H locs → lv_has ls 3 [(0, .ref (a0 0))] → F_Reader_readExpression_61 o0 o1 o2 = some (r, n0, n1, n2) → W p l e (headSpec ws_Reader_readExpression rm_Reader_readExpression).room s m args below meth c H locs 0 0 (MQ below (bw_Q (dC, dI) vwCl (some (.int (b2i r))) [wReader ct a0 (a1 0) n0, wText ct a1 (a2 0) n1, wSteps ct a2 n2] A) args s 0 0 A) (F0 m 61 ls []) := by
  obtain ⟨hx, hb, hr, hml, hown, hlocks, hts, hK, hN, hA, hnx, hsx⟩ := id C0
  intro o0 o1 o2 H locs ls hP hS hl h
  rw [F_Reader_readExpression_61] at h
  refine lv_aload_n hx hb d_Reader_readExpression_61 rfl (lv_at hl 0 rfl) ?_
  refine va_get (D := (dC, dI)) (ci := 3) (v := .int (g32 o0 10 0)) (C := R_Reader) (T := T_Reader) (N := 12) hx hb hts in_Reader hown hK (hP 0 _ rfl) 0 rfl rfl 10 (by decide) (hts _ fl_Reader_49) (fun _ h9 => h9) rfl d_Reader_readExpression_62 ?_
  refine lv_if_le (tgt := 70) hx hb d_Reader_readExpression_65 (by decide) (fun c17 => ?_) (fun c17 => ?_)
  · have h := ite_t c17 h
    refine lv_aload_n hx hb d_Reader_readExpression_70 rfl (lv_at hl 0 rfl) ?_
    refine lv_iconst (v := 0) hx hb d_Reader_readExpression_71 (by decide) ?_
    obtain ⟨o_19, o_20, hG18, h⟩ := bind2_some h
    refine bw_call (Lc := [wReader ct a0 (a1 0) o0, wText ct a1 (a2 0) o1, wSteps ct a2 o2]) (Lc' := [wReader ct a0 (a1 0) o_19, wText ct a1 (a2 0) o1, wSteps ct a2 o_20]) (L' := [wReader ct a0 (a1 0) o_19, wText ct a1 (a2 0) o1, wSteps ct a2 o_20]) [0, 1, 2] (va_runV (As := [.int (0 : Int32)]) (rest := []) ⟨hx, hb, hml, hown, hts⟩ (c_Reader_releaseWaiting l ct dC dI a0 a1 a2 _ (0 : Int32) o0 o1 o2 o_19 o_20 hG18) (cwV 1 hts g_Reader_125 rfl rfl rfl (by decide +kernel) ⟨Nat.le_of_ble_eq_true rfl, Nat.le_of_ble_eq_true rfl⟩) ⟨bw_blind nx_call, va_recv hK (hP 0 _ rfl) (ci := 3) (q0 := 0) rfl rfl, fun U hU hW => ⟨rfl, by rw [hU], by rw [hU]; exact hP.sub [0, 1, 2] rfl, va_K.moved hW.alike hK, (hN.sub [0, 1, 2] (by decide) rfl).weaken (fun _ _ => trivial), nx_warm hW hnx⟩⟩ rfl rfl hl.1 rfl (Nat.le_of_ble_eq_true rfl) d_Reader_readExpression_72 ⟨Nat.le_of_ble_eq_true rfl, Nat.le_of_ble_eq_true rfl⟩) hP hN hS hA rfl rfl rfl (fun H locs hP hS => ?_)
    refine lv_aload_n hx hb d_Reader_readExpression_75 rfl (lv_at hl 0 rfl) ?_
    refine va_get (D := (dC, dI)) (ci := 3) (v := .ref (a1 0)) (C := R_Reader) (T := T_Reader) (N := 12) hx hb hts in_Reader hown hK (hP 0 _ rfl) 0 rfl rfl 4 (by decide) (hts _ fl_Reader_29) (fun _ h9 => h9) rfl d_Reader_readExpression_76 ?_
    refine va_get (D := (dC, dI)) (ci := 2) (v := .ref (a2 0)) (C := R_Text) (T := T_Text) (N := 12) hx hb hts in_Text hown hK (hP 1 _ rfl) 0 rfl rfl 2 (by decide) (hts _ fl_Reader_128) (fun _ h9 => h9) rfl d_Reader_readExpression_79 ?_
    refine lv_aload_n hx hb d_Reader_readExpression_82 rfl (lv_at hl 0 rfl) ?_
    obtain ⟨v22, hG21, h⟩ := bind1_some h
    refine bw_callR (va_runV (As := []) (rest := [.ref (a2 0)]) ⟨hx, hb, hml, hown, hts⟩ (c_Reader_next l ct dC dI a0 (a1 0) _ o_19 v22 hG21) (cwV 0 hts g_Reader_78 rfl rfl rfl (by decide +kernel) ⟨Nat.le_of_ble_eq_true rfl, Nat.le_of_ble_eq_true rfl⟩) ⟨bw_blind nx_call, va_recv hK (hP 0 _ rfl) (ci := 3) (q0 := 0) rfl rfl, fun U hU hW => ⟨rfl, by rw [hU], by rw [hU]; exact hP.sub [0] rfl, va_K.moved hW.alike hK, (hN.sub [0] (by decide) rfl).weaken (fun _ _ => trivial), nx_warm hW hnx⟩⟩ rfl rfl hl.1 rfl (Nat.le_of_ble_eq_true rfl) d_Reader_readExpression_83 ⟨Nat.le_of_ble_eq_true rfl, Nat.le_of_ble_eq_true rfl⟩) ?_
    obtain ⟨o_24, hG23, h⟩ := bind1_some h
    refine bw_call (Lc := [wSteps ct a2 o_20]) (Lc' := [wSteps ct a2 o_24]) (L' := [wReader ct a0 (a1 0) o_19, wText ct a1 (a2 0) o1, wSteps ct a2 o_24]) [2] (va_runV (As := [.int v22]) (rest := []) ⟨hx, hb, hml, hown, hts⟩ (c_Steps_endExpression l ct dC dI a2 _ v22 o_20 o_24 hG23) (cwV 1 hts g_Reader_132 rfl rfl rfl (by decide +kernel) ⟨Nat.le_of_ble_eq_true rfl, Nat.le_of_ble_eq_true rfl⟩) ⟨bw_blind nx_call, va_recv hK (hP 2 _ rfl) (ci := 0) (q0 := 0) rfl rfl, fun U hU hW => ⟨rfl, by rw [hU], by rw [hU]; exact hP.sub [2] rfl, va_K.moved hW.alike hK, (hN.sub [2] (by decide) rfl).weaken (fun _ _ => trivial), nx_warm hW hnx⟩⟩ rfl rfl hl.1 rfl (Nat.le_of_ble_eq_true rfl) d_Reader_readExpression_86 ⟨Nat.le_of_ble_eq_true rfl, Nat.le_of_ble_eq_true rfl⟩) hP hN hS hA rfl rfl rfl (fun H locs hP hS => ?_)
    refine lv_iconst (v := 1) hx hb d_Reader_readExpression_89 (by decide) ?_
    obtain ⟨rfl, rfl, rfl, rfl⟩ := res4 h
    exact W.zret hx hb hr rfl (fun t ht hW => ⟨rfl, by rw [ht]; exact hP, hS.F ht⟩) hS.2.2 d_Reader_readExpression_90
  · have h := ite_f c17 h
    refine lv_iconst (v := 0) hx hb d_Reader_readExpression_68 (by decide) ?_
    obtain ⟨rfl, rfl, rfl, rfl⟩ := res4 h
    exact W.zret hx hb hr rfl (fun t ht hW => ⟨rfl, by rw [ht]; exact hP, hS.F ht⟩) hS.2.2 d_Reader_readExpression_69
set_option maxHeartbeats 4000000 in
set_option maxRecDepth 100000 in
theorem k_Reader_readExpression_26 {p : Program} {l : Launch} {e : Env} {s : State} {m : MethodId} {args : Array Value} {below : List Frame} {meth : Method} {c : Code} {A : Nat → Prop} {ct dC : Nat → ClassId} {dI : Nat → Nat → Nat} {a0 a1 a2 : Nat → Nat}  {r : Bool} {n0 n1 n2 : Ob}   (C0 : cx wsAll vwCl (nxs A) p s m args meth c (dC, dI) (tyA ct) b_Reader_readExpression 3 (some .boolean) R_Reader A [adReader a0, adText a1, adSteps a2])  : ∀ (n : Nat) (x1 : Int32) (x2 : Int32) (o0 o1 o2 : Ob) (H : Heap) (locs : List Loc) (ls : Array Slot), bw_P (dC, dI) vwCl [wReader ct a0 (a1 0) o0, wText ct a1 (a2 0) o1, wSteps ct a2 o2] H → va_S A s.heap H locs → lv_has ls 3 [(0, .ref (a0 0)), (1, .int x1), (2, .int x2)] → F_Reader_readExpression_26 n x1 x2 o0 o1 o2 = some (r, n0, n1, n2) → W p l e (headSpec ws_Reader_readExpression rm_Reader_readExpression).room s m args below meth c H locs 0 0 (MQ below (bw_Q (dC, dI) vwCl (some (.int (b2i r))) [wReader ct a0 (a1 0) n0, wText ct a1 (a2 0) n1, wSteps ct a2 n2] A) args s 0 0 A) (F0 m 26 ls []) := by
  obtain ⟨hx, hb, hr, hml, hown, hlocks, hts, hK, hN, hA, hnx, hsx⟩ := id C0
  intro n
  induction n with
  | zero =>
    intro x1 x2 o0 o1 o2 H locs ls hP hS hl h
    cases h
  | succ n ih =>
    intro x1 x2 o0 o1 o2 H locs ls hP hS hl h
    rw [F_Reader_readExpression_26] at h
    refine lv_iload_n hx hb d_Reader_readExpression_26 rfl (lv_at hl 2 rfl) ?_
    refine lv_sipush (v := 400) hx hb d_Reader_readExpression_27 (by decide) ?_
    refine lv_icmp_ge (tgt := 61) hx hb d_Reader_readExpression_30 (by decide) (fun c2 => ?_) (fun c2 => ?_)
    · have h := ite_t c2 h
      exact k_Reader_readExpression_61 C0 o0 o1 o2 _ _ _ hP hS (lv_sub hl [0] rfl) h
    · have h := ite_f c2 h
      refine lv_iload_n hx hb d_Reader_readExpression_33 rfl (lv_at hl 1 rfl) ?_
      refine lv_if_eq (tgt := 61) hx hb d_Reader_readExpression_34 (by decide) (fun c3 => ?_) (fun c3 => ?_)
      · have h := ite_t c3 h
        exact k_Reader_readExpression_61 C0 o0 o1 o2 _ _ _ hP hS (lv_sub hl [0] rfl) h
      · have h := ite_f c3 h
        refine lv_aload_n hx hb d_Reader_readExpression_37 rfl (lv_at hl 0 rfl) ?_
        obtain ⟨v5, o_6, o_7, o_8, hG4, h⟩ := bind4_some h
        refine bw_call (Lc := [wReader ct a0 (a1 0) o0, wText ct a1 (a2 0) o1, wSteps ct a2 o2]) (Lc' := [wReader ct a0 (a1 0) o_6, wText ct a1 (a2 0) o_7, wSteps ct a2 o_8]) (L' := [wReader ct a0 (a1 0) o_6, wText ct a1 (a2 0) o_7, wSteps ct a2 o_8]) [0, 1, 2] (va_runV (As := []) (rest := []) ⟨hx, hb, hml, hown, hts⟩ (c_Reader_readFactor l ct dC dI a0 a1 a2 _ o0 o1 o2 v5 o_6 o_7 o_8 hG4) (cwV 0 hts g_Reader_116 rfl rfl rfl (by decide +kernel) ⟨Nat.le_of_ble_eq_true rfl, Nat.le_of_ble_eq_true rfl⟩) ⟨bw_blind nxs_call, va_recv hK (hP 0 _ rfl) (ci := 3) (q0 := 0) rfl rfl, fun U hU hW => ⟨rfl, by rw [hU], by rw [hU]; exact hP.sub [0, 1, 2] rfl, va_K.moved hW.alike hK, (hN.sub [0, 1, 2] (by decide) rfl).weaken (fun _ _ => trivial), ⟨nx_warm hW hnx, sx_call hsx hS hN hA [0, 1, 2] rfl hU hW⟩⟩⟩ rfl rfl hl.1 rfl (Nat.le_of_ble_eq_true rfl) d_Reader_readExpression_38 ⟨Nat.le_of_ble_eq_true rfl, Nat.le_of_ble_eq_true rfl⟩) hP hN hS hA rfl rfl rfl (fun H locs hP hS => ?_)
        refine lv_if_ne (tgt := 46) hx hb d_Reader_readExpression_41 (by decide) (fun c9 => ?_) (fun c9 => ?_)
        · have h := ite_f c9 h
          refine lv_aload_n hx hb d_Reader_readExpression_46 rfl (lv_at hl 0 rfl) ?_
          obtain ⟨o_11, o_12, hG10, h⟩ := bind2_some h
          refine bw_call (Lc := [wReader ct a0 (a1 0) o_6, wText ct a1 (a2 0) o_7, wSteps ct a2 o_8]) (Lc' := [wReader ct a0 (a1 0) o_11, wText ct a1 (a2 0) o_7, wSteps ct a2 o_12]) (L' := [wReader ct a0 (a1 0) o_11, wText ct a1 (a2 0) o_7, wSteps ct a2 o_12]) [0, 1, 2] (va_runV (As := []) (rest := []) ⟨hx, hb, hml, hown, hts⟩ (c_Reader_closeGroups l ct dC dI a0 a1 a2 _ o_6 o_7 o_8 o_11 o_12 hG10) (cwV 0 hts g_Reader_119 rfl rfl rfl (by decide +kernel) ⟨Nat.le_of_ble_eq_true rfl, Nat.le_of_ble_eq_true rfl⟩) ⟨bw_blind nx_call, va_recv hK (hP 0 _ rfl) (ci := 3) (q0 := 0) rfl rfl, fun U hU hW => ⟨rfl, by rw [hU], by rw [hU]; exact hP.sub [0, 1, 2] rfl, va_K.moved hW.alike hK, (hN.sub [0, 1, 2] (by decide) rfl).weaken (fun _ _ => trivial), nx_warm hW hnx⟩⟩ rfl rfl hl.1 rfl (Nat.le_of_ble_eq_true rfl) d_Reader_readExpression_47 ⟨Nat.le_of_ble_eq_true rfl, Nat.le_of_ble_eq_true rfl⟩) hP hN hS hA rfl rfl rfl (fun H locs hP hS => ?_)
          refine lv_aload_n hx hb d_Reader_readExpression_50 rfl (lv_at hl 0 rfl) ?_
          obtain ⟨v14, o_15, o_16, hG13, h⟩ := bind3_some h
          refine bw_call (Lc := [wReader ct a0 (a1 0) o_11, wText ct a1 (a2 0) o_7, wSteps ct a2 o_12]) (Lc' := [wReader ct a0 (a1 0) o_15, wText ct a1 (a2 0) o_7, wSteps ct a2 o_16]) (L' := [wReader ct a0 (a1 0) o_15, wText ct a1 (a2 0) o_7, wSteps ct a2 o_16]) [0, 1, 2] (va_runV (As := []) (rest := []) ⟨hx, hb, hml, hown, hts⟩ (c_Reader_readOperator l ct dC dI a0 a1 a2 _ o_11 o_7 o_12 v14 o_15 o_16 hG13) (cwV 0 hts g_Reader_122 rfl rfl rfl (by decide +kernel) ⟨Nat.le_of_ble_eq_true rfl, Nat.le_of_ble_eq_true rfl⟩) ⟨bw_blind nx_call, va_recv hK (hP 0 _ rfl) (ci := 3) (q0 := 0) rfl rfl, fun U hU hW => ⟨rfl, by rw [hU], by rw [hU]; exact hP.sub [0, 1, 2] rfl, va_K.moved hW.alike hK, (hN.sub [0, 1, 2] (by decide) rfl).weaken (fun _ _ => trivial), nx_warm hW hnx⟩⟩ rfl rfl hl.1 rfl (Nat.le_of_ble_eq_true rfl) d_Reader_readExpression_51 ⟨Nat.le_of_ble_eq_true rfl, Nat.le_of_ble_eq_true rfl⟩) hP hN hS hA rfl rfl rfl (fun H locs hP hS => ?_)
          refine lv_istore_n (lv' := [(1, .int (b2i v14)), (0, .ref (a0 0)), (2, .int x2)]) hx hb d_Reader_readExpression_54 rfl hl (by decide) rfl (fun ls hl => ?_)
          refine lv_iinc (v := (x2 + (1 : Int32))) (lv' := [(2, .int (x2 + (1 : Int32))), (1, .int (b2i v14)), (0, .ref (a0 0))]) hx hb d_Reader_readExpression_55 hl (k := 2) rfl rfl (by decide) rfl (fun ls hl => ?_)
          refine lv_goto (tgt := 26) hx hb d_Reader_readExpression_58 (by decide) ?_
          exact ih (b2i v14) (x2 + (1 : Int32)) o_15 o_7 o_16 _ _ _ hP hS (lv_sub hl [2, 1, 0] rfl) h
        · have h := ite_t c9 h
          refine lv_iconst (v := 0) hx hb d_Reader_readExpression_44 (by decide) ?_
          obtain ⟨rfl, rfl, rfl, rfl⟩ := res4 h
          exact W.zret hx hb hr rfl (fun t ht hW => ⟨rfl, by rw [ht]; exact hP, hS.F ht⟩) hS.2.2 d_Reader_readExpression_45
set_option maxHeartbeats 4000000 in
set_option maxRecDepth 100000 in
theorem c_Reader_readExpression (l : Launch) (ct dC : Nat → ClassId) (dI : Nat → Nat → Nat) (a0 a1 a2 : Nat → Nat)  (sz : Nat)  (o0 o1 o2 : Ob) (r : Bool) (n0 n1 n2 : Ob) (hF : F_Reader_readExpression o0 o1 o2 = some (r, n0, n1, n2)) : Met l y_Reader_readExpression ws_Reader_readExpression rm_Reader_readExpression (bw_Pc [.ref (a0 0)] (dC, dI) vwCl (tyA ct) [wReader ct a0 (a1 0) o0, wText ct a1 (a2 0) o1, wSteps ct a2 o2] sz (nxs (bw_A [adReader a0, adText a1, adSteps a2] sz))) (bw_Q (dC, dI) vwCl (some (.int (b2i r))) [wReader ct a0 (a1 0) n0, wText ct a1 (a2 0) n1, wSteps ct a2 n2] (bw_A [adReader a0, adText a1, adSteps a2] sz)) 0 0 (bw_A [adReader a0, adText a1, adSteps a2] sz) := by
  refine Met.ofW (cc := b_Reader_readExpression) (maxL := 3) (ret := (some .boolean)) (by decide) rfl ?_
  intro p e s m args below meth c s₁ B hml hv
  obtain ⟨rfl, hsz, hP, hK, hN0, hnx, hsx⟩ := hv
  have hx := B.exec
  have hb := B.bytes
  have hr := B.returns
  have hts : ∀ w ∈ wsAll, w.before [.ref (a0 0)].toArray s = true := fun w h9 => atoms_spec (ws := ws_Reader_readExpression) B.pre w (List.mem_cons_of_mem _ h9)
  have hown : s.vm.findClass R_Reader = some m.cls := findClass_of_methodNamed B.named
  have hlocks := B.notSynchronized
  subst hsz
  have hN : bw_N (bw_A [adReader a0, adText a1, adSteps a2] s.heap.size) [adReader a0, adText a1, adSteps a2] := hN0.self s.heap.size
  generalize hAe : bw_A [adReader a0, adText a1, adSteps a2] s.heap.size = A at hsx hN ⊢
  have hA : ∀ q : Nat, s.heap.size ≤ q → A q := fun q h => by rw [← hAe]; exact Or.inr h
  have hS : va_S A s.heap s.heap [] := va_S.rf
  have hl := lv_entry ([.ref (a0 0)]) (n := 3) (Nat.le_of_ble_eq_true rfl)
  rw [lg_entry_eq]
  generalize (lg_sl ([.ref (a0 0)]) ++ List.replicate (3 - (lg_sl ([.ref (a0 0)])).length) Slot.unset).toArray = ls at hl ⊢
  have hl : lv_has ls 3 [(0, .ref (a0 0))] := hl
  have C0 : cx wsAll vwCl (nxs A) p s m [.ref (a0 0)].toArray meth c (dC, dI) (tyA ct) b_Reader_readExpression 3 (some .boolean) R_Reader A [adReader a0, adText a1, adSteps a2] := ⟨hx, hb, hr, hml, hown, hlocks, hts, hK, hN, hA, hnx, hsx⟩
  have h := hF
  rw [F_Reader_readExpression] at h
  refine lv_aload_n hx hb d_Reader_readExpression_0 rfl (lv_at hl 0 rfl) ?_
  refine lv_iconst (v := 0) hx hb d_Reader_readExpression_1 (by decide) ?_
  refine pt_Reader_6 hx hb hts hown hK hP hN hS 0 rfl (hts _ fl_Reader_37) d_Reader_readExpression_2 (fun H locs hP hS => ?_)
  have hP : bw_P (dC, dI) vwCl [wReader ct a0 (a1 0) (s32 o0 6 0 (0 : Int32)), wText ct a1 (a2 0) o1, wSteps ct a2 o2] H := hP
  refine lv_aload_n hx hb d_Reader_readExpression_5 rfl (lv_at hl 0 rfl) ?_
  refine lv_iconst (v := 0) hx hb d_Reader_readExpression_6 (by decide) ?_
  refine pt_Reader_10 hx hb hts hown hK hP hN hS 0 rfl (hts _ fl_Reader_49) d_Reader_readExpression_7 (fun H locs hP hS => ?_)
  have hP : bw_P (dC, dI) vwCl [wReader ct a0 (a1 0) (s32 (s32 o0 6 0 (0 : Int32)) 10 0 (0 : Int32)), wText ct a1 (a2 0) o1, wSteps ct a2 o2] H := hP
  refine lv_aload_n hx hb d_Reader_readExpression_10 rfl (lv_at hl 0 rfl) ?_
  refine lv_iconst (v := 0) hx hb d_Reader_readExpression_11 (by decide) ?_
  refine pt_Reader_11 hx hb hts hown hK hP hN hS 0 rfl (hts _ fl_Reader_52) d_Reader_readExpression_12 (fun H locs hP hS => ?_)
  have hP : bw_P (dC, dI) vwCl [wReader ct a0 (a1 0) (s32 (s32 (s32 o0 6 0 (0 : Int32)) 10 0 (0 : Int32)) 11 0 (0 : Int32)), wText ct a1 (a2 0) o1, wSteps ct a2 o2] H := hP
  refine lv_aload_n hx hb d_Reader_readExpression_15 rfl (lv_at hl 0 rfl) ?_
  refine va_get (D := (dC, dI)) (ci := 3) (v := .ref (a0 5)) (C := R_Reader) (T := T_Reader) (N := 12) hx hb hts in_Reader hown hK (hP 0 _ rfl) 0 rfl rfl 8 (by decide) (hts _ fl_Reader_43) (fun _ h9 => h9) rfl d_Reader_readExpression_16 ?_
  refine lv_iconst (v := 0) hx hb d_Reader_readExpression_19 (by decide) ?_
  refine lv_iconst (v := 0) hx hb d_Reader_readExpression_20 (by decide) ?_
  obtain ⟨hi1, h⟩ := chk_some h
  refine st_Reader_8 hx hb hK hP hN hS 0 rfl (inb_in hi1) d_Reader_readExpression_21 (fun H locs hP hS => ?_)
  have hP : bw_P (dC, dI) vwCl [wReader ct a0 (a1 0) (s32 (s32 (s32 (s32 o0 6 0 (0 : Int32)) 10 0 (0 : Int32)) 11 0 (0 : Int32)) 8 (Int32.toNatClampNeg (0 : Int32)) (0 : Int32)), wText ct a1 (a2 0) o1, wSteps ct a2 o2] H := hP
  refine lv_iconst (v := 1) hx hb d_Reader_readExpression_22 (by decide) ?_
  refine lv_istore_n (lv' := [(1, .int (1 : Int32)), (0, .ref (a0 0))]) hx hb d_Reader_readExpression_23 rfl hl (by decide) rfl (fun ls hl => ?_)
  refine lv_iconst (v := 0) hx hb d_Reader_readExpression_24 (by decide) ?_
  refine lv_istore_n (lv' := [(2, .int (0 : Int32)), (1, .int (1 : Int32)), (0, .ref (a0 0))]) hx hb d_Reader_readExpression_25 rfl hl (by decide) rfl (fun ls hl => ?_)
  exact k_Reader_readExpression_26 C0 fuel (1 : Int32) (0 : Int32) (s32 (s32 (s32 (s32 o0 6 0 (0 : Int32)) 10 0 (0 : Int32)) 11 0 (0 : Int32)) 8 (Int32.toNatClampNeg (0 : Int32)) (0 : Int32)) o1 o2 _ _ _ hP hS (lv_sub hl [2, 1, 0] rfl) h
theorem g_Reader_107 : GoodIn wsAll (wsV R_Reader 107 R_Reader y_Reader_readExpression ws_Reader_readExpression) := gd_V ml_Reader_107 im_Reader_readExpression se_Reader_readExpression ini_Reader cd_Reader_readExpression
theorem g_Reader_110 : GoodIn wsAll (wsV R_Reader 110 R_Reader y_Reader_passSign ws_Reader_passSign) := gd_V ml_Reader_110 im_Reader_passSign se_Reader_passSign ini_Reader cd_Reader_passSign
def F_Reader_readCondition  (o0 o1 o2 : Ob) : Option (Bool × Ob × Ob × Ob) :=
  bind4 (F_Reader_readExpression o0 o1 o2) (fun v2 o_3 o_4 o_5 => if (b2i v2) = 0 then (some (false, o_3, o_4, o_5)) else (bind3 (F_Reader_passSign o_3 o_4) (fun v8 o_9 o_10 => if (b2i v8) = 0 then (some (false, o_9, o_10, o_5)) else (bind4 (F_Reader_readExpression o_9 o_10 o_5) (fun v13 o_14 o_15 o_16 => if (b2i v13) = 0 then (some (false, o_14, o_15, o_16)) else (some (true, o_14, o_15, o_16)))))))
abbrev ws_Reader_readCondition : List Cond := Cond.code y_Reader_readCondition b_Reader_readCondition 1 (some .boolean) :: wsAll
abbrev rm_Reader_readCondition : Room := { frames := 7, cells := 0, slots := 0, locals := 241 }
set_option maxHeartbeats 4000000 in
set_option maxRecDepth 100000 in
theorem c_Reader_readCondition (l : Launch) (ct dC : Nat → ClassId) (dI : Nat → Nat → Nat) (a0 a1 a2 : Nat → Nat)  (sz : Nat)  (o0 o1 o2 : Ob) (r : Bool) (n0 n1 n2 : Ob) (hF : F_Reader_readCondition o0 o1 o2 = some (r, n0, n1, n2)) : Met l y_Reader_readCondition ws_Reader_readCondition rm_Reader_readCondition (bw_Pc [.ref (a0 0)] (dC, dI) vwCl (tyA ct) [wReader ct a0 (a1 0) o0, wText ct a1 (a2 0) o1, wSteps ct a2 o2] sz (nxs (bw_A [adReader a0, adText a1, adSteps a2] sz))) (bw_Q (dC, dI) vwCl (some (.int (b2i r))) [wReader ct a0 (a1 0) n0, wText ct a1 (a2 0) n1, wSteps ct a2 n2] (bw_A [adReader a0, adText a1, adSteps a2] sz)) 0 0 (bw_A [adReader a0, adText a1, adSteps a2] sz) := by
  refine Met.ofW (cc := b_Reader_readCondition) (maxL := 1) (ret := (some .boolean)) (by decide) rfl ?_
  intro p e s m args below meth c s₁ B hml hv
  obtain ⟨rfl, hsz, hP, hK, hN0, hnx, hsx⟩ := hv
  have hx := B.exec
  have hb := B.bytes
  have hr := B.returns
  have hts : ∀ w ∈ wsAll, w.before [.ref (a0 0)].toArray s = true := fun w h9 => atoms_spec (ws := ws_Reader_readCondition) B.pre w (List.mem_cons_of_mem _ h9)
  have hown : s.vm.findClass R_Reader = some m.cls := findClass_of_methodNamed B.named
  have hlocks := B.notSynchronized
  subst hsz
  have hN : bw_N (bw_A [adReader a0, adText a1, adSteps a2] s.heap.size) [adReader a0, adText a1, adSteps a2] := hN0.self s.heap.size
  generalize hAe : bw_A [adReader a0, adText a1, adSteps a2] s.heap.size = A at hsx hN ⊢
  have hA : ∀ q : Nat, s.heap.size ≤ q → A q := fun q h => by rw [← hAe]; exact Or.inr h
  have hS : va_S A s.heap s.heap [] := va_S.rf
  have hl := lv_entry ([.ref (a0 0)]) (n := 1) (Nat.le_of_ble_eq_true rfl)
  rw [lg_entry_eq]
  generalize (lg_sl ([.ref (a0 0)]) ++ List.replicate (1 - (lg_sl ([.ref (a0 0)])).length) Slot.unset).toArray = ls at hl ⊢
  have hl : lv_has ls 1 [(0, .ref (a0 0))] := hl
  have C0 : cx wsAll vwCl (nxs A) p s m [.ref (a0 0)].toArray meth c (dC, dI) (tyA ct) b_Reader_readCondition 1 (some .boolean) R_Reader A [adReader a0, adText a1, adSteps a2] := ⟨hx, hb, hr, hml, hown, hlocks, hts, hK, hN, hA, hnx, hsx⟩
  have h := hF
  rw [F_Reader_readCondition] at h
  refine lv_aload_n hx hb d_Reader_readCondition_0 rfl (lv_at hl 0 rfl) ?_
  obtain ⟨v2, o_3, o_4, o_5, hG1, h⟩ := bind4_some h
  refine bw_call (Lc := [wReader ct a0 (a1 0) o0, wText ct a1 (a2 0) o1, wSteps ct a2 o2]) (Lc' := [wReader ct a0 (a1 0) o_3, wText ct a1 (a2 0) o_4, wSteps ct a2 o_5]) (L' := [wReader ct a0 (a1 0) o_3, wText ct a1 (a2 0) o_4, wSteps ct a2 o_5]) [0, 1, 2] (va_runV (As := []) (rest := []) ⟨hx, hb, hml, hown, hts⟩ (c_Reader_readExpression l ct dC dI a0 a1 a2 _ o0 o1 o2 v2 o_3 o_4 o_5 hG1) (cwV 0 hts g_Reader_107 rfl rfl rfl (by decide +kernel) ⟨Nat.le_of_ble_eq_true rfl, Nat.le_of_ble_eq_true rfl⟩) ⟨bw_blind nxs_call, va_recv hK (hP 0 _ rfl) (ci := 3) (q0 := 0) rfl rfl, fun U hU hW => ⟨rfl, by rw [hU], by rw [hU]; exact hP.sub [0, 1, 2] rfl, va_K.moved hW.alike hK, (hN.sub [0, 1, 2] (by decide) rfl).weaken (fun _ _ => trivial), ⟨nx_warm hW hnx, sx_call hsx hS hN hA [0, 1, 2] rfl hU hW⟩⟩⟩ rfl rfl hl.1 rfl (Nat.le_of_ble_eq_true rfl) d_Reader_readCondition_1 ⟨Nat.le_of_ble_eq_true rfl, Nat.le_of_ble_eq_true rfl⟩) hP hN hS hA rfl rfl rfl (fun H locs hP hS => ?_)
  refine lv_if_eq (tgt := 25) hx hb d_Reader_readCondition_4 (by decide) (fun c6 => ?_) (fun c6 => ?_)
  · have h := ite_t c6 h
    refine lv_iconst (v := 0) hx hb d_Reader_readCondition_25 (by decide) ?_
    obtain ⟨rfl, rfl, rfl, rfl⟩ := res4 h
    exact W.zret hx hb hr rfl (fun t ht hW => ⟨rfl, by rw [ht]; exact hP, hS.F ht⟩) hS.2.2 d_Reader_readCondition_26
  · have h := ite_f c6 h
    refine lv_aload_n hx hb d_Reader_readCondition_7 rfl (lv_at hl 0 rfl) ?_
    obtain ⟨v8, o_9, o_10, hG7, h⟩ := bind3_some h
    refine bw_call (Lc := [wReader ct a0 (a1 0) o_3, wText ct a1 (a2 0) o_4]) (Lc' := [wReader ct a0 (a1 0) o_9, wText ct a1 (a2 0) o_10]) (L' := [wReader ct a0 (a1 0) o_9, wText ct a1 (a2 0) o_10, wSteps ct a2 o_5]) [0, 1] (va_runV (As := []) (rest := []) ⟨hx, hb, hml, hown, hts⟩ (c_Reader_passSign l ct dC dI a0 a1 (a2 0) _ o_3 o_4 v8 o_9 o_10 hG7) (cwV 0 hts g_Reader_110 rfl rfl rfl (by decide +kernel) ⟨Nat.le_of_ble_eq_true rfl, Nat.le_of_ble_eq_true rfl⟩) ⟨bw_blind nx_call, va_recv hK (hP 0 _ rfl) (ci := 3) (q0 := 0) rfl rfl, fun U hU hW => ⟨rfl, by rw [hU], by rw [hU]; exact hP.sub [0, 1] rfl, va_K.moved hW.alike hK, (hN.sub [0, 1] (by decide) rfl).weaken (fun _ _ => trivial), nx_warm hW hnx⟩⟩ rfl rfl hl.1 rfl (Nat.le_of_ble_eq_true rfl) d_Reader_readCondition_8 ⟨Nat.le_of_ble_eq_true rfl, Nat.le_of_ble_eq_true rfl⟩) hP hN hS hA rfl rfl rfl (fun H locs hP hS => ?_)
    refine lv_if_eq (tgt := 25) hx hb d_Reader_readCondition_11 (by decide) (fun c11 => ?_) (fun c11 => ?_)
    · have h := ite_t c11 h
      refine lv_iconst (v := 0) hx hb d_Reader_readCondition_25 (by decide) ?_
      obtain ⟨rfl, rfl, rfl, rfl⟩ := res4 h
      exact W.zret hx hb hr rfl (fun t ht hW => ⟨rfl, by rw [ht]; exact hP, hS.F ht⟩) hS.2.2 d_Reader_readCondition_26
    · have h := ite_f c11 h
      refine lv_aload_n hx hb d_Reader_readCondition_14 rfl (lv_at hl 0 rfl) ?_
      obtain ⟨v13, o_14, o_15, o_16, hG12, h⟩ := bind4_some h
      refine bw_call (Lc := [wReader ct a0 (a1 0) o_9, wText ct a1 (a2 0) o_10, wSteps ct a2 o_5]) (Lc' := [wReader ct a0 (a1 0) o_14, wText ct a1 (a2 0) o_15, wSteps ct a2 o_16]) (L' := [wReader ct a0 (a1 0) o_14, wText ct a1 (a2 0) o_15, wSteps ct a2 o_16]) [0, 1, 2] (va_runV (As := []) (rest := []) ⟨hx, hb, hml, hown, hts⟩ (c_Reader_readExpression l ct dC dI a0 a1 a2 _ o_9 o_10 o_5 v13 o_14 o_15 o_16 hG12) (cwV 0 hts g_Reader_107 rfl rfl rfl (by decide +kernel) ⟨Nat.le_of_ble_eq_true rfl, Nat.le_of_ble_eq_true rfl⟩) ⟨bw_blind nxs_call, va_recv hK (hP 0 _ rfl) (ci := 3) (q0 := 0) rfl rfl, fun U hU hW => ⟨rfl, by rw [hU], by rw [hU]; exact hP.sub [0, 1, 2] rfl, va_K.moved hW.alike hK, (hN.sub [0, 1, 2] (by decide) rfl).weaken (fun _ _ => trivial), ⟨nx_warm hW hnx, sx_call hsx hS hN hA [0, 1, 2] rfl hU hW⟩⟩⟩ rfl rfl hl.1 rfl (Nat.le_of_ble_eq_true rfl) d_Reader_readCondition_15 ⟨Nat.le_of_ble_eq_true rfl, Nat.le_of_ble_eq_true rfl⟩) hP hN hS hA rfl rfl rfl (fun H locs hP hS => ?_)
      refine lv_if_eq (tgt := 25) hx hb d_Reader_readCondition_18 (by decide) (fun c17 => ?_) (fun c17 => ?_)
      · have h := ite_t c17 h
        refine lv_iconst (v := 0) hx hb d_Reader_readCondition_25 (by decide) ?_
        obtain ⟨rfl, rfl, rfl, rfl⟩ := res4 h
        exact W.zret hx hb hr rfl (fun t ht hW => ⟨rfl, by rw [ht]; exact hP, hS.F ht⟩) hS.2.2 d_Reader_readCondition_26
      · have h := ite_f c17 h
        refine lv_iconst (v := 1) hx hb d_Reader_readCondition_21 (by decide) ?_
        refine lv_goto (tgt := 26) hx hb d_Reader_readCondition_22 (by decide) ?_
        obtain ⟨rfl, rfl, rfl, rfl⟩ := res4 h
        exact W.zret hx hb hr rfl (fun t ht hW => ⟨rfl, by rw [ht]; exact hP, hS.F ht⟩) hS.2.2 d_Reader_readCondition_26
def F_Reader_readChoice_2  : Nat → Int32 → Ob → Ob → Ob → Option (Bool × Ob × Ob × Ob)
  | 0, _, _, _, _ => none
  | n + 1, x1, o0, o1, o2 =>
    if (4 : Int32) ≤ x1 then (bind4 (F_Reader_readExpression o0 o1 o2) (fun v3 o_4 o_5 o_6 => some (v3, o_4, o_5, o_6))) else (bind4 (F_Reader_readExpression o0 o1 o2) (fun v8 o_9 o_10 o_11 => if (b2i v8) = 0 then (some (false, o_9, o_10, o_11)) else (bind3 (F_Reader_passSign o_9 o_10) (fun v14 o_15 o_16 => if (b2i v14) = 0 then (some (true, o_15, o_16, o_11)) else (bind4 (F_Reader_readExpression o_15 o_16 o_11) (fun v19 o_20 o_21 o_22 => if (b2i v19) = 0 then (some (false, o_20, o_21, o_22)) else (bind2 (F_Reader_pass (63 : Int32) o_20) (fun v25 o_26 => if (b2i v25) = 0 then (some (false, o_26, o_21, o_22)) else (bind4 (F_Reader_readExpression o_26 o_21 o_22) (fun v29 o_30 o_31 o_32 => if (b2i v29) = 0 then (some (false, o_30, o_31, o_32)) else (bind2 (F_Reader_pass (58 : Int32) o_30) (fun v35 o_36 => if (b2i v35) = 0 then (some (false, o_36, o_31, o_32)) else (F_Reader_readChoice_2 n (x1 + (1 : Int32)) o_36 o_31 o_32)))))))))))))
def F_Reader_readChoice  (o0 o1 o2 : Ob) : Option (Bool × Ob × Ob × Ob) :=
  F_Reader_readChoice_2 fuel (0 : Int32) o0 o1 o2
abbrev ws_Reader_readChoice : List Cond := Cond.code y_Reader_readChoice b_Reader_readChoice 2 (some .boolean) :: wsAll
abbrev rm_Reader_readChoice : Room := { frames := 7, cells := 0, slots := 0, locals := 241 }
set_option maxHeartbeats 4000000 in
set_option maxRecDepth 100000 in
theorem k_Reader_readChoice_2 {p : Program} {l : Launch} {e : Env} {s : State} {m : MethodId} {args : Array Value} {below : List Frame} {meth : Method} {c : Code} {A : Nat → Prop} {ct dC : Nat → ClassId} {dI : Nat → Nat → Nat} {a0 a1 a2 : Nat → Nat}  {r : Bool} {n0 n1 n2 : Ob}   (C0 : cx wsAll vwCl (nxs A) p s m args meth c (dC, dI) (tyA ct) b_Reader_readChoice 2 (some .boolean) R_Reader A [adReader a0, adText a1, adSteps a2])  : ∀ (n : Nat) (x1 : Int32) (o0 o1 o2 : Ob) (H : Heap) (locs : List Loc) (ls : Array Slot), bw_P (dC, dI) vwCl [wReader ct a0 (a1 0) o0, wText ct a1 (a2 0) o1, wSteps ct a2 o2] H → va_S A s.heap H locs → lv_has ls 2 [(0, .ref (a0 0)), (1, .int x1)] → F_Reader_readChoice_2 n x1 o0 o1 o2 = some (r, n0, n1, n2) → W p l e (headSpec ws_Reader_readChoice rm_Reader_readChoice).room s m args below meth c H locs 0 0 (MQ below (bw_Q (dC, dI) vwCl (some (.int (b2i r))) [wReader ct a0 (a1 0) n0, wText ct a1 (a2 0) n1, wSteps ct a2 n2] A) args s 0 0 A) (F0 m 2 ls []) := by
  obtain ⟨hx, hb, hr, hml, hown, hlocks, hts, hK, hN, hA, hnx, hsx⟩ := id C0
  intro n
  induction n with
  | zero =>
    intro x1 o0 o1 o2 H locs ls hP hS hl h
    cases h
  | succ n ih =>
    intro x1 o0 o1 o2 H locs ls hP hS hl h
    rw [F_Reader_readChoice_2] at h
    refine lv_iload_n hx hb d_Reader_readChoice_2 rfl (lv_at hl 1 rfl) ?_
    refine lv_iconst (v := 4) hx hb d_Reader_readChoice_3 (by decide) ?_
    refine lv_icmp_ge (tgt := 65) hx hb d_Reader_readChoice_4 (by decide) (fun c1 => ?_) (fun c1 => ?_)
    · have h := ite_t c1 h
      refine lv_aload_n hx hb d_Reader_readChoice_65 rfl (lv_at hl 0 rfl) ?_
      obtain ⟨v3, o_4, o_5, o_6, hG2, h⟩ := bind4_some h
      refine bw_call (Lc := [wReader ct a0 (a1 0) o0, wText ct a1 (a2 0) o1, wSteps ct a2 o2]) (Lc' := [wReader ct a0 (a1 0) o_4, wText ct a1 (a2 0) o_5, wSteps ct a2 o_6]) (L' := [wReader ct a0 (a1 0) o_4, wText ct a1 (a2 0) o_5, wSteps ct a2 o_6]) [0, 1, 2] (va_runV (As := []) (rest := []) ⟨hx, hb, hml, hown, hts⟩ (c_Reader_readExpression l ct dC dI a0 a1 a2 _ o0 o1 o2 v3 o_4 o_5 o_6 hG2) (cwV 0 hts g_Reader_107 rfl rfl rfl (by decide +kernel) ⟨Nat.le_of_ble_eq_true rfl, Nat.le_of_ble_eq_true rfl⟩) ⟨bw_blind nxs_call, va_recv hK (hP 0 _ rfl) (ci := 3) (q0 := 0) rfl rfl, fun U hU hW => ⟨rfl, by rw [hU], by rw [hU]; exact hP.sub [0, 1, 2] rfl, va_K.moved hW.alike hK, (hN.sub [0, 1, 2] (by decide) rfl).weaken (fun _ _ => trivial), ⟨nx_warm hW hnx, sx_call hsx hS hN hA [0, 1, 2] rfl hU hW⟩⟩⟩ rfl rfl hl.1 rfl (Nat.le_of_ble_eq_true rfl) d_Reader_readChoice_66 ⟨Nat.le_of_ble_eq_true rfl, Nat.le_of_ble_eq_true rfl⟩) hP hN hS hA rfl rfl rfl (fun H locs hP hS => ?_)
      obtain ⟨rfl, rfl, rfl, rfl⟩ := res4 h
      exact W.zret hx hb hr (b2i_nar _) (fun t ht hW => ⟨rfl, by rw [ht]; exact hP, hS.F ht⟩) hS.2.2 d_Reader_readChoice_69
    · have h := ite_f c1 h
      refine lv_aload_n hx hb d_Reader_readChoice_7 rfl (lv_at hl 0 rfl) ?_
      obtain ⟨v8, o_9, o_10, o_11, hG7, h⟩ := bind4_some h
      refine bw_call (Lc := [wReader ct a0 (a1 0) o0, wText ct a1 (a2 0) o1, wSteps ct a2 o2]) (Lc' := [wReader ct a0 (a1 0) o_9, wText ct a1 (a2 0) o_10, wSteps ct a2 o_11]) (L' := [wReader ct a0 (a1 0) o_9, wText ct a1 (a2 0) o_10, wSteps ct a2 o_11]) [0, 1, 2] (va_runV (As := []) (rest := []) ⟨hx, hb, hml, hown, hts⟩ (c_Reader_readExpression l ct dC dI a0 a1 a2 _ o0 o1 o2 v8 o_9 o_10 o_11 hG7) (cwV 0 hts g_Reader_107 rfl rfl rfl (by decide +kernel) ⟨Nat.le_of_ble_eq_true rfl, Nat.le_of_ble_eq_true rfl⟩) ⟨bw_blind nxs_call, va_recv hK (hP 0 _ rfl) (ci := 3) (q0 := 0) rfl rfl, fun U hU hW => ⟨rfl, by rw [hU], by rw [hU]; exact hP.sub [0, 1, 2] rfl, va_K.moved hW.alike hK, (hN.sub [0, 1, 2] (by decide) rfl).weaken (fun _ _ => trivial), ⟨nx_warm hW hnx, sx_call hsx hS hN hA [0, 1, 2] rfl hU hW⟩⟩⟩ rfl rfl hl.1 rfl (Nat.le_of_ble_eq_true rfl) d_Reader_readChoice_8 ⟨Nat.le_of_ble_eq_true rfl, Nat.le_of_ble_eq_true rfl⟩) hP hN hS hA rfl rfl rfl (fun H locs hP hS => ?_)
      refine lv_if_ne (tgt := 16) hx hb d_Reader_readChoice_11 (by decide) (fun c12 => ?_) (fun c12 => ?_)
      · have h := ite_f c12 h
        refine lv_aload_n hx hb d_Reader_readChoice_16 rfl (lv_at hl 0 rfl) ?_
        obtain ⟨v14, o_15, o_16, hG13, h⟩ := bind3_some h
        refine bw_call (Lc := [wReader ct a0 (a1 0) o_9, wText ct a1 (a2 0) o_10]) (Lc' := [wReader ct a0 (a1 0) o_15, wText ct a1 (a2 0) o_16]) (L' := [wReader ct a0 (a1 0) o_15, wText ct a1 (a2 0) o_16, wSteps ct a2 o_11]) [0, 1] (va_runV (As := []) (rest := []) ⟨hx, hb, hml, hown, hts⟩ (c_Reader_passSign l ct dC dI a0 a1 (a2 0) _ o_9 o_10 v14 o_15 o_16 hG13) (cwV 0 hts g_Reader_110 rfl rfl rfl (by decide +kernel) ⟨Nat.le_of_ble_eq_true rfl, Nat.le_of_ble_eq_true rfl⟩) ⟨bw_blind nx_call, va_recv hK (hP 0 _ rfl) (ci := 3) (q0 := 0) rfl rfl, fun U hU hW => ⟨rfl, by rw [hU], by rw [hU]; exact hP.sub [0, 1] rfl, va_K.moved hW.alike hK, (hN.sub [0, 1] (by decide) rfl).weaken (fun _ _ => trivial), nx_warm hW hnx⟩⟩ rfl rfl hl.1 rfl (Nat.le_of_ble_eq_true rfl) d_Reader_readChoice_17 ⟨Nat.le_of_ble_eq_true rfl, Nat.le_of_ble_eq_true rfl⟩) hP hN hS hA rfl rfl rfl (fun H locs hP hS => ?_)
        refine lv_if_ne (tgt := 25) hx hb d_Reader_readChoice_20 (by decide) (fun c17 => ?_) (fun c17 => ?_)
        · have h := ite_f c17 h
          refine lv_aload_n hx hb d_Reader_readChoice_25 rfl (lv_at hl 0 rfl) ?_
          obtain ⟨v19, o_20, o_21, o_22, hG18, h⟩ := bind4_some h
          refine bw_call (Lc := [wReader ct a0 (a1 0) o_15, wText ct a1 (a2 0) o_16, wSteps ct a2 o_11]) (Lc' := [wReader ct a0 (a1 0) o_20, wText ct a1 (a2 0) o_21, wSteps ct a2 o_22]) (L' := [wReader ct a0 (a1 0) o_20, wText ct a1 (a2 0) o_21, wSteps ct a2 o_22]) [0, 1, 2] (va_runV (As := []) (rest := []) ⟨hx, hb, hml, hown, hts⟩ (c_Reader_readExpression l ct dC dI a0 a1 a2 _ o_15 o_16 o_11 v19 o_20 o_21 o_22 hG18) (cwV 0 hts g_Reader_107 rfl rfl rfl (by decide +kernel) ⟨Nat.le_of_ble_eq_true rfl, Nat.le_of_ble_eq_true rfl⟩) ⟨bw_blind nxs_call, va_recv hK (hP 0 _ rfl) (ci := 3) (q0 := 0) rfl rfl, fun U hU hW => ⟨rfl, by rw [hU], by rw [hU]; exact hP.sub [0, 1, 2] rfl, va_K.moved hW.alike hK, (hN.sub [0, 1, 2] (by decide) rfl).weaken (fun _ _ => trivial), ⟨nx_warm hW hnx, sx_call hsx hS hN hA [0, 1, 2] rfl hU hW⟩⟩⟩ rfl rfl hl.1 rfl (Nat.le_of_ble_eq_true rfl) d_Reader_readChoice_26 ⟨Nat.le_of_ble_eq_true rfl, Nat.le_of_ble_eq_true rfl⟩) hP hN hS hA rfl rfl rfl (fun H locs hP hS => ?_)
          refine lv_if_eq (tgt := 57) hx hb d_Reader_readChoice_29 (by decide) (fun c23 => ?_) (fun c23 => ?_)
          · have h := ite_t c23 h
            refine lv_iconst (v := 0) hx hb d_Reader_readChoice_57 (by decide) ?_
            obtain ⟨rfl, rfl, rfl, rfl⟩ := res4 h
            exact W.zret hx hb hr rfl (fun t ht hW => ⟨rfl, by rw [ht]; exact hP, hS.F ht⟩) hS.2.2 d_Reader_readChoice_58
          · have h := ite_f c23 h
            refine lv_aload_n hx hb d_Reader_readChoice_32 rfl (lv_at hl 0 rfl) ?_
            refine lv_bipush (v := 63) hx hb d_Reader_readChoice_33 (by decide) ?_
            obtain ⟨v25, o_26, hG24, h⟩ := bind2_some h
            refine bw_call (Lc := [wReader ct a0 (a1 0) o_20]) (Lc' := [wReader ct a0 (a1 0) o_26]) (L' := [wReader ct a0 (a1 0) o_26, wText ct a1 (a2 0) o_21, wSteps ct a2 o_22]) [0] (va_runV (As := [.int (63 : Int32)]) (rest := []) ⟨hx, hb, hml, hown, hts⟩ (c_Reader_pass l ct dC dI a0 (a1 0) _ (63 : Int32) o_20 v25 o_26 hG24) (cwV 1 hts g_Reader_62 rfl rfl rfl (by decide +kernel) ⟨Nat.le_of_ble_eq_true rfl, Nat.le_of_ble_eq_true rfl⟩) ⟨bw_blind nx_call, va_recv hK (hP 0 _ rfl) (ci := 3) (q0 := 0) rfl rfl, fun U hU hW => ⟨rfl, by rw [hU], by rw [hU]; exact hP.sub [0] rfl, va_K.moved hW.alike hK, (hN.sub [0] (by decide) rfl).weaken (fun _ _ => trivial), nx_warm hW hnx⟩⟩ rfl rfl hl.1 rfl (Nat.le_of_ble_eq_true rfl) d_Reader_readChoice_35 ⟨Nat.le_of_ble_eq_true rfl, Nat.le_of_ble_eq_true rfl⟩) hP hN hS hA rfl rfl rfl (fun H locs hP hS => ?_)
            refine lv_if_eq (tgt := 57) hx hb d_Reader_readChoice_38 (by decide) (fun c27 => ?_) (fun c27 => ?_)
            · have h := ite_t c27 h
              refine lv_iconst (v := 0) hx hb d_Reader_readChoice_57 (by decide) ?_
              obtain ⟨rfl, rfl, rfl, rfl⟩ := res4 h
              exact W.zret hx hb hr rfl (fun t ht hW => ⟨rfl, by rw [ht]; exact hP, hS.F ht⟩) hS.2.2 d_Reader_readChoice_58
            · have h := ite_f c27 h
              refine lv_aload_n hx hb d_Reader_readChoice_41 rfl (lv_at hl 0 rfl) ?_
              obtain ⟨v29, o_30, o_31, o_32, hG28, h⟩ := bind4_some h
              refine bw_call (Lc := [wReader ct a0 (a1 0) o_26, wText ct a1 (a2 0) o_21, wSteps ct a2 o_22]) (Lc' := [wReader ct a0 (a1 0) o_30, wText ct a1 (a2 0) o_31, wSteps ct a2 o_32]) (L' := [wReader ct a0 (a1 0) o_30, wText ct a1 (a2 0) o_31, wSteps ct a2 o_32]) [0, 1, 2] (va_runV (As := []) (rest := []) ⟨hx, hb, hml, hown, hts⟩ (c_Reader_readExpression l ct dC dI a0 a1 a2 _ o_26 o_21 o_22 v29 o_30 o_31 o_32 hG28) (cwV 0 hts g_Reader_107 rfl rfl rfl (by decide +kernel) ⟨Nat.le_of_ble_eq_true rfl, Nat.le_of_ble_eq_true rfl⟩) ⟨bw_blind nxs_call, va_recv hK (hP 0 _ rfl) (ci := 3) (q0 := 0) rfl rfl, fun U hU hW => ⟨rfl, by rw [hU], by rw [hU]; exact hP.sub [0, 1, 2] rfl, va_K.moved hW.alike hK, (hN.sub [0, 1, 2] (by decide) rfl).weaken (fun _ _ => trivial), ⟨nx_warm hW hnx, sx_call hsx hS hN hA [0, 1, 2] rfl hU hW⟩⟩⟩ rfl rfl hl.1 rfl (Nat.le_of_ble_eq_true rfl) d_Reader_readChoice_42 ⟨Nat.le_of_ble_eq_true rfl, Nat.le_of_ble_eq_true rfl⟩) hP hN hS hA rfl rfl rfl (fun H locs hP hS => ?_)
              refine lv_if_eq (tgt := 57) hx hb d_Reader_readChoice_45 (by decide) (fun c33 => ?_) (fun c33 => ?_)
              · have h := ite_t c33 h
                refine lv_iconst (v := 0) hx hb d_Reader_readChoice_57 (by decide) ?_
                obtain ⟨rfl, rfl, rfl, rfl⟩ := res4 h
                exact W.zret hx hb hr rfl (fun t ht hW => ⟨rfl, by rw [ht]; exact hP, hS.F ht⟩) hS.2.2 d_Reader_readChoice_58
              · have h := ite_f c33 h
                refine lv_aload_n hx hb d_Reader_readChoice_48 rfl (lv_at hl 0 rfl) ?_
                refine lv_bipush (v := 58) hx hb d_Reader_readChoice_49 (by decide) ?_
                obtain ⟨v35, o_36, hG34, h⟩ := bind2_some h
                refine bw_call (Lc := [wReader ct a0 (a1 0) o_30]) (Lc' := [wReader ct a0 (a1 0) o_36]) (L' := [wReader ct a0 (a1 0) o_36, wText ct a1 (a2 0) o_31, wSteps ct a2 o_32]) [0] (va_runV (As := [.int (58 : Int32)]) (rest := []) ⟨hx, hb, hml, hown, hts⟩ (c_Reader_pass l ct dC dI a0 (a1 0) _ (58 : Int32) o_30 v35 o_36 hG34) (cwV 1 hts g_Reader_62 rfl rfl rfl (by decide +kernel) ⟨Nat.le_of_ble_eq_true rfl, Nat.le_of_ble_eq_true rfl⟩) ⟨bw_blind nx_call, va_recv hK (hP 0 _ rfl) (ci := 3) (q0 := 0) rfl rfl, fun U hU hW => ⟨rfl, by rw [hU], by rw [hU]; exact hP.sub [0] rfl, va_K.moved hW.alike hK, (hN.sub [0] (by decide) rfl).weaken (fun _ _ => trivial), nx_warm hW hnx⟩⟩ rfl rfl hl.1 rfl (Nat.le_of_ble_eq_true rfl) d_Reader_readChoice_51 ⟨Nat.le_of_ble_eq_true rfl, Nat.le_of_ble_eq_true rfl⟩) hP hN hS hA rfl rfl rfl (fun H locs hP hS => ?_)
                refine lv_if_ne (tgt := 59) hx hb d_Reader_readChoice_54 (by decide) (fun c37 => ?_) (fun c37 => ?_)
                · have h := ite_f c37 h
                  refine lv_iinc (v := (x1 + (1 : Int32))) (lv' := [(1, .int (x1 + (1 : Int32))), (0, .ref (a0 0))]) hx hb d_Reader_readChoice_59 hl (k := 1) rfl rfl (by decide) rfl (fun ls hl => ?_)
                  refine lv_goto (tgt := 2) hx hb d_Reader_readChoice_62 (by decide) ?_
                  exact ih (x1 + (1 : Int32)) o_36 o_31 o_32 _ _ _ hP hS (lv_sub hl [1, 0] rfl) h
                · have h := ite_t c37 h
                  refine lv_iconst (v := 0) hx hb d_Reader_readChoice_57 (by decide) ?_
                  obtain ⟨rfl, rfl, rfl, rfl⟩ := res4 h
                  exact W.zret hx hb hr rfl (fun t ht hW => ⟨rfl, by rw [ht]; exact hP, hS.F ht⟩) hS.2.2 d_Reader_readChoice_58
        · have h := ite_t c17 h
          refine lv_iconst (v := 1) hx hb d_Reader_readChoice_23 (by decide) ?_
          obtain ⟨rfl, rfl, rfl, rfl⟩ := res4 h
          exact W.zret hx hb hr rfl (fun t ht hW => ⟨rfl, by rw [ht]; exact hP, hS.F ht⟩) hS.2.2 d_Reader_readChoice_24
      · have h := ite_t c12 h
        refine lv_iconst (v := 0) hx hb d_Reader_readChoice_14 (by decide) ?_
        obtain ⟨rfl, rfl, rfl, rfl⟩ := res4 h
        exact W.zret hx hb hr rfl (fun t ht hW => ⟨rfl, by rw [ht]; exact hP, hS.F ht⟩) hS.2.2 d_Reader_readChoice_15
set_option maxHeartbeats 4000000 in
set_option maxRecDepth 100000 in
theorem c_Reader_readChoice (l : Launch) (ct dC : Nat → ClassId) (dI : Nat → Nat → Nat) (a0 a1 a2 : Nat → Nat)  (sz : Nat)  (o0 o1 o2 : Ob) (r : Bool) (n0 n1 n2 : Ob) (hF : F_Reader_readChoice o0 o1 o2 = some (r, n0, n1, n2)) : Met l y_Reader_readChoice ws_Reader_readChoice rm_Reader_readChoice (bw_Pc [.ref (a0 0)] (dC, dI) vwCl (tyA ct) [wReader ct a0 (a1 0) o0, wText ct a1 (a2 0) o1, wSteps ct a2 o2] sz (nxs (bw_A [adReader a0, adText a1, adSteps a2] sz))) (bw_Q (dC, dI) vwCl (some (.int (b2i r))) [wReader ct a0 (a1 0) n0, wText ct a1 (a2 0) n1, wSteps ct a2 n2] (bw_A [adReader a0, adText a1, adSteps a2] sz)) 0 0 (bw_A [adReader a0, adText a1, adSteps a2] sz) := by
  refine Met.ofW (cc := b_Reader_readChoice) (maxL := 2) (ret := (some .boolean)) (by decide) rfl ?_
  intro p e s m args below meth c s₁ B hml hv
  obtain ⟨rfl, hsz, hP, hK, hN0, hnx, hsx⟩ := hv
  have hx := B.exec
  have hb := B.bytes
  have hr := B.returns
  have hts : ∀ w ∈ wsAll, w.before [.ref (a0 0)].toArray s = true := fun w h9 => atoms_spec (ws := ws_Reader_readChoice) B.pre w (List.mem_cons_of_mem _ h9)
  have hown : s.vm.findClass R_Reader = some m.cls := findClass_of_methodNamed B.named
  have hlocks := B.notSynchronized
  subst hsz
  have hN : bw_N (bw_A [adReader a0, adText a1, adSteps a2] s.heap.size) [adReader a0, adText a1, adSteps a2] := hN0.self s.heap.size
  generalize hAe : bw_A [adReader a0, adText a1, adSteps a2] s.heap.size = A at hsx hN ⊢
  have hA : ∀ q : Nat, s.heap.size ≤ q → A q := fun q h => by rw [← hAe]; exact Or.inr h
  have hS : va_S A s.heap s.heap [] := va_S.rf
  have hl := lv_entry ([.ref (a0 0)]) (n := 2) (Nat.le_of_ble_eq_true rfl)
  rw [lg_entry_eq]
  generalize (lg_sl ([.ref (a0 0)]) ++ List.replicate (2 - (lg_sl ([.ref (a0 0)])).length) Slot.unset).toArray = ls at hl ⊢
  have hl : lv_has ls 2 [(0, .ref (a0 0))] := hl
  have C0 : cx wsAll vwCl (nxs A) p s m [.ref (a0 0)].toArray meth c (dC, dI) (tyA ct) b_Reader_readChoice 2 (some .boolean) R_Reader A [adReader a0, adText a1, adSteps a2] := ⟨hx, hb, hr, hml, hown, hlocks, hts, hK, hN, hA, hnx, hsx⟩
  have h := hF
  rw [F_Reader_readChoice] at h
  refine lv_iconst (v := 0) hx hb d_Reader_readChoice_0 (by decide) ?_
  refine lv_istore_n (lv' := [(1, .int (0 : Int32)), (0, .ref (a0 0))]) hx hb d_Reader_readChoice_1 rfl hl (by decide) rfl (fun ls hl => ?_)
  exact k_Reader_readChoice_2 C0 fuel (0 : Int32) o0 o1 o2 _ _ _ hP hS (lv_sub hl [1, 0] rfl) h
theorem g_Reader_82 : GoodIn wsAll (wsV R_Reader 82 R_Text y_Text_openStatement ws_Text_openStatement) := gd_V ml_Reader_82 im_Text_openStatement se_Text_openStatement ini_Text cd_Text_openStatement
theorem g_Reader_96 : GoodIn wsAll (wsV R_Reader 96 R_Reader y_Reader_readChoice ws_Reader_readChoice) := gd_V ml_Reader_96 im_Reader_readChoice se_Reader_readChoice ini_Reader cd_Reader_readChoice
theorem g_Reader_86 : GoodIn wsAll (wsV R_Reader 86 R_Reader y_Reader_readCondition ws_Reader_readCondition) := gd_V ml_Reader_86 im_Reader_readCondition se_Reader_readCondition ini_Reader cd_Reader_readCondition
def F_Reader_readStatement  (o0 o1 o2 : Ob) : Option (Bool × Ob × Ob × Ob) :=
  bind2 (F_Reader_pass (33 : Int32) o0) (fun v2 o_3 => if (b2i v2) = 0 then (bind2 (F_Reader_readCellName o_3) (fun v6 o_7 => if v6 = (-1 : Int32) then (some (false, o_7, o1, o2)) else (chk (inb v6 60) (if (g32 o1 7 (Int32.toNatClampNeg v6)) = (-1 : Int32) then (bind2 (F_Reader_pass (61 : Int32) o_7) (fun v12 o_13 => if (b2i v12) = 0 then (some (false, o_13, o1, o2)) else (bind1 (F_Text_openStatement v6 o1 o2) (fun o_16 => bind4 (F_Reader_readChoice o_13 o_16 o2) (fun v18 o_19 o_20 o_21 => some (v18, o_19, o_20, o_21)))))) else (some (false, (s32 o_7 3 0 (g32 o_3 3 0)), o1, o2)))))) else (bind1 (F_Text_openStatement (-1 : Int32) o1 o2) (fun o_23 => bind4 (F_Reader_readCondition o_3 o_23 o2) (fun v25 o_26 o_27 o_28 => some (v25, o_26, o_27, o_28)))))
abbrev ws_Reader_readStatement : List Cond := Cond.code y_Reader_readStatement b_Reader_readStatement 3 (some .boolean) :: wsAll
abbrev rm_Reader_readStatement : Room := { frames := 8, cells := 0, slots := 0, locals := 262 }
set_option maxHeartbeats 4000000 in
set_option maxRecDepth 100000 in
theorem c_Reader_readStatement (l : Launch) (ct dC : Nat → ClassId) (dI : Nat → Nat → Nat) (a0 a1 a2 : Nat → Nat)  (sz : Nat)  (o0 o1 o2 : Ob) (r : Bool) (n0 n1 n2 : Ob) (hF : F_Reader_readStatement o0 o1 o2 = some (r, n0, n1, n2)) : Met l y_Reader_readStatement ws_Reader_readStatement rm_Reader_readStatement (bw_Pc [.ref (a0 0)] (dC, dI) vwCl (tyA ct) [wReader ct a0 (a1 0) o0, wText ct a1 (a2 0) o1, wSteps ct a2 o2] sz (nxs (bw_A [adReader a0, adText a1, adSteps a2] sz))) (bw_Q (dC, dI) vwCl (some (.int (b2i r))) [wReader ct a0 (a1 0) n0, wText ct a1 (a2 0) n1, wSteps ct a2 n2] (bw_A [adReader a0, adText a1, adSteps a2] sz)) 0 0 (bw_A [adReader a0, adText a1, adSteps a2] sz) := by
  refine Met.ofW (cc := b_Reader_readStatement) (maxL := 3) (ret := (some .boolean)) (by decide) rfl ?_
  intro p e s m args below meth c s₁ B hml hv
  obtain ⟨rfl, hsz, hP, hK, hN0, hnx, hsx⟩ := hv
  have hx := B.exec
  have hb := B.bytes
  have hr := B.returns
  have hts : ∀ w ∈ wsAll, w.before [.ref (a0 0)].toArray s = true := fun w h9 => atoms_spec (ws := ws_Reader_readStatement) B.pre w (List.mem_cons_of_mem _ h9)
  have hown : s.vm.findClass R_Reader = some m.cls := findClass_of_methodNamed B.named
  have hlocks := B.notSynchronized
  subst hsz
  have hN : bw_N (bw_A [adReader a0, adText a1, adSteps a2] s.heap.size) [adReader a0, adText a1, adSteps a2] := hN0.self s.heap.size
  generalize hAe : bw_A [adReader a0, adText a1, adSteps a2] s.heap.size = A at hsx hN ⊢
  have hA : ∀ q : Nat, s.heap.size ≤ q → A q := fun q h => by rw [← hAe]; exact Or.inr h
  have hS : va_S A s.heap s.heap [] := va_S.rf
  have hl := lv_entry ([.ref (a0 0)]) (n := 3) (Nat.le_of_ble_eq_true rfl)
  rw [lg_entry_eq]
  generalize (lg_sl ([.ref (a0 0)]) ++ List.replicate (3 - (lg_sl ([.ref (a0 0)])).length) Slot.unset).toArray = ls at hl ⊢
  have hl : lv_has ls 3 [(0, .ref (a0 0))] := hl
  have C0 : cx wsAll vwCl (nxs A) p s m [.ref (a0 0)].toArray meth c (dC, dI) (tyA ct) b_Reader_readStatement 3 (some .boolean) R_Reader A [adReader a0, adText a1, adSteps a2] := ⟨hx, hb, hr, hml, hown, hlocks, hts, hK, hN, hA, hnx, hsx⟩
  have h := hF
  rw [F_Reader_readStatement] at h
  refine lv_aload_n hx hb d_Reader_readStatement_0 rfl (lv_at hl 0 rfl) ?_
  refine lv_bipush (v := 33) hx hb d_Reader_readStatement_1 (by decide) ?_
  obtain ⟨v2, o_3, hG1, h⟩ := bind2_some h
  refine bw_call (Lc := [wReader ct a0 (a1 0) o0]) (Lc' := [wReader ct a0 (a1 0) o_3]) (L' := [wReader ct a0 (a1 0) o_3, wText ct a1 (a2 0) o1, wSteps ct a2 o2]) [0] (va_runV (As := [.int (33 : Int32)]) (rest := []) ⟨hx, hb, hml, hown, hts⟩ (c_Reader_pass l ct dC dI a0 (a1 0) _ (33 : Int32) o0 v2 o_3 hG1) (cwV 1 hts g_Reader_62 rfl rfl rfl (by decide +kernel) ⟨Nat.le_of_ble_eq_true rfl, Nat.le_of_ble_eq_true rfl⟩) ⟨bw_blind nx_call, va_recv hK (hP 0 _ rfl) (ci := 3) (q0 := 0) rfl rfl, fun U hU hW => ⟨rfl, by rw [hU], by rw [hU]; exact hP.sub [0] rfl, va_K.moved hW.alike hK, (hN.sub [0] (by decide) rfl).weaken (fun _ _ => trivial), nx_warm hW hnx⟩⟩ rfl rfl hl.1 rfl (Nat.le_of_ble_eq_true rfl) d_Reader_readStatement_3 ⟨Nat.le_of_ble_eq_true rfl, Nat.le_of_ble_eq_true rfl⟩) hP hN hS hA rfl rfl rfl (fun H locs hP hS => ?_)
  refine lv_if_eq (tgt := 22) hx hb d_Reader_readStatement_6 (by decide) (fun c4 => ?_) (fun c4 => ?_)
  · have h := ite_t c4 h
    refine lv_aload_n hx hb d_Reader_readStatement_22 rfl (lv_at hl 0 rfl) ?_
    refine va_get (D := (dC, dI)) (ci := 3) (v := .int (g32 o_3 3 0)) (C := R_Reader) (T := T_Reader) (N := 12) hx hb hts in_Reader hown hK (hP 0 _ rfl) 0 rfl rfl 3 (by decide) (hts _ fl_Reader_23) (fun _ h9 => h9) rfl d_Reader_readStatement_23 ?_
    refine lv_istore_n (lv' := [(1, .int (g32 o_3 3 0)), (0, .ref (a0 0))]) hx hb d_Reader_readStatement_26 rfl hl (by decide) rfl (fun ls hl => ?_)
    refine lv_aload_n hx hb d_Reader_readStatement_27 rfl (lv_at hl 1 rfl) ?_
    obtain ⟨v6, o_7, hG5, h⟩ := bind2_some h
    refine bw_call (Lc := [wReader ct a0 (a1 0) o_3]) (Lc' := [wReader ct a0 (a1 0) o_7]) (L' := [wReader ct a0 (a1 0) o_7, wText ct a1 (a2 0) o1, wSteps ct a2 o2]) [0] (va_runV (As := []) (rest := []) ⟨hx, hb, hml, hown, hts⟩ (c_Reader_readCellName l ct dC dI a0 (a1 0) _ o_3 v6 o_7 hG5) (cwV 0 hts g_Reader_89 rfl rfl rfl (by decide +kernel) ⟨Nat.le_of_ble_eq_true rfl, Nat.le_of_ble_eq_true rfl⟩) ⟨bw_blind nxs_call, va_recv hK (hP 0 _ rfl) (ci := 3) (q0 := 0) rfl rfl, fun U hU hW => ⟨rfl, by rw [hU], by rw [hU]; exact hP.sub [0] rfl, va_K.moved hW.alike hK, (hN.sub [0] (by decide) rfl).weaken (fun _ _ => trivial), ⟨nx_warm hW hnx, sx_call hsx hS hN hA [0] rfl hU hW⟩⟩⟩ rfl rfl hl.1 rfl (Nat.le_of_ble_eq_true rfl) d_Reader_readStatement_28 ⟨Nat.le_of_ble_eq_true rfl, Nat.le_of_ble_eq_true rfl⟩) hP hN hS hA rfl rfl rfl (fun H locs hP hS => ?_)
    refine lv_istore_n (lv' := [(2, .int v6), (1, .int (g32 o_3 3 0)), (0, .ref (a0 0))]) hx hb d_Reader_readStatement_31 rfl hl (by decide) rfl (fun ls hl => ?_)
    refine lv_iload_n hx hb d_Reader_readStatement_32 rfl (lv_at hl 0 rfl) ?_
    refine lv_iconst (v := -1) hx hb d_Reader_readStatement_33 (by decide) ?_
    refine lv_icmp_ne (tgt := 39) hx hb d_Reader_readStatement_34 (by decide) (fun c8 => ?_) (fun c8 => ?_)
    · have h := ite_f c8 h
      refine lv_aload_n hx hb d_Reader_readStatement_39 rfl (lv_at hl 2 rfl) ?_
      refine va_get (D := (dC, dI)) (ci := 3) (v := .ref (a1 0)) (C := R_Reader) (T := T_Reader) (N := 12) hx hb hts in_Reader hown hK (hP 0 _ rfl) 0 rfl rfl 4 (by decide) (hts _ fl_Reader_29) (fun _ h9 => h9) rfl d_Reader_readStatement_40 ?_
      refine va_get (D := (dC, dI)) (ci := 2) (v := .ref (a1 5)) (C := R_Text) (T := T_Text) (N := 12) hx hb hts in_Text hown hK (hP 1 _ rfl) 0 rfl rfl 7 (by decide) (hts _ fl_Reader_93) (fun _ h9 => h9) rfl d_Reader_readStatement_43 ?_
      refine lv_iload_n hx hb d_Reader_readStatement_46 rfl (lv_at hl 0 rfl) ?_
      obtain ⟨hi9, h⟩ := chk_some h
      refine va_iald (f := g32 o1 7) hx hb hK (hP 1 _ rfl) 5 0 rfl rfl (inb_in hi9) d_Reader_readStatement_47 ?_
      refine lv_iconst (v := -1) hx hb d_Reader_readStatement_48 (by decide) ?_
      refine lv_icmp_eq (tgt := 59) hx hb d_Reader_readStatement_49 (by decide) (fun c10 => ?_) (fun c10 => ?_)
      · have h := ite_t c10 h
        refine lv_aload_n hx hb d_Reader_readStatement_59 rfl (lv_at hl 2 rfl) ?_
        refine lv_bipush (v := 61) hx hb d_Reader_readStatement_60 (by decide) ?_
        obtain ⟨v12, o_13, hG11, h⟩ := bind2_some h
        refine bw_call (Lc := [wReader ct a0 (a1 0) o_7]) (Lc' := [wReader ct a0 (a1 0) o_13]) (L' := [wReader ct a0 (a1 0) o_13, wText ct a1 (a2 0) o1, wSteps ct a2 o2]) [0] (va_runV (As := [.int (61 : Int32)]) (rest := []) ⟨hx, hb, hml, hown, hts⟩ (c_Reader_pass l ct dC dI a0 (a1 0) _ (61 : Int32) o_7 v12 o_13 hG11) (cwV 1 hts g_Reader_62 rfl rfl rfl (by decide +kernel) ⟨Nat.le_of_ble_eq_true rfl, Nat.le_of_ble_eq_true rfl⟩) ⟨bw_blind nx_call, va_recv hK (hP 0 _ rfl) (ci := 3) (q0 := 0) rfl rfl, fun U hU hW => ⟨rfl, by rw [hU], by rw [hU]; exact hP.sub [0] rfl, va_K.moved hW.alike hK, (hN.sub [0] (by decide) rfl).weaken (fun _ _ => trivial), nx_warm hW hnx⟩⟩ rfl rfl hl.1 rfl (Nat.le_of_ble_eq_true rfl) d_Reader_readStatement_62 ⟨Nat.le_of_ble_eq_true rfl, Nat.le_of_ble_eq_true rfl⟩) hP hN hS hA rfl rfl rfl (fun H locs hP hS => ?_)
        refine lv_if_ne (tgt := 70) hx hb d_Reader_readStatement_65 (by decide) (fun c14 => ?_) (fun c14 => ?_)
        · have h := ite_f c14 h
          refine lv_aload_n hx hb d_Reader_readStatement_70 rfl (lv_at hl 2 rfl) ?_
          refine va_get (D := (dC, dI)) (ci := 3) (v := .ref (a1 0)) (C := R_Reader) (T := T_Reader) (N := 12) hx hb hts in_Reader hown hK (hP 0 _ rfl) 0 rfl rfl 4 (by decide) (hts _ fl_Reader_29) (fun _ h9 => h9) rfl d_Reader_readStatement_71 ?_
          refine lv_iload_n hx hb d_Reader_readStatement_74 rfl (lv_at hl 0 rfl) ?_
          obtain ⟨o_16, hG15, h⟩ := bind1_some h
          refine bw_call (Lc := [wText ct a1 (a2 0) o1, wSteps ct a2 o2]) (Lc' := [wText ct a1 (a2 0) o_16, wSteps ct a2 o2]) (L' := [wReader ct a0 (a1 0) o_13, wText ct a1 (a2 0) o_16, wSteps ct a2 o2]) [1, 2] (va_runV (As := [.int v6]) (rest := []) ⟨hx, hb, hml, hown, hts⟩ (c_Text_openStatement l ct dC dI a1 a2 _ v6 o1 o2 o_16 hG15) (cwV 1 hts g_Reader_82 rfl rfl rfl (by decide +kernel) ⟨Nat.le_of_ble_eq_true rfl, Nat.le_of_ble_eq_true rfl⟩) ⟨bw_blind nx_call, va_recv hK (hP 1 _ rfl) (ci := 2) (q0 := 0) rfl rfl, fun U hU hW => ⟨rfl, by rw [hU], by rw [hU]; exact hP.sub [1, 2] rfl, va_K.moved hW.alike hK, (hN.sub [1, 2] (by decide) rfl).weaken (fun _ _ => trivial), nx_warm hW hnx⟩⟩ rfl rfl hl.1 rfl (Nat.le_of_ble_eq_true rfl) d_Reader_readStatement_75 ⟨Nat.le_of_ble_eq_true rfl, Nat.le_of_ble_eq_true rfl⟩) hP hN hS hA rfl rfl rfl (fun H locs hP hS => ?_)
          refine lv_aload_n hx hb d_Reader_readStatement_78 rfl (lv_at hl 2 rfl) ?_
          obtain ⟨v18, o_19, o_20, o_21, hG17, h⟩ := bind4_some h
          refine bw_call (Lc := [wReader ct a0 (a1 0) o_13, wText ct a1 (a2 0) o_16, wSteps ct a2 o2]) (Lc' := [wReader ct a0 (a1 0) o_19, wText ct a1 (a2 0) o_20, wSteps ct a2 o_21]) (L' := [wReader ct a0 (a1 0) o_19, wText ct a1 (a2 0) o_20, wSteps ct a2 o_21]) [0, 1, 2] (va_runV (As := []) (rest := []) ⟨hx, hb, hml, hown, hts⟩ (c_Reader_readChoice l ct dC dI a0 a1 a2 _ o_13 o_16 o2 v18 o_19 o_20 o_21 hG17) (cwV 0 hts g_Reader_96 rfl rfl rfl (by decide +kernel) ⟨Nat.le_of_ble_eq_true rfl, Nat.le_of_ble_eq_true rfl⟩) ⟨bw_blind nxs_call, va_recv hK (hP 0 _ rfl) (ci := 3) (q0 := 0) rfl rfl, fun U hU hW => ⟨rfl, by rw [hU], by rw [hU]; exact hP.sub [0, 1, 2] rfl, va_K.moved hW.alike hK, (hN.sub [0, 1, 2] (by decide) rfl).weaken (fun _ _ => trivial), ⟨nx_warm hW hnx, sx_call hsx hS hN hA [0, 1, 2] rfl hU hW⟩⟩⟩ rfl rfl hl.1 rfl (Nat.le_of_ble_eq_true rfl) d_Reader_readStatement_79 ⟨Nat.le_of_ble_eq_true rfl, Nat.le_of_ble_eq_true rfl⟩) hP hN hS hA rfl rfl rfl (fun H locs hP hS => ?_)
          obtain ⟨rfl, rfl, rfl, rfl⟩ := res4 h
          exact W.zret hx hb hr (b2i_nar _) (fun t ht hW => ⟨rfl, by rw [ht]; exact hP, hS.F ht⟩) hS.2.2 d_Reader_readStatement_82
        · have h := ite_t c14 h
          refine lv_iconst (v := 0) hx hb d_Reader_readStatement_68 (by decide) ?_
          obtain ⟨rfl, rfl, rfl, rfl⟩ := res4 h
          exact W.zret hx hb hr rfl (fun t ht hW => ⟨rfl, by rw [ht]; exact hP, hS.F ht⟩) hS.2.2 d_Reader_readStatement_69
      · have h := ite_f c10 h
        refine lv_aload_n hx hb d_Reader_readStatement_52 rfl (lv_at hl 2 rfl) ?_
        refine lv_iload_n hx hb d_Reader_readStatement_53 rfl (lv_at hl 1 rfl) ?_
        refine pt_Reader_3 hx hb hts hown hK hP hN hS 0 rfl (hts _ fl_Reader_23) d_Reader_readStatement_54 (fun H locs hP hS => ?_)
        have hP : bw_P (dC, dI) vwCl [wReader ct a0 (a1 0) (s32 o_7 3 0 (g32 o_3 3 0)), wText ct a1 (a2 0) o1, wSteps ct a2 o2] H := hP
        refine lv_iconst (v := 0) hx hb d_Reader_readStatement_57 (by decide) ?_
        obtain ⟨rfl, rfl, rfl, rfl⟩ := res4 h
        exact W.zret hx hb hr rfl (fun t ht hW => ⟨rfl, by rw [ht]; exact hP, hS.F ht⟩) hS.2.2 d_Reader_readStatement_58
    · have h := ite_t c8 h
      refine lv_iconst (v := 0) hx hb d_Reader_readStatement_37 (by decide) ?_
      obtain ⟨rfl, rfl, rfl, rfl⟩ := res4 h
      exact W.zret hx hb hr rfl (fun t ht hW => ⟨rfl, by rw [ht]; exact hP, hS.F ht⟩) hS.2.2 d_Reader_readStatement_38
  · have h := ite_f c4 h
    refine lv_aload_n hx hb d_Reader_readStatement_9 rfl (lv_at hl 0 rfl) ?_
    refine va_get (D := (dC, dI)) (ci := 3) (v := .ref (a1 0)) (C := R_Reader) (T := T_Reader) (N := 12) hx hb hts in_Reader hown hK (hP 0 _ rfl) 0 rfl rfl 4 (by decide) (hts _ fl_Reader_29) (fun _ h9 => h9) rfl d_Reader_readStatement_10 ?_
    refine lv_iconst (v := -1) hx hb d_Reader_readStatement_13 (by decide) ?_
    obtain ⟨o_23, hG22, h⟩ := bind1_some h
    refine bw_call (Lc := [wText ct a1 (a2 0) o1, wSteps ct a2 o2]) (Lc' := [wText ct a1 (a2 0) o_23, wSteps ct a2 o2]) (L' := [wReader ct a0 (a1 0) o_3, wText ct a1 (a2 0) o_23, wSteps ct a2 o2]) [1, 2] (va_runV (As := [.int (-1 : Int32)]) (rest := []) ⟨hx, hb, hml, hown, hts⟩ (c_Text_openStatement l ct dC dI a1 a2 _ (-1 : Int32) o1 o2 o_23 hG22) (cwV 1 hts g_Reader_82 rfl rfl rfl (by decide +kernel) ⟨Nat.le_of_ble_eq_true rfl, Nat.le_of_ble_eq_true rfl⟩) ⟨bw_blind nx_call, va_recv hK (hP 1 _ rfl) (ci := 2) (q0 := 0) rfl rfl, fun U hU hW => ⟨rfl, by rw [hU], by rw [hU]; exact hP.sub [1, 2] rfl, va_K.moved hW.alike hK, (hN.sub [1, 2] (by decide) rfl).weaken (fun _ _ => trivial), nx_warm hW hnx⟩⟩ rfl rfl hl.1 rfl (Nat.le_of_ble_eq_true rfl) d_Reader_readStatement_14 ⟨Nat.le_of_ble_eq_true rfl, Nat.le_of_ble_eq_true rfl⟩) hP hN hS hA rfl rfl rfl (fun H locs hP hS => ?_)
    refine lv_aload_n hx hb d_Reader_readStatement_17 rfl (lv_at hl 0 rfl) ?_
    obtain ⟨v25, o_26, o_27, o_28, hG24, h⟩ := bind4_some h
    refine bw_call (Lc := [wReader ct a0 (a1 0) o_3, wText ct a1 (a2 0) o_23, wSteps ct a2 o2]) (Lc' := [wReader ct a0 (a1 0) o_26, wText ct a1 (a2 0) o_27, wSteps ct a2 o_28]) (L' := [wReader ct a0 (a1 0) o_26, wText ct a1 (a2 0) o_27, wSteps ct a2 o_28]) [0, 1, 2] (va_runV (As := []) (rest := []) ⟨hx, hb, hml, hown, hts⟩ (c_Reader_readCondition l ct dC dI a0 a1 a2 _ o_3 o_23 o2 v25 o_26 o_27 o_28 hG24) (cwV 0 hts g_Reader_86 rfl rfl rfl (by decide +kernel) ⟨Nat.le_of_ble_eq_true rfl, Nat.le_of_ble_eq_true rfl⟩) ⟨bw_blind nxs_call, va_recv hK (hP 0 _ rfl) (ci := 3) (q0 := 0) rfl rfl, fun U hU hW => ⟨rfl, by rw [hU], by rw [hU]; exact hP.sub [0, 1, 2] rfl, va_K.moved hW.alike hK, (hN.sub [0, 1, 2] (by decide) rfl).weaken (fun _ _ => trivial), ⟨nx_warm hW hnx, sx_call hsx hS hN hA [0, 1, 2] rfl hU hW⟩⟩⟩ rfl rfl hl.1 rfl (Nat.le_of_ble_eq_true rfl) d_Reader_readStatement_18 ⟨Nat.le_of_ble_eq_true rfl, Nat.le_of_ble_eq_true rfl⟩) hP hN hS hA rfl rfl rfl (fun H locs hP hS => ?_)
    obtain ⟨rfl, rfl, rfl, rfl⟩ := res4 h
    exact W.zret hx hb hr (b2i_nar _) (fun t ht hW => ⟨rfl, by rw [ht]; exact hP, hS.F ht⟩) hS.2.2 d_Reader_readStatement_21
theorem g_Reader_55 : GoodIn wsAll (wsV R_Reader 55 R_Text y_Text_clear ws_Text_clear) := gd_V ml_Reader_55 im_Text_clear se_Text_clear ini_Text cd_Text_clear
theorem g_Reader_58 : GoodIn wsAll (wsV R_Reader 58 R_Reader y_Reader_readStatement ws_Reader_readStatement) := gd_V ml_Reader_58 im_Reader_readStatement se_Reader_readStatement ini_Reader cd_Reader_readStatement
theorem g_Reader_66 : GoodIn wsAll (wsV R_Reader 66 R_Text y_Text_followNeeds ws_Text_followNeeds) := gd_V ml_Reader_66 im_Text_followNeeds se_Text_followNeeds ini_Text cd_Text_followNeeds
theorem g_Reader_69 : GoodIn wsAll (wsV R_Reader 69 R_Text y_Text_findOrder ws_Text_findOrder) := gd_V ml_Reader_69 im_Text_findOrder se_Text_findOrder ini_Text cd_Text_findOrder
theorem g_Reader_72 : GoodIn wsAll (wsV R_Reader 72 R_Reader y_Reader_print ws_Reader_print) := gd_V ml_Reader_72 im_Reader_print se_Reader_print ini_Reader cd_Reader_print
def F_Reader_readCollected_92  (x1 : Int32) (o0 o1 o2 : Ob) : Option (Int32 × Ob × Ob × Ob) :=
  if x1 = 0 then (some (((-1 : Int32) - (g32 o0 3 0)), (s32 o0 2 0 (0 : Int32)), o1, o2)) else (some ((g32 o1 3 0), (s32 o0 2 0 (0 : Int32)), o1, o2))
def F_Reader_readCollected_49  (x1 : Int32) (o0 o1 o2 : Ob) : Option (Int32 × Ob × Ob × Ob) :=
  if x1 = 0 then (if (0 : Int32) = 0 then (F_Reader_readCollected_92 (0 : Int32) o0 o1 o2) else (bind1 (F_Text_followNeeds o1) (fun o_23 => bind1 (F_Text_findOrder o_23) (fun o_25 => bind1 (F_Reader_print o0 o_25) (fun o_27 => F_Reader_readCollected_92 (0 : Int32) o0 o_27 o2))))) else (if (g32 o0 3 0) = (g32 o0 2 0) then (if (1 : Int32) = 0 then (F_Reader_readCollected_92 (1 : Int32) o0 o1 o2) else (bind1 (F_Text_followNeeds o1) (fun o_38 => bind1 (F_Text_findOrder o_38) (fun o_40 => bind1 (F_Reader_print o0 o_40) (fun o_42 => F_Reader_readCollected_92 (1 : Int32) o0 o_42 o2))))) else (if (0 : Int32) = 0 then (F_Reader_readCollected_92 (0 : Int32) o0 o1 o2) else (bind1 (F_Text_followNeeds o1) (fun o_31 => bind1 (F_Text_findOrder o_31) (fun o_33 => bind1 (F_Reader_print o0 o_33) (fun o_35 => F_Reader_readCollected_92 (0 : Int32) o0 o_35 o2))))))
def F_Reader_readCollected_19  : Nat → Int32 → Int32 → Ob → Ob → Ob → Option (Int32 × Ob × Ob × Ob)
  | 0, _, _, _, _, _ => none
  | n + 1, x1, x2, o0, o1, o2 =>
    if (24 : Int32) ≤ x2 then (F_Reader_readCollected_49 x1 o0 o1 o2) else (if x1 = 0 then (F_Reader_readCollected_49 x1 o0 o1 o2) else (bind2 (F_Reader_pass (59 : Int32) o0) (fun v12 o_13 => if (b2i v12) = 0 then (F_Reader_readCollected_49 x1 o_13 o1 o2) else (bind4 (F_Reader_readStatement o_13 o1 o2) (fun v16 o_17 o_18 o_19 => F_Reader_readCollected_19 n (b2i v16) (x2 + (1 : Int32)) o_17 o_18 o_19)))))
def F_Reader_readCollected  (o0 o1 o2 : Ob) : Option (Int32 × Ob × Ob × Ob) :=
  bind2 (F_Text_clear o1 o2) (fun o_2 o_3 => bind4 (F_Reader_readStatement (s32 o0 3 0 (0 : Int32)) o_2 o_3) (fun v5 o_6 o_7 o_8 => F_Reader_readCollected_19 fuel (b2i v5) (1 : Int32) o_6 o_7 o_8))
abbrev ws_Reader_readCollected : List Cond := Cond.code y_Reader_readCollected b_Reader_readCollected 3 (some .int) :: wsAll
abbrev rm_Reader_readCollected : Room := { frames := 9, cells := 0, slots := 0, locals := 284 }
set_option maxHeartbeats 4000000 in
set_option maxRecDepth 100000 in
theorem k_Reader_readCollected_92 {p : Program} {l : Launch} {e : Env} {s : State} {m : MethodId} {args : Array Value} {below : List Frame} {meth : Method} {c : Code} {A : Nat → Prop} {ct dC : Nat → ClassId} {dI : Nat → Nat → Nat} {a0 a1 a2 : Nat → Nat}  {r : Int32} {n0 n1 n2 : Ob}   (C0 : cx wsAll vwCl (nxs A) p s m args meth c (dC, dI) (tyA ct) b_Reader_readCollected 3 (some .int) R_Reader A [adReader a0, adText a1, adSteps a2])  : ∀ (x1 : Int32) (o0 o1 o2 : Ob) (H : Heap) (locs : List Loc) (ls : Array Slot), bw_P (dC, dI) vwCl [wReader ct a0 (a1 0) o0, wText ct a1 (a2 0) o1, wSteps ct a2 o2] H → va_S A s.heap H locs → lv_has ls 3 [(0, .ref (a0 0)), (1, .int x1)] → F_Reader_readCollected_92 x1 o0 o1 o2 = some (r, n0, n1, n2) → W p l e (headSpec ws_Reader_readCollected rm_Reader_readCollected).room s m args below meth c H locs 0 0 (MQ below (bw_Q (dC, dI) vwCl (some (.int r)) [wReader ct a0 (a1 0) n0, wText ct a1 (a2 0) n1, wSteps ct a2 n2] A) args s 0 0 A) (F0 m 92 ls []) := by
  obtain ⟨hx, hb, hr, hml, hown, hlocks, hts, hK, hN, hA, hnx, hsx⟩ := id C0
  intro x1 o0 o1 o2 H locs ls hP hS hl h
  rw [F_Reader_readCollected_92] at h
  refine lv_aload_n hx hb d_Reader_readCollected_92 rfl (lv_at hl 0 rfl) ?_
  refine lv_iconst (v := 0) hx hb d_Reader_readCollected_93 (by decide) ?_
  refine pt_Reader_2 hx hb hts hown hK hP hN hS 0 rfl (hts _ fl_Reader_19) d_Reader_readCollected_94 (fun H locs hP hS => ?_)
  have hP : bw_P (dC, dI) vwCl [wReader ct a0 (a1 0) (s32 o0 2 0 (0 : Int32)), wText ct a1 (a2 0) o1, wSteps ct a2 o2] H := hP
  refine lv_iload_n hx hb d_Reader_readCollected_97 rfl (lv_at hl 1 rfl) ?_
  refine lv_if_eq (tgt := 111) hx hb d_Reader_readCollected_98 (by decide) (fun c43 => ?_) (fun c43 => ?_)
  · have h := ite_t c43 h
    refine lv_iconst (v := -1) hx hb d_Reader_readCollected_111 (by decide) ?_
    refine lv_aload_n hx hb d_Reader_readCollected_112 rfl (lv_at hl 0 rfl) ?_
    refine va_get (D := (dC, dI)) (ci := 3) (v := .int (g32 o0 3 0)) (C := R_Reader) (T := T_Reader) (N := 12) hx hb hts in_Reader hown hK (hP 0 _ rfl) 0 rfl rfl 3 (by decide) (hts _ fl_Reader_23) (fun _ h9 => h9) rfl d_Reader_readCollected_113 ?_
    refine lv_isub hx hb d_Reader_readCollected_116 ?_
    obtain ⟨rfl, rfl, rfl, rfl⟩ := res4 h
    exact W.iret hx hb hr (fun t ht hW => ⟨rfl, by rw [ht]; exact hP, hS.F ht⟩) hS.2.2 d_Reader_readCollected_117
  · have h := ite_f c43 h
    refine lv_aload_n hx hb d_Reader_readCollected_101 rfl (lv_at hl 0 rfl) ?_
    refine va_get (D := (dC, dI)) (ci := 3) (v := .ref (a1 0)) (C := R_Reader) (T := T_Reader) (N := 12) hx hb hts in_Reader hown hK (hP 0 _ rfl) 0 rfl rfl 4 (by decide) (hts _ fl_Reader_29) (fun _ h9 => h9) rfl d_Reader_readCollected_102 ?_
    refine va_get (D := (dC, dI)) (ci := 2) (v := .int (g32 o1 3 0)) (C := R_Text) (T := T_Text) (N := 12) hx hb hts in_Text hown hK (hP 1 _ rfl) 0 rfl rfl 3 (by decide) (hts _ fl_Reader_75) (fun _ h9 => h9) rfl d_Reader_readCollected_105 ?_
    refine lv_goto (tgt := 117) hx hb d_Reader_readCollected_108 (by decide) ?_
    obtain ⟨rfl, rfl, rfl, rfl⟩ := res4 h
    exact W.iret hx hb hr (fun t ht hW => ⟨rfl, by rw [ht]; exact hP, hS.F ht⟩) hS.2.2 d_Reader_readCollected_117
set_option maxHeartbeats 4000000 in
set_option maxRecDepth 100000 in
theorem k_Reader_readCollected_49 {p : Program} {l : Launch} {e : Env} {s : State} {m : MethodId} {args : Array Value} {below : List Frame} {meth : Method} {c : Code} {A : Nat → Prop} {ct dC : Nat → ClassId} {dI : Nat → Nat → Nat} {a0 a1 a2 : Nat → Nat}  {r : Int32} {n0 n1 n2 : Ob}   (C0 : cx wsAll vwCl (nxs A) p s m args meth c (dC, dI) (tyA ct) b_Reader_readCollected 3 (some .int) R_Reader A [adReader a0, adText a1, adSteps a2])  : ∀ (x1 : Int32) (o0 o1 o2 : Ob) (H : Heap) (locs : List Loc) (ls : Array Slot), bw_P (dC, dI) vwCl [wReader ct a0 (a1 0) o0, wText ct a1 (a2 0) o1, wSteps ct a2 o2] H → va_S A s.heap H locs → lv_has ls 3 [(0, .ref (a0 0)), (1, .int x1)] → F_Reader_readCollected_49 x1 o0 o1 o2 = some (r, n0, n1, n2) → W p l e (headSpec ws_Reader_readCollected rm_Reader_readCollected).room s m args below meth c H locs 0 0 (MQ below (bw_Q (dC, dI) vwCl (some (.int r)) [wReader ct a0 (a1 0) n0, wText ct a1 (a2 0) n1, wSteps ct a2 n2] A) args s 0 0 A) (F0 m 49 ls []) := by
  obtain ⟨hx, hb, hr, hml, hown, hlocks, hts, hK, hN, hA, hnx, hsx⟩ := id C0
  intro x1 o0 o1 o2 H locs ls hP hS hl h
  rw [F_Reader_readCollected_49] at h
  refine lv_iload_n hx hb d_Reader_readCollected_49 rfl (lv_at hl 1 rfl) ?_
  refine lv_if_eq (tgt := 68) hx hb d_Reader_readCollected_50 (by decide) (fun c20 => ?_) (fun c20 => ?_)
  · have h := ite_t c20 h
    refine lv_iconst (v := 0) hx hb d_Reader_readCollected_68 (by decide) ?_
    refine lv_istore_n (lv' := [(1, .int (0 : Int32)), (0, .ref (a0 0))]) hx hb d_Reader_readCollected_69 rfl hl (by decide) rfl (fun ls hl => ?_)
    refine lv_iload_n hx hb d_Reader_readCollected_70 rfl (lv_at hl 0 rfl) ?_
    refine lv_if_eq (tgt := 92) hx hb d_Reader_readCollected_71 (by decide) (fun c21 => ?_) (fun c21 => ?_)
    · have h := ite_t c21 h
      exact k_Reader_readCollected_92 C0 (0 : Int32) o0 o1 o2 _ _ _ hP hS (lv_sub hl [1, 0] rfl) h
    · have h := ite_f c21 h
      refine lv_aload_n hx hb d_Reader_readCollected_74 rfl (lv_at hl 1 rfl) ?_
      refine va_get (D := (dC, dI)) (ci := 3) (v := .ref (a1 0)) (C := R_Reader) (T := T_Reader) (N := 12) hx hb hts in_Reader hown hK (hP 0 _ rfl) 0 rfl rfl 4 (by decide) (hts _ fl_Reader_29) (fun _ h9 => h9) rfl d_Reader_readCollected_75 ?_
      obtain ⟨o_23, hG22, h⟩ := bind1_some h
      refine bw_call (Lc := [wText ct a1 (a2 0) o1]) (Lc' := [wText ct a1 (a2 0) o_23]) (L' := [wReader ct a0 (a1 0) o0, wText ct a1 (a2 0) o_23, wSteps ct a2 o2]) [1] (va_runV (As := []) (rest := []) ⟨hx, hb, hml, hown, hts⟩ (c_Text_followNeeds l ct dC dI a1 (a2 0) _ o1 o_23 hG22) (cwV 0 hts g_Reader_66 rfl rfl rfl (by decide +kernel) ⟨Nat.le_of_ble_eq_true rfl, Nat.le_of_ble_eq_true rfl⟩) ⟨bw_blind nx_call, va_recv hK (hP 1 _ rfl) (ci := 2) (q0 := 0) rfl rfl, fun U hU hW => ⟨rfl, by rw [hU], by rw [hU]; exact hP.sub [1] rfl, va_K.moved hW.alike hK, (hN.sub [1] (by decide) rfl).weaken (fun _ _ => trivial), nx_warm hW hnx⟩⟩ rfl rfl hl.1 rfl (Nat.le_of_ble_eq_true rfl) d_Reader_readCollected_78 ⟨Nat.le_of_ble_eq_true rfl, Nat.le_of_ble_eq_true rfl⟩) hP hN hS hA rfl rfl rfl (fun H locs hP hS => ?_)
      refine lv_aload_n hx hb d_Reader_readCollected_81 rfl (lv_at hl 1 rfl) ?_
      refine va_get (D := (dC, dI)) (ci := 3) (v := .ref (a1 0)) (C := R_Reader) (T := T_Reader) (N := 12) hx hb hts in_Reader hown hK (hP 0 _ rfl) 0 rfl rfl 4 (by decide) (hts _ fl_Reader_29) (fun _ h9 => h9) rfl d_Reader_readCollected_82 ?_
      obtain ⟨o_25, hG24, h⟩ := bind1_some h
      refine bw_call (Lc := [wText ct a1 (a2 0) o_23]) (Lc' := [wText ct a1 (a2 0) o_25]) (L' := [wReader ct a0 (a1 0) o0, wText ct a1 (a2 0) o_25, wSteps ct a2 o2]) [1] (va_runV (As := []) (rest := []) ⟨hx, hb, hml, hown, hts⟩ (c_Text_findOrder l ct dC dI a1 (a2 0) _ o_23 o_25 hG24) (cwV 0 hts g_Reader_69 rfl rfl rfl (by decide +kernel) ⟨Nat.le_of_ble_eq_true rfl, Nat.le_of_ble_eq_true rfl⟩) ⟨bw_blind nx_call, va_recv hK (hP 1 _ rfl) (ci := 2) (q0 := 0) rfl rfl, fun U hU hW => ⟨rfl, by rw [hU], by rw [hU]; exact hP.sub [1] rfl, va_K.moved hW.alike hK, (hN.sub [1] (by decide) rfl).weaken (fun _ _ => trivial), nx_warm hW hnx⟩⟩ rfl rfl hl.1 rfl (Nat.le_of_ble_eq_true rfl) d_Reader_readCollected_85 ⟨Nat.le_of_ble_eq_true rfl, Nat.le_of_ble_eq_true rfl⟩) hP hN hS hA rfl rfl rfl (fun H locs hP hS => ?_)
      refine lv_aload_n hx hb d_Reader_readCollected_88 rfl (lv_at hl 1 rfl) ?_
      obtain ⟨o_27, hG26, h⟩ := bind1_some h
      refine bw_call (Lc := [wReader ct a0 (a1 0) o0, wText ct a1 (a2 0) o_25]) (Lc' := [wReader ct a0 (a1 0) o0, wText ct a1 (a2 0) o_27]) (L' := [wReader ct a0 (a1 0) o0, wText ct a1 (a2 0) o_27, wSteps ct a2 o2]) [0, 1] (va_runV (As := []) (rest := []) ⟨hx, hb, hml, hown, hts⟩ (c_Reader_print l ct dC dI a0 a1 (a2 0) _ o0 o_25 o_27 hG26) (cwV 0 hts g_Reader_72 rfl rfl rfl (by decide +kernel) ⟨Nat.le_of_ble_eq_true rfl, Nat.le_of_ble_eq_true rfl⟩) ⟨bw_blind nx_call, va_recv hK (hP 0 _ rfl) (ci := 3) (q0 := 0) rfl rfl, fun U hU hW => ⟨rfl, by rw [hU], by rw [hU]; exact hP.sub [0, 1] rfl, va_K.moved hW.alike hK, (hN.sub [0, 1] (by decide) rfl).weaken (fun _ _ => trivial), nx_warm hW hnx⟩⟩ rfl rfl hl.1 rfl (Nat.le_of_ble_eq_true rfl) d_Reader_readCollected_89 ⟨Nat.le_of_ble_eq_true rfl, Nat.le_of_ble_eq_true rfl⟩) hP hN hS hA rfl rfl rfl (fun H locs hP hS => ?_)
      exact k_Reader_readCollected_92 C0 (0 : Int32) o0 o_27 o2 _ _ _ hP hS (lv_sub hl [1, 0] rfl) h
  · have h := ite_f c20 h
    refine lv_aload_n hx hb d_Reader_readCollected_53 rfl (lv_at hl 0 rfl) ?_
    refine va_get (D := (dC, dI)) (ci := 3) (v := .int (g32 o0 3 0)) (C := R_Reader) (T := T_Reader) (N := 12) hx hb hts in_Reader hown hK (hP 0 _ rfl) 0 rfl rfl 3 (by decide) (hts _ fl_Reader_23) (fun _ h9 => h9) rfl d_Reader_readCollected_54 ?_
    refine lv_aload_n hx hb d_Reader_readCollected_57 rfl (lv_at hl 0 rfl) ?_
    refine va_get (D := (dC, dI)) (ci := 3) (v := .int (g32 o0 2 0)) (C := R_Reader) (T := T_Reader) (N := 12) hx hb hts in_Reader hown hK (hP 0 _ rfl) 0 rfl rfl 2 (by decide) (hts _ fl_Reader_19) (fun _ h9 => h9) rfl d_Reader_readCollected_58 ?_
    refine lv_icmp_ne (tgt := 68) hx hb d_Reader_readCollected_61 (by decide) (fun c28 => ?_) (fun c28 => ?_)
    · have h := ite_f c28 h
      refine lv_iconst (v := 0) hx hb d_Reader_readCollected_68 (by decide) ?_
      refine lv_istore_n (lv' := [(1, .int (0 : Int32)), (0, .ref (a0 0))]) hx hb d_Reader_readCollected_69 rfl hl (by decide) rfl (fun ls hl => ?_)
      refine lv_iload_n hx hb d_Reader_readCollected_70 rfl (lv_at hl 0 rfl) ?_
      refine lv_if_eq (tgt := 92) hx hb d_Reader_readCollected_71 (by decide) (fun c29 => ?_) (fun c29 => ?_)
      · have h := ite_t c29 h
        exact k_Reader_readCollected_92 C0 (0 : Int32) o0 o1 o2 _ _ _ hP hS (lv_sub hl [1, 0] rfl) h
      · have h := ite_f c29 h
        refine lv_aload_n hx hb d_Reader_readCollected_74 rfl (lv_at hl 1 rfl) ?_
        refine va_get (D := (dC, dI)) (ci := 3) (v := .ref (a1 0)) (C := R_Reader) (T := T_Reader) (N := 12) hx hb hts in_Reader hown hK (hP 0 _ rfl) 0 rfl rfl 4 (by decide) (hts _ fl_Reader_29) (fun _ h9 => h9) rfl d_Reader_readCollected_75 ?_
        obtain ⟨o_31, hG30, h⟩ := bind1_some h
        refine bw_call (Lc := [wText ct a1 (a2 0) o1]) (Lc' := [wText ct a1 (a2 0) o_31]) (L' := [wReader ct a0 (a1 0) o0, wText ct a1 (a2 0) o_31, wSteps ct a2 o2]) [1] (va_runV (As := []) (rest := []) ⟨hx, hb, hml, hown, hts⟩ (c_Text_followNeeds l ct dC dI a1 (a2 0) _ o1 o_31 hG30) (cwV 0 hts g_Reader_66 rfl rfl rfl (by decide +kernel) ⟨Nat.le_of_ble_eq_true rfl, Nat.le_of_ble_eq_true rfl⟩) ⟨bw_blind nx_call, va_recv hK (hP 1 _ rfl) (ci := 2) (q0 := 0) rfl rfl, fun U hU hW => ⟨rfl, by rw [hU], by rw [hU]; exact hP.sub [1] rfl, va_K.moved hW.alike hK, (hN.sub [1] (by decide) rfl).weaken (fun _ _ => trivial), nx_warm hW hnx⟩⟩ rfl rfl hl.1 rfl (Nat.le_of_ble_eq_true rfl) d_Reader_readCollected_78 ⟨Nat.le_of_ble_eq_true rfl, Nat.le_of_ble_eq_true rfl⟩) hP hN hS hA rfl rfl rfl (fun H locs hP hS => ?_)
        refine lv_aload_n hx hb d_Reader_readCollected_81 rfl (lv_at hl 1 rfl) ?_
        refine va_get (D := (dC, dI)) (ci := 3) (v := .ref (a1 0)) (C := R_Reader) (T := T_Reader) (N := 12) hx hb hts in_Reader hown hK (hP 0 _ rfl) 0 rfl rfl 4 (by decide) (hts _ fl_Reader_29) (fun _ h9 => h9) rfl d_Reader_readCollected_82 ?_
        obtain ⟨o_33, hG32, h⟩ := bind1_some h
        refine bw_call (Lc := [wText ct a1 (a2 0) o_31]) (Lc' := [wText ct a1 (a2 0) o_33]) (L' := [wReader ct a0 (a1 0) o0, wText ct a1 (a2 0) o_33, wSteps ct a2 o2]) [1] (va_runV (As := []) (rest := []) ⟨hx, hb, hml, hown, hts⟩ (c_Text_findOrder l ct dC dI a1 (a2 0) _ o_31 o_33 hG32) (cwV 0 hts g_Reader_69 rfl rfl rfl (by decide +kernel) ⟨Nat.le_of_ble_eq_true rfl, Nat.le_of_ble_eq_true rfl⟩) ⟨bw_blind nx_call, va_recv hK (hP 1 _ rfl) (ci := 2) (q0 := 0) rfl rfl, fun U hU hW => ⟨rfl, by rw [hU], by rw [hU]; exact hP.sub [1] rfl, va_K.moved hW.alike hK, (hN.sub [1] (by decide) rfl).weaken (fun _ _ => trivial), nx_warm hW hnx⟩⟩ rfl rfl hl.1 rfl (Nat.le_of_ble_eq_true rfl) d_Reader_readCollected_85 ⟨Nat.le_of_ble_eq_true rfl, Nat.le_of_ble_eq_true rfl⟩) hP hN hS hA rfl rfl rfl (fun H locs hP hS => ?_)
        refine lv_aload_n hx hb d_Reader_readCollected_88 rfl (lv_at hl 1 rfl) ?_
        obtain ⟨o_35, hG34, h⟩ := bind1_some h
        refine bw_call (Lc := [wReader ct a0 (a1 0) o0, wText ct a1 (a2 0) o_33]) (Lc' := [wReader ct a0 (a1 0) o0, wText ct a1 (a2 0) o_35]) (L' := [wReader ct a0 (a1 0) o0, wText ct a1 (a2 0) o_35, wSteps ct a2 o2]) [0, 1] (va_runV (As := []) (rest := []) ⟨hx, hb, hml, hown, hts⟩ (c_Reader_print l ct dC dI a0 a1 (a2 0) _ o0 o_33 o_35 hG34) (cwV 0 hts g_Reader_72 rfl rfl rfl (by decide +kernel) ⟨Nat.le_of_ble_eq_true rfl, Nat.le_of_ble_eq_true rfl⟩) ⟨bw_blind nx_call, va_recv hK (hP 0 _ rfl) (ci := 3) (q0 := 0) rfl rfl, fun U hU hW => ⟨rfl, by rw [hU], by rw [hU]; exact hP.sub [0, 1] rfl, va_K.moved hW.alike hK, (hN.sub [0, 1] (by decide) rfl).weaken (fun _ _ => trivial), nx_warm hW hnx⟩⟩ rfl rfl hl.1 rfl (Nat.le_of_ble_eq_true rfl) d_Reader_readCollected_89 ⟨Nat.le_of_ble_eq_true rfl, Nat.le_of_ble_eq_true rfl⟩) hP hN hS hA rfl rfl rfl (fun H locs hP hS => ?_)
        exact k_Reader_readCollected_92 C0 (0 : Int32) o0 o_35 o2 _ _ _ hP hS (lv_sub hl [1, 0] rfl) h
    · have h := ite_t c28 h
      refine lv_iconst (v := 1) hx hb d_Reader_readCollected_64 (by decide) ?_
      refine lv_goto (tgt := 69) hx hb d_Reader_readCollected_65 (by decide) ?_
      refine lv_istore_n (lv' := [(1, .int (1 : Int32)), (0, .ref (a0 0))]) hx hb d_Reader_readCollected_69 rfl hl (by decide) rfl (fun ls hl => ?_)
      refine lv_iload_n hx hb d_Reader_readCollected_70 rfl (lv_at hl 0 rfl) ?_
      refine lv_if_eq (tgt := 92) hx hb d_Reader_readCollected_71 (by decide) (fun c36 => ?_) (fun c36 => ?_)
      · have h := ite_t c36 h
        exact k_Reader_readCollected_92 C0 (1 : Int32) o0 o1 o2 _ _ _ hP hS (lv_sub hl [1, 0] rfl) h
      · have h := ite_f c36 h
        refine lv_aload_n hx hb d_Reader_readCollected_74 rfl (lv_at hl 1 rfl) ?_
        refine va_get (D := (dC, dI)) (ci := 3) (v := .ref (a1 0)) (C := R_Reader) (T := T_Reader) (N := 12) hx hb hts in_Reader hown hK (hP 0 _ rfl) 0 rfl rfl 4 (by decide) (hts _ fl_Reader_29) (fun _ h9 => h9) rfl d_Reader_readCollected_75 ?_
        obtain ⟨o_38, hG37, h⟩ := bind1_some h
        refine bw_call (Lc := [wText ct a1 (a2 0) o1]) (Lc' := [wText ct a1 (a2 0) o_38]) (L' := [wReader ct a0 (a1 0) o0, wText ct a1 (a2 0) o_38, wSteps ct a2 o2]) [1] (va_runV (As := []) (rest := []) ⟨hx, hb, hml, hown, hts⟩ (c_Text_followNeeds l ct dC dI a1 (a2 0) _ o1 o_38 hG37) (cwV 0 hts g_Reader_66 rfl rfl rfl (by decide +kernel) ⟨Nat.le_of_ble_eq_true rfl, Nat.le_of_ble_eq_true rfl⟩) ⟨bw_blind nx_call, va_recv hK (hP 1 _ rfl) (ci := 2) (q0 := 0) rfl rfl, fun U hU hW => ⟨rfl, by rw [hU], by rw [hU]; exact hP.sub [1] rfl, va_K.moved hW.alike hK, (hN.sub [1] (by decide) rfl).weaken (fun _ _ => trivial), nx_warm hW hnx⟩⟩ rfl rfl hl.1 rfl (Nat.le_of_ble_eq_true rfl) d_Reader_readCollected_78 ⟨Nat.le_of_ble_eq_true rfl, Nat.le_of_ble_eq_true rfl⟩) hP hN hS hA rfl rfl rfl (fun H locs hP hS => ?_)
        refine lv_aload_n hx hb d_Reader_readCollected_81 rfl (lv_at hl 1 rfl) ?_
        refine va_get (D := (dC, dI)) (ci := 3) (v := .ref (a1 0)) (C := R_Reader) (T := T_Reader) (N := 12) hx hb hts in_Reader hown hK (hP 0 _ rfl) 0 rfl rfl 4 (by decide) (hts _ fl_Reader_29) (fun _ h9 => h9) rfl d_Reader_readCollected_82 ?_
        obtain ⟨o_40, hG39, h⟩ := bind1_some h
        refine bw_call (Lc := [wText ct a1 (a2 0) o_38]) (Lc' := [wText ct a1 (a2 0) o_40]) (L' := [wReader ct a0 (a1 0) o0, wText ct a1 (a2 0) o_40, wSteps ct a2 o2]) [1] (va_runV (As := []) (rest := []) ⟨hx, hb, hml, hown, hts⟩ (c_Text_findOrder l ct dC dI a1 (a2 0) _ o_38 o_40 hG39) (cwV 0 hts g_Reader_69 rfl rfl rfl (by decide +kernel) ⟨Nat.le_of_ble_eq_true rfl, Nat.le_of_ble_eq_true rfl⟩) ⟨bw_blind nx_call, va_recv hK (hP 1 _ rfl) (ci := 2) (q0 := 0) rfl rfl, fun U hU hW => ⟨rfl, by rw [hU], by rw [hU]; exact hP.sub [1] rfl, va_K.moved hW.alike hK, (hN.sub [1] (by decide) rfl).weaken (fun _ _ => trivial), nx_warm hW hnx⟩⟩ rfl rfl hl.1 rfl (Nat.le_of_ble_eq_true rfl) d_Reader_readCollected_85 ⟨Nat.le_of_ble_eq_true rfl, Nat.le_of_ble_eq_true rfl⟩) hP hN hS hA rfl rfl rfl (fun H locs hP hS => ?_)
        refine lv_aload_n hx hb d_Reader_readCollected_88 rfl (lv_at hl 1 rfl) ?_
        obtain ⟨o_42, hG41, h⟩ := bind1_some h
        refine bw_call (Lc := [wReader ct a0 (a1 0) o0, wText ct a1 (a2 0) o_40]) (Lc' := [wReader ct a0 (a1 0) o0, wText ct a1 (a2 0) o_42]) (L' := [wReader ct a0 (a1 0) o0, wText ct a1 (a2 0) o_42, wSteps ct a2 o2]) [0, 1] (va_runV (As := []) (rest := []) ⟨hx, hb, hml, hown, hts⟩ (c_Reader_print l ct dC dI a0 a1 (a2 0) _ o0 o_40 o_42 hG41) (cwV 0 hts g_Reader_72 rfl rfl rfl (by decide +kernel) ⟨Nat.le_of_ble_eq_true rfl, Nat.le_of_ble_eq_true rfl⟩) ⟨bw_blind nx_call, va_recv hK (hP 0 _ rfl) (ci := 3) (q0 := 0) rfl rfl, fun U hU hW => ⟨rfl, by rw [hU], by rw [hU]; exact hP.sub [0, 1] rfl, va_K.moved hW.alike hK, (hN.sub [0, 1] (by decide) rfl).weaken (fun _ _ => trivial), nx_warm hW hnx⟩⟩ rfl rfl hl.1 rfl (Nat.le_of_ble_eq_true rfl) d_Reader_readCollected_89 ⟨Nat.le_of_ble_eq_true rfl, Nat.le_of_ble_eq_true rfl⟩) hP hN hS hA rfl rfl rfl (fun H locs hP hS => ?_)
        exact k_Reader_readCollected_92 C0 (1 : Int32) o0 o_42 o2 _ _ _ hP hS (lv_sub hl [1, 0] rfl) h
set_option maxHeartbeats 4000000 in
set_option maxRecDepth 100000 in
theorem k_Reader_readCollected_19 {p : Program} {l : Launch} {e : Env} {s : State} {m : MethodId} {args : Array Value} {below : List Frame} {meth : Method} {c : Code} {A : Nat → Prop} {ct dC : Nat → ClassId} {dI : Nat → Nat → Nat} {a0 a1 a2 : Nat → Nat}  {r : Int32} {n0 n1 n2 : Ob}   (C0 : cx wsAll vwCl (nxs A) p s m args meth c (dC, dI) (tyA ct) b_Reader_readCollected 3 (some .int) R_Reader A [adReader a0, adText a1, adSteps a2])  : ∀ (n : Nat) (x1 : Int32) (x2 : Int32) (o0 o1 o2 : Ob) (H : Heap) (locs : List Loc) (ls : Array Slot), bw_P (dC, dI) vwCl [wReader ct a0 (a1 0) o0, wText ct a1 (a2 0) o1, wSteps ct a2 o2] H → va_S A s.heap H locs → lv_has ls 3 [(0, .ref (a0 0)), (1, .int x1), (2, .int x2)] → F_Reader_readCollected_19 n x1 x2 o0 o1 o2 = some (r, n0, n1, n2) → W p l e (headSpec ws_Reader_readCollected rm_Reader_readCollected).room s m args below meth c H locs 0 0 (MQ below (bw_Q (dC, dI) vwCl (some (.int r)) [wReader ct a0 (a1 0) n0, wText ct a1 (a2 0) n1, wSteps ct a2 n2] A) args s 0 0 A) (F0 m 19 ls []) := by
  obtain ⟨hx, hb, hr, hml, hown, hlocks, hts, hK, hN, hA, hnx, hsx⟩ := id C0
  intro n
  induction n with
  | zero =>
    intro x1 x2 o0 o1 o2 H locs ls hP hS hl h
    cases h
  | succ n ih =>
    intro x1 x2 o0 o1 o2 H locs ls hP hS hl h
    rw [F_Reader_readCollected_19] at h
    refine lv_iload_n hx hb d_Reader_readCollected_19 rfl (lv_at hl 2 rfl) ?_
    refine lv_bipush (v := 24) hx hb d_Reader_readCollected_20 (by decide) ?_
    refine lv_icmp_ge (tgt := 49) hx hb d_Reader_readCollected_22 (by decide) (fun c9 => ?_) (fun c9 => ?_)
    · have h := ite_t c9 h
      exact k_Reader_readCollected_49 C0 x1 o0 o1 o2 _ _ _ hP hS (lv_sub hl [0, 1] rfl) h
    · have h := ite_f c9 h
      refine lv_iload_n hx hb d_Reader_readCollected_25 rfl (lv_at hl 1 rfl) ?_
      refine lv_if_eq (tgt := 49) hx hb d_Reader_readCollected_26 (by decide) (fun c10 => ?_) (fun c10 => ?_)
      · have h := ite_t c10 h
        exact k_Reader_readCollected_49 C0 x1 o0 o1 o2 _ _ _ hP hS (lv_sub hl [0, 1] rfl) h
      · have h := ite_f c10 h
        refine lv_aload_n hx hb d_Reader_readCollected_29 rfl (lv_at hl 0 rfl) ?_
        refine lv_bipush (v := 59) hx hb d_Reader_readCollected_30 (by decide) ?_
        obtain ⟨v12, o_13, hG11, h⟩ := bind2_some h
        refine bw_call (Lc := [wReader ct a0 (a1 0) o0]) (Lc' := [wReader ct a0 (a1 0) o_13]) (L' := [wReader ct a0 (a1 0) o_13, wText ct a1 (a2 0) o1, wSteps ct a2 o2]) [0] (va_runV (As := [.int (59 : Int32)]) (rest := []) ⟨hx, hb, hml, hown, hts⟩ (c_Reader_pass l ct dC dI a0 (a1 0) _ (59 : Int32) o0 v12 o_13 hG11) (cwV 1 hts g_Reader_62 rfl rfl rfl (by decide +kernel) ⟨Nat.le_of_ble_eq_true rfl, Nat.le_of_ble_eq_true rfl⟩) ⟨bw_blind nx_call, va_recv hK (hP 0 _ rfl) (ci := 3) (q0 := 0) rfl rfl, fun U hU hW => ⟨rfl, by rw [hU], by rw [hU]; exact hP.sub [0] rfl, va_K.moved hW.alike hK, (hN.sub [0] (by decide) rfl).weaken (fun _ _ => trivial), nx_warm hW hnx⟩⟩ rfl rfl hl.1 rfl (Nat.le_of_ble_eq_true rfl) d_Reader_readCollected_32 ⟨Nat.le_of_ble_eq_true rfl, Nat.le_of_ble_eq_true rfl⟩) hP hN hS hA rfl rfl rfl (fun H locs hP hS => ?_)
        refine lv_if_eq (tgt := 49) hx hb d_Reader_readCollected_35 (by decide) (fun c14 => ?_) (fun c14 => ?_)
        · have h := ite_t c14 h
          exact k_Reader_readCollected_49 C0 x1 o_13 o1 o2 _ _ _ hP hS (lv_sub hl [0, 1] rfl) h
        · have h := ite_f c14 h
          refine lv_aload_n hx hb d_Reader_readCollected_38 rfl (lv_at hl 0 rfl) ?_
          obtain ⟨v16, o_17, o_18, o_19, hG15, h⟩ := bind4_some h
          refine bw_call (Lc := [wReader ct a0 (a1 0) o_13, wText ct a1 (a2 0) o1, wSteps ct a2 o2]) (Lc' := [wReader ct a0 (a1 0) o_17, wText ct a1 (a2 0) o_18, wSteps ct a2 o_19]) (L' := [wReader ct a0 (a1 0) o_17, wText ct a1 (a2 0) o_18, wSteps ct a2 o_19]) [0, 1, 2] (va_runV (As := []) (rest := []) ⟨hx, hb, hml, hown, hts⟩ (c_Reader_readStatement l ct dC dI a0 a1 a2 _ o_13 o1 o2 v16 o_17 o_18 o_19 hG15) (cwV 0 hts g_Reader_58 rfl rfl rfl (by decide +kernel) ⟨Nat.le_of_ble_eq_true rfl, Nat.le_of_ble_eq_true rfl⟩) ⟨bw_blind nxs_call, va_recv hK (hP 0 _ rfl) (ci := 3) (q0 := 0) rfl rfl, fun U hU hW => ⟨rfl, by rw [hU], by rw [hU]; exact hP.sub [0, 1, 2] rfl, va_K.moved hW.alike hK, (hN.sub [0, 1, 2] (by decide) rfl).weaken (fun _ _ => trivial), ⟨nx_warm hW hnx, sx_call hsx hS hN hA [0, 1, 2] rfl hU hW⟩⟩⟩ rfl rfl hl.1 rfl (Nat.le_of_ble_eq_true rfl) d_Reader_readCollected_39 ⟨Nat.le_of_ble_eq_true rfl, Nat.le_of_ble_eq_true rfl⟩) hP hN hS hA rfl rfl rfl (fun H locs hP hS => ?_)
          refine lv_istore_n (lv' := [(1, .int (b2i v16)), (0, .ref (a0 0)), (2, .int x2)]) hx hb d_Reader_readCollected_42 rfl hl (by decide) rfl (fun ls hl => ?_)
          refine lv_iinc (v := (x2 + (1 : Int32))) (lv' := [(2, .int (x2 + (1 : Int32))), (1, .int (b2i v16)), (0, .ref (a0 0))]) hx hb d_Reader_readCollected_43 hl (k := 2) rfl rfl (by decide) rfl (fun ls hl => ?_)
          refine lv_goto (tgt := 19) hx hb d_Reader_readCollected_46 (by decide) ?_
          exact ih (b2i v16) (x2 + (1 : Int32)) o_17 o_18 o_19 _ _ _ hP hS (lv_sub hl [2, 1, 0] rfl) h
set_option maxHeartbeats 4000000 in
set_option maxRecDepth 100000 in
theorem c_Reader_readCollected (l : Launch) (ct dC : Nat → ClassId) (dI : Nat → Nat → Nat) (a0 a1 a2 : Nat → Nat)  (sz : Nat)  (o0 o1 o2 : Ob) (r : Int32) (n0 n1 n2 : Ob) (hF : F_Reader_readCollected o0 o1 o2 = some (r, n0, n1, n2)) : Met l y_Reader_readCollected ws_Reader_readCollected rm_Reader_readCollected (bw_Pc [.ref (a0 0)] (dC, dI) vwCl (tyA ct) [wReader ct a0 (a1 0) o0, wText ct a1 (a2 0) o1, wSteps ct a2 o2] sz (nxs (bw_A [adReader a0, adText a1, adSteps a2] sz))) (bw_Q (dC, dI) vwCl (some (.int r)) [wReader ct a0 (a1 0) n0, wText ct a1 (a2 0) n1, wSteps ct a2 n2] (bw_A [adReader a0, adText a1, adSteps a2] sz)) 0 0 (bw_A [adReader a0, adText a1, adSteps a2] sz) := by
  refine Met.ofW (cc := b_Reader_readCollected) (maxL := 3) (ret := (some .int)) (by decide) rfl ?_
  intro p e s m args below meth c s₁ B hml hv
  obtain ⟨rfl, hsz, hP, hK, hN0, hnx, hsx⟩ := hv
  have hx := B.exec
  have hb := B.bytes
  have hr := B.returns
  have hts : ∀ w ∈ wsAll, w.before [.ref (a0 0)].toArray s = true := fun w h9 => atoms_spec (ws := ws_Reader_readCollected) B.pre w (List.mem_cons_of_mem _ h9)
  have hown : s.vm.findClass R_Reader = some m.cls := findClass_of_methodNamed B.named
  have hlocks := B.notSynchronized
  subst hsz
  have hN : bw_N (bw_A [adReader a0, adText a1, adSteps a2] s.heap.size) [adReader a0, adText a1, adSteps a2] := hN0.self s.heap.size
  generalize hAe : bw_A [adReader a0, adText a1, adSteps a2] s.heap.size = A at hsx hN ⊢
  have hA : ∀ q : Nat, s.heap.size ≤ q → A q := fun q h => by rw [← hAe]; exact Or.inr h
  have hS : va_S A s.heap s.heap [] := va_S.rf
  have hl := lv_entry ([.ref (a0 0)]) (n := 3) (Nat.le_of_ble_eq_true rfl)
  rw [lg_entry_eq]
  generalize (lg_sl ([.ref (a0 0)]) ++ List.replicate (3 - (lg_sl ([.ref (a0 0)])).length) Slot.unset).toArray = ls at hl ⊢
  have hl : lv_has ls 3 [(0, .ref (a0 0))] := hl
  have C0 : cx wsAll vwCl (nxs A) p s m [.ref (a0 0)].toArray meth c (dC, dI) (tyA ct) b_Reader_readCollected 3 (some .int) R_Reader A [adReader a0, adText a1, adSteps a2] := ⟨hx, hb, hr, hml, hown, hlocks, hts, hK, hN, hA, hnx, hsx⟩
  have h := hF
  rw [F_Reader_readCollected] at h
  refine lv_aload_n hx hb d_Reader_readCollected_0 rfl (lv_at hl 0 rfl) ?_
  refine lv_iconst (v := 0) hx hb d_Reader_readCollected_1 (by decide) ?_
  refine pt_Reader_3 hx hb hts hown hK hP hN hS 0 rfl (hts _ fl_Reader_23) d_Reader_readCollected_2 (fun H locs hP hS => ?_)
  have hP : bw_P (dC, dI) vwCl [wReader ct a0 (a1 0) (s32 o0 3 0 (0 : Int32)), wText ct a1 (a2 0) o1, wSteps ct a2 o2] H := hP
  refine lv_aload_n hx hb d_Reader_readCollected_5 rfl (lv_at hl 0 rfl) ?_
  refine va_get (D := (dC, dI)) (ci := 3) (v := .ref (a1 0)) (C := R_Reader) (T := T_Reader) (N := 12) hx hb hts in_Reader hown hK (hP 0 _ rfl) 0 rfl rfl 4 (by decide) (hts _ fl_Reader_29) (fun _ h9 => h9) rfl d_Reader_readCollected_6 ?_
  obtain ⟨o_2, o_3, hG1, h⟩ := bind2_some h
  refine bw_call (Lc := [wText ct a1 (a2 0) o1, wSteps ct a2 o2]) (Lc' := [wText ct a1 (a2 0) o_2, wSteps ct a2 o_3]) (L' := [wReader ct a0 (a1 0) (s32 o0 3 0 (0 : Int32)), wText ct a1 (a2 0) o_2, wSteps ct a2 o_3]) [1, 2] (va_runV (As := []) (rest := []) ⟨hx, hb, hml, hown, hts⟩ (c_Text_clear l ct dC dI a1 a2 _ o1 o2 o_2 o_3 hG1) (cwV 0 hts g_Reader_55 rfl rfl rfl (by decide +kernel) ⟨Nat.le_of_ble_eq_true rfl, Nat.le_of_ble_eq_true rfl⟩) ⟨bw_blind nx_call, va_recv hK (hP 1 _ rfl) (ci := 2) (q0 := 0) rfl rfl, fun U hU hW => ⟨rfl, by rw [hU], by rw [hU]; exact hP.sub [1, 2] rfl, va_K.moved hW.alike hK, (hN.sub [1, 2] (by decide) rfl).weaken (fun _ _ => trivial), nx_warm hW hnx⟩⟩ rfl rfl hl.1 rfl (Nat.le_of_ble_eq_true rfl) d_Reader_readCollected_9 ⟨Nat.le_of_ble_eq_true rfl, Nat.le_of_ble_eq_true rfl⟩) hP hN hS hA rfl rfl rfl (fun H locs hP hS => ?_)
  refine lv_aload_n hx hb d_Reader_readCollected_12 rfl (lv_at hl 0 rfl) ?_
  obtain ⟨v5, o_6, o_7, o_8, hG4, h⟩ := bind4_some h
  refine bw_call (Lc := [wReader ct a0 (a1 0) (s32 o0 3 0 (0 : Int32)), wText ct a1 (a2 0) o_2, wSteps ct a2 o_3]) (Lc' := [wReader ct a0 (a1 0) o_6, wText ct a1 (a2 0) o_7, wSteps ct a2 o_8]) (L' := [wReader ct a0 (a1 0) o_6, wText ct a1 (a2 0) o_7, wSteps ct a2 o_8]) [0, 1, 2] (va_runV (As := []) (rest := []) ⟨hx, hb, hml, hown, hts⟩ (c_Reader_readStatement l ct dC dI a0 a1 a2 _ (s32 o0 3 0 (0 : Int32)) o_2 o_3 v5 o_6 o_7 o_8 hG4) (cwV 0 hts g_Reader_58 rfl rfl rfl (by decide +kernel) ⟨Nat.le_of_ble_eq_true rfl, Nat.le_of_ble_eq_true rfl⟩) ⟨bw_blind nxs_call, va_recv hK (hP 0 _ rfl) (ci := 3) (q0 := 0) rfl rfl, fun U hU hW => ⟨rfl, by rw [hU], by rw [hU]; exact hP.sub [0, 1, 2] rfl, va_K.moved hW.alike hK, (hN.sub [0, 1, 2] (by decide) rfl).weaken (fun _ _ => trivial), ⟨nx_warm hW hnx, sx_call hsx hS hN hA [0, 1, 2] rfl hU hW⟩⟩⟩ rfl rfl hl.1 rfl (Nat.le_of_ble_eq_true rfl) d_Reader_readCollected_13 ⟨Nat.le_of_ble_eq_true rfl, Nat.le_of_ble_eq_true rfl⟩) hP hN hS hA rfl rfl rfl (fun H locs hP hS => ?_)
  refine lv_istore_n (lv' := [(1, .int (b2i v5)), (0, .ref (a0 0))]) hx hb d_Reader_readCollected_16 rfl hl (by decide) rfl (fun ls hl => ?_)
  refine lv_iconst (v := 1) hx hb d_Reader_readCollected_17 (by decide) ?_
  refine lv_istore_n (lv' := [(2, .int (1 : Int32)), (1, .int (b2i v5)), (0, .ref (a0 0))]) hx hb d_Reader_readCollected_18 rfl hl (by decide) rfl (fun ls hl => ?_)
  exact k_Reader_readCollected_19 C0 fuel (b2i v5) (1 : Int32) o_6 o_7 o_8 _ _ _ hP hS (lv_sub hl [2, 1, 0] rfl) h
