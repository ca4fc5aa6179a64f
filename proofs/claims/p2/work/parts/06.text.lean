/-! 06.text -/
abbrev b_Text_clear : ByteArray := prog_6_method_2_code
def y_Text_clear : MethodName := ⟨R_Text, "clear", "()V"⟩
abbrev b_Text_openStatement : ByteArray := prog_6_method_3_code
def y_Text_openStatement : MethodName := ⟨R_Text, "openStatement", "(I)V"⟩
abbrev b_Text_openCell : ByteArray := prog_6_method_4_code
def y_Text_openCell : MethodName := ⟨R_Text, "openCell", "()I"⟩
abbrev b_Text_mentionOption : ByteArray := prog_6_method_5_code
def y_Text_mentionOption : MethodName := ⟨R_Text, "mentionOption", "(I)V"⟩
abbrev b_Text_mentionCell : ByteArray := prog_6_method_6_code
def y_Text_mentionCell : MethodName := ⟨R_Text, "mentionCell", "(I)V"⟩
abbrev b_Text_countCondition : ByteArray := prog_6_method_7_code
def y_Text_countCondition : MethodName := ⟨R_Text, "countCondition", "()V"⟩
abbrev b_Text_reaches : ByteArray := prog_6_method_9_code
def y_Text_reaches : MethodName := ⟨R_Text, "reaches", "(II)Z"⟩
abbrev b_Text_followNeeds : ByteArray := prog_6_method_12_code
def y_Text_followNeeds : MethodName := ⟨R_Text, "followNeeds", "()V"⟩
abbrev b_Text_isLimit : ByteArray := prog_6_method_8_code
def y_Text_isLimit : MethodName := ⟨R_Text, "isLimit", "(I)Z"⟩
abbrev b_Text_isRing : ByteArray := prog_6_method_10_code
def y_Text_isRing : MethodName := ⟨R_Text, "isRing", "(I)Z"⟩
abbrev b_Text_findOrder : ByteArray := prog_6_method_13_code
def y_Text_findOrder : MethodName := ⟨R_Text, "findOrder", "()V"⟩
abbrev b_Text_hangsOn : ByteArray := prog_6_method_11_code
def y_Text_hangsOn : MethodName := ⟨R_Text, "hangsOn", "(II)Z"⟩
theorem fl_Text_15 : Cond.fieldLink "PartFormulas$Text" 15 "PartFormulas$Text" "printedLength" "I" ∈ wsAll := wa_of 156 (by decide +kernel) (by decide +kernel)
theorem fl_Text_22 : Cond.fieldLink "PartFormulas$Text" 22 "PartFormulas$Text" "steps" "LPartFormulas$Steps;" ∈ wsAll := wa_of 159 (by decide +kernel) (by decide +kernel)
theorem cd_Steps_clear : Cond.code ⟨"PartFormulas$Steps", "clear", "()V"⟩ prog_5_method_2_code 1 (none : Option Jvm.ClassFile.FieldType) ∈ wsAll := wa_of 356 (by decide +kernel) (by decide +kernel)
theorem ml_Text_55 : Cond.methodLink "PartFormulas$Text" 55 ⟨"PartFormulas$Steps", "clear", "()V"⟩ ∈ wsAll := wa_of 353 (by decide +kernel) (by decide +kernel)
theorem im_Steps_clear : Cond.instanceMethod ⟨"PartFormulas$Steps", "clear", "()V"⟩ ∈ wsAll := wa_of 354 (by decide +kernel) (by decide +kernel)
theorem se_Steps_clear : Cond.selects "PartFormulas$Steps" ⟨"PartFormulas$Steps", "clear", "()V"⟩ ⟨"PartFormulas$Steps", "clear", "()V"⟩ ∈ wsAll := wa_of 355 (by decide +kernel) (by decide +kernel)
theorem ini_Steps : Cond.initialized "PartFormulas$Steps" ∈ wsAll := wa_of 77 (by decide +kernel) (by decide +kernel)
theorem fl_Text_26 : Cond.fieldLink "PartFormulas$Text" 26 "PartFormulas$Text" "statements" "I" ∈ wsAll := wa_of 162 (by decide +kernel) (by decide +kernel)
theorem fl_Text_52 : Cond.fieldLink "PartFormulas$Text" 52 "PartFormulas$Text" "orderLength" "I" ∈ wsAll := wa_of 180 (by decide +kernel) (by decide +kernel)
theorem fl_Text_39 : Cond.fieldLink "PartFormulas$Text" 39 "PartFormulas$Text" "definedBy" "[I" ∈ wsAll := wa_of 173 (by decide +kernel) (by decide +kernel)
theorem fl_Text_42 : Cond.fieldLink "PartFormulas$Text" 42 "PartFormulas$Text" "needed" "[J" ∈ wsAll := wa_of 176 (by decide +kernel) (by decide +kernel)
theorem fl_Text_46 : Cond.fieldLink "PartFormulas$Text" 46 "PartFormulas$Text" "letters" "[I" ∈ wsAll := wa_of 177 (by decide +kernel) (by decide +kernel)
theorem fl_Text_29 : Cond.fieldLink "PartFormulas$Text" 29 "PartFormulas$Text" "cellOf" "[I" ∈ wsAll := wa_of 166 (by decide +kernel) (by decide +kernel)
theorem fl_Text_33 : Cond.fieldLink "PartFormulas$Text" 33 "PartFormulas$Text" "firstExpression" "[I" ∈ wsAll := wa_of 169 (by decide +kernel) (by decide +kernel)
theorem fl_Text_58 : Cond.fieldLink "PartFormulas$Text" 58 "PartFormulas$Steps" "expressions" "I" ∈ wsAll := wa_of 133 (by decide +kernel) (by decide +kernel)
theorem fl_Text_36 : Cond.fieldLink "PartFormulas$Text" 36 "PartFormulas$Text" "conditions" "[I" ∈ wsAll := wa_of 171 (by decide +kernel) (by decide +kernel)
theorem cd_Steps_add : Cond.code ⟨"PartFormulas$Steps", "add", "(III)V"⟩ prog_5_method_3_code 4 (none : Option Jvm.ClassFile.FieldType) ∈ wsAll := wa_of 408 (by decide +kernel) (by decide +kernel)
theorem ml_Text_61 : Cond.methodLink "PartFormulas$Text" 61 ⟨"PartFormulas$Steps", "add", "(III)V"⟩ ∈ wsAll := wa_of 413 (by decide +kernel) (by decide +kernel)
theorem im_Steps_add : Cond.instanceMethod ⟨"PartFormulas$Steps", "add", "(III)V"⟩ ∈ wsAll := wa_of 406 (by decide +kernel) (by decide +kernel)
theorem se_Steps_add : Cond.selects "PartFormulas$Steps" ⟨"PartFormulas$Steps", "add", "(III)V"⟩ ⟨"PartFormulas$Steps", "add", "(III)V"⟩ ∈ wsAll := wa_of 407 (by decide +kernel) (by decide +kernel)
theorem cd_Text_openCell : Cond.code ⟨"PartFormulas$Text", "openCell", "()I"⟩ prog_6_method_4_code 1 (some .int) ∈ wsAll := wa_of 417 (by decide +kernel) (by decide +kernel)
theorem ml_Text_65 : Cond.methodLink "PartFormulas$Text" 65 ⟨"PartFormulas$Text", "openCell", "()I"⟩ ∈ wsAll := wa_of 414 (by decide +kernel) (by decide +kernel)
theorem im_Text_openCell : Cond.instanceMethod ⟨"PartFormulas$Text", "openCell", "()I"⟩ ∈ wsAll := wa_of 415 (by decide +kernel) (by decide +kernel)
theorem se_Text_openCell : Cond.selects "PartFormulas$Text" ⟨"PartFormulas$Text", "openCell", "()I"⟩ ⟨"PartFormulas$Text", "openCell", "()I"⟩ ∈ wsAll := wa_of 416 (by decide +kernel) (by decide +kernel)
theorem ini_Text : Cond.initialized "PartFormulas$Text" ∈ wsAll := wa_of 76 (by decide +kernel) (by decide +kernel)
theorem cd_Text_reaches : Cond.code ⟨"PartFormulas$Text", "reaches", "(II)Z"⟩ prog_6_method_9_code 3 (some .boolean) ∈ wsAll := wa_of 566 (by decide +kernel) (by decide +kernel)
theorem ml_Text_69 : Cond.methodLink "PartFormulas$Text" 69 ⟨"PartFormulas$Text", "reaches", "(II)Z"⟩ ∈ wsAll := wa_of 563 (by decide +kernel) (by decide +kernel)
theorem im_Text_reaches : Cond.instanceMethod ⟨"PartFormulas$Text", "reaches", "(II)Z"⟩ ∈ wsAll := wa_of 564 (by decide +kernel) (by decide +kernel)
theorem se_Text_reaches : Cond.selects "PartFormulas$Text" ⟨"PartFormulas$Text", "reaches", "(II)Z"⟩ ⟨"PartFormulas$Text", "reaches", "(II)Z"⟩ ∈ wsAll := wa_of 565 (by decide +kernel) (by decide +kernel)
theorem cd_Text_isLimit : Cond.code ⟨"PartFormulas$Text", "isLimit", "(I)Z"⟩ prog_6_method_8_code 2 (some .boolean) ∈ wsAll := wa_of 574 (by decide +kernel) (by decide +kernel)
theorem ml_Text_73 : Cond.methodLink "PartFormulas$Text" 73 ⟨"PartFormulas$Text", "isLimit", "(I)Z"⟩ ∈ wsAll := wa_of 571 (by decide +kernel) (by decide +kernel)
theorem im_Text_isLimit : Cond.instanceMethod ⟨"PartFormulas$Text", "isLimit", "(I)Z"⟩ ∈ wsAll := wa_of 572 (by decide +kernel) (by decide +kernel)
theorem se_Text_isLimit : Cond.selects "PartFormulas$Text" ⟨"PartFormulas$Text", "isLimit", "(I)Z"⟩ ⟨"PartFormulas$Text", "isLimit", "(I)Z"⟩ ∈ wsAll := wa_of 573 (by decide +kernel) (by decide +kernel)
theorem cd_Text_isRing : Cond.code ⟨"PartFormulas$Text", "isRing", "(I)Z"⟩ prog_6_method_10_code 2 (some .boolean) ∈ wsAll := wa_of 578 (by decide +kernel) (by decide +kernel)
theorem ml_Text_77 : Cond.methodLink "PartFormulas$Text" 77 ⟨"PartFormulas$Text", "isRing", "(I)Z"⟩ ∈ wsAll := wa_of 575 (by decide +kernel) (by decide +kernel)
theorem im_Text_isRing : Cond.instanceMethod ⟨"PartFormulas$Text", "isRing", "(I)Z"⟩ ∈ wsAll := wa_of 576 (by decide +kernel) (by decide +kernel)
theorem se_Text_isRing : Cond.selects "PartFormulas$Text" ⟨"PartFormulas$Text", "isRing", "(I)Z"⟩ ⟨"PartFormulas$Text", "isRing", "(I)Z"⟩ ∈ wsAll := wa_of 577 (by decide +kernel) (by decide +kernel)
theorem fl_Text_49 : Cond.fieldLink "PartFormulas$Text" 49 "PartFormulas$Text" "order" "[I" ∈ wsAll := wa_of 178 (by decide +kernel) (by decide +kernel)
theorem cn_Text_80 : Cond.constantLong "PartFormulas$Text" 80 (-1) ∈ wsAll := wa_of 579 (by decide +kernel) (by decide +kernel)
theorem d_Text_clear_0 : decode b_Text_clear 0 = .ok (.aload_n 0, 1) := by decide +kernel
theorem d_Text_clear_1 : decode b_Text_clear 1 = .ok (.iconst 0, 1) := by decide +kernel
theorem d_Text_clear_2 : decode b_Text_clear 2 = .ok (.putfield 15, 3) := by decide +kernel
theorem d_Text_clear_5 : decode b_Text_clear 5 = .ok (.aload_n 0, 1) := by decide +kernel
theorem d_Text_clear_6 : decode b_Text_clear 6 = .ok (.getfield 22, 3) := by decide +kernel
theorem d_Text_clear_9 : decode b_Text_clear 9 = .ok (.invokevirtual 55, 3) := by decide +kernel
theorem d_Text_clear_12 : decode b_Text_clear 12 = .ok (.aload_n 0, 1) := by decide +kernel
theorem d_Text_clear_13 : decode b_Text_clear 13 = .ok (.iconst 0, 1) := by decide +kernel
theorem d_Text_clear_14 : decode b_Text_clear 14 = .ok (.putfield 26, 3) := by decide +kernel
theorem d_Text_clear_17 : decode b_Text_clear 17 = .ok (.aload_n 0, 1) := by decide +kernel
theorem d_Text_clear_18 : decode b_Text_clear 18 = .ok (.iconst 0, 1) := by decide +kernel
theorem d_Text_clear_19 : decode b_Text_clear 19 = .ok (.putfield 52, 3) := by decide +kernel
theorem d_Text_clear_22 : decode b_Text_clear 22 = .ok (.iconst 0, 1) := by decide +kernel
theorem d_Text_clear_23 : decode b_Text_clear 23 = .ok (.istore_n 1, 1) := by decide +kernel
theorem d_Text_clear_24 : decode b_Text_clear 24 = .ok (.iload_n 1, 1) := by decide +kernel
theorem d_Text_clear_25 : decode b_Text_clear 25 = .ok (.bipush 60, 2) := by decide +kernel
theorem d_Text_clear_27 : decode b_Text_clear 27 = .ok (.if_icmp .ge 30, 3) := by decide +kernel
theorem d_Text_clear_30 : decode b_Text_clear 30 = .ok (.aload_n 0, 1) := by decide +kernel
theorem d_Text_clear_31 : decode b_Text_clear 31 = .ok (.getfield 39, 3) := by decide +kernel
theorem d_Text_clear_34 : decode b_Text_clear 34 = .ok (.iload_n 1, 1) := by decide +kernel
theorem d_Text_clear_35 : decode b_Text_clear 35 = .ok (.iconst (-1), 1) := by decide +kernel
theorem d_Text_clear_36 : decode b_Text_clear 36 = .ok (.iastore, 1) := by decide +kernel
theorem d_Text_clear_37 : decode b_Text_clear 37 = .ok (.aload_n 0, 1) := by decide +kernel
theorem d_Text_clear_38 : decode b_Text_clear 38 = .ok (.getfield 42, 3) := by decide +kernel
theorem d_Text_clear_41 : decode b_Text_clear 41 = .ok (.iload_n 1, 1) := by decide +kernel
theorem d_Text_clear_42 : decode b_Text_clear 42 = .ok (.lconst 0, 1) := by decide +kernel
theorem d_Text_clear_43 : decode b_Text_clear 43 = .ok (.lastore, 1) := by decide +kernel
theorem d_Text_clear_44 : decode b_Text_clear 44 = .ok (.aload_n 0, 1) := by decide +kernel
theorem d_Text_clear_45 : decode b_Text_clear 45 = .ok (.getfield 46, 3) := by decide +kernel
theorem d_Text_clear_48 : decode b_Text_clear 48 = .ok (.iload_n 1, 1) := by decide +kernel
theorem d_Text_clear_49 : decode b_Text_clear 49 = .ok (.iconst 0, 1) := by decide +kernel
theorem d_Text_clear_50 : decode b_Text_clear 50 = .ok (.iastore, 1) := by decide +kernel
theorem d_Text_clear_51 : decode b_Text_clear 51 = .ok (.iinc 1 1, 3) := by decide +kernel
theorem d_Text_clear_54 : decode b_Text_clear 54 = .ok (.goto (-30), 3) := by decide +kernel
theorem d_Text_clear_57 : decode b_Text_clear 57 = .ok (.return_, 1) := by decide +kernel
theorem d_Text_countCondition_0 : decode b_Text_countCondition 0 = .ok (.aload_n 0, 1) := by decide +kernel
theorem d_Text_countCondition_1 : decode b_Text_countCondition 1 = .ok (.getfield 26, 3) := by decide +kernel
theorem d_Text_countCondition_4 : decode b_Text_countCondition 4 = .ok (.ifCond .le 18, 3) := by decide +kernel
theorem d_Text_countCondition_7 : decode b_Text_countCondition 7 = .ok (.aload_n 0, 1) := by decide +kernel
theorem d_Text_countCondition_8 : decode b_Text_countCondition 8 = .ok (.getfield 36, 3) := by decide +kernel
theorem d_Text_countCondition_11 : decode b_Text_countCondition 11 = .ok (.aload_n 0, 1) := by decide +kernel
theorem d_Text_countCondition_12 : decode b_Text_countCondition 12 = .ok (.getfield 26, 3) := by decide +kernel
theorem d_Text_countCondition_15 : decode b_Text_countCondition 15 = .ok (.iconst 1, 1) := by decide +kernel
theorem d_Text_countCondition_16 : decode b_Text_countCondition 16 = .ok (.isub, 1) := by decide +kernel
theorem d_Text_countCondition_17 : decode b_Text_countCondition 17 = .ok (.dup2, 1) := by decide +kernel
theorem d_Text_countCondition_18 : decode b_Text_countCondition 18 = .ok (.iaload, 1) := by decide +kernel
theorem d_Text_countCondition_19 : decode b_Text_countCondition 19 = .ok (.iconst 1, 1) := by decide +kernel
theorem d_Text_countCondition_20 : decode b_Text_countCondition 20 = .ok (.iadd, 1) := by decide +kernel
theorem d_Text_countCondition_21 : decode b_Text_countCondition 21 = .ok (.iastore, 1) := by decide +kernel
theorem d_Text_countCondition_22 : decode b_Text_countCondition 22 = .ok (.return_, 1) := by decide +kernel
theorem d_Text_findOrder_0 : decode b_Text_findOrder 0 = .ok (.lconst 0, 1) := by decide +kernel
theorem d_Text_findOrder_1 : decode b_Text_findOrder 1 = .ok (.lstore_n 1, 1) := by decide +kernel
theorem d_Text_findOrder_2 : decode b_Text_findOrder 2 = .ok (.iconst 0, 1) := by decide +kernel
theorem d_Text_findOrder_3 : decode b_Text_findOrder 3 = .ok (.istore_n 3, 1) := by decide +kernel
theorem d_Text_findOrder_4 : decode b_Text_findOrder 4 = .ok (.iload_n 3, 1) := by decide +kernel
theorem d_Text_findOrder_5 : decode b_Text_findOrder 5 = .ok (.aload_n 0, 1) := by decide +kernel
theorem d_Text_findOrder_6 : decode b_Text_findOrder 6 = .ok (.getfield 26, 3) := by decide +kernel
theorem d_Text_findOrder_9 : decode b_Text_findOrder 9 = .ok (.if_icmp .ge 41, 3) := by decide +kernel
theorem d_Text_findOrder_12 : decode b_Text_findOrder 12 = .ok (.aload_n 0, 1) := by decide +kernel
theorem d_Text_findOrder_13 : decode b_Text_findOrder 13 = .ok (.iload_n 3, 1) := by decide +kernel
theorem d_Text_findOrder_14 : decode b_Text_findOrder 14 = .ok (.invokevirtual 73, 3) := by decide +kernel
theorem d_Text_findOrder_17 : decode b_Text_findOrder 17 = .ok (.ifCond .ne 27, 3) := by decide +kernel
theorem d_Text_findOrder_20 : decode b_Text_findOrder 20 = .ok (.aload_n 0, 1) := by decide +kernel
theorem d_Text_findOrder_21 : decode b_Text_findOrder 21 = .ok (.aload_n 0, 1) := by decide +kernel
theorem d_Text_findOrder_22 : decode b_Text_findOrder 22 = .ok (.getfield 29, 3) := by decide +kernel
theorem d_Text_findOrder_25 : decode b_Text_findOrder 25 = .ok (.iload_n 3, 1) := by decide +kernel
theorem d_Text_findOrder_26 : decode b_Text_findOrder 26 = .ok (.iaload, 1) := by decide +kernel
theorem d_Text_findOrder_27 : decode b_Text_findOrder 27 = .ok (.invokevirtual 77, 3) := by decide +kernel
theorem d_Text_findOrder_30 : decode b_Text_findOrder 30 = .ok (.ifCond .ne 14, 3) := by decide +kernel
theorem d_Text_findOrder_33 : decode b_Text_findOrder 33 = .ok (.lload_n 1, 1) := by decide +kernel
theorem d_Text_findOrder_34 : decode b_Text_findOrder 34 = .ok (.lconst 1, 1) := by decide +kernel
theorem d_Text_findOrder_35 : decode b_Text_findOrder 35 = .ok (.aload_n 0, 1) := by decide +kernel
theorem d_Text_findOrder_36 : decode b_Text_findOrder 36 = .ok (.getfield 29, 3) := by decide +kernel
theorem d_Text_findOrder_39 : decode b_Text_findOrder 39 = .ok (.iload_n 3, 1) := by decide +kernel
theorem d_Text_findOrder_40 : decode b_Text_findOrder 40 = .ok (.iaload, 1) := by decide +kernel
theorem d_Text_findOrder_41 : decode b_Text_findOrder 41 = .ok (.lshl, 1) := by decide +kernel
theorem d_Text_findOrder_42 : decode b_Text_findOrder 42 = .ok (.lor, 1) := by decide +kernel
theorem d_Text_findOrder_43 : decode b_Text_findOrder 43 = .ok (.lstore_n 1, 1) := by decide +kernel
theorem d_Text_findOrder_44 : decode b_Text_findOrder 44 = .ok (.iinc 3 1, 3) := by decide +kernel
theorem d_Text_findOrder_47 : decode b_Text_findOrder 47 = .ok (.goto (-43), 3) := by decide +kernel
theorem d_Text_findOrder_50 : decode b_Text_findOrder 50 = .ok (.iconst 0, 1) := by decide +kernel
theorem d_Text_findOrder_51 : decode b_Text_findOrder 51 = .ok (.istore_n 3, 1) := by decide +kernel
theorem d_Text_findOrder_52 : decode b_Text_findOrder 52 = .ok (.iload_n 3, 1) := by decide +kernel
theorem d_Text_findOrder_53 : decode b_Text_findOrder 53 = .ok (.bipush 24, 2) := by decide +kernel
theorem d_Text_findOrder_55 : decode b_Text_findOrder 55 = .ok (.if_icmp .ge 105, 3) := by decide +kernel
theorem d_Text_findOrder_58 : decode b_Text_findOrder 58 = .ok (.lload_n 1, 1) := by decide +kernel
theorem d_Text_findOrder_59 : decode b_Text_findOrder 59 = .ok (.lconst 0, 1) := by decide +kernel
theorem d_Text_findOrder_60 : decode b_Text_findOrder 60 = .ok (.lcmp, 1) := by decide +kernel
theorem d_Text_findOrder_61 : decode b_Text_findOrder 61 = .ok (.ifCond .eq 99, 3) := by decide +kernel
theorem d_Text_findOrder_64 : decode b_Text_findOrder 64 = .ok (.iconst 0, 1) := by decide +kernel
theorem d_Text_findOrder_65 : decode b_Text_findOrder 65 = .ok (.istore 4, 2) := by decide +kernel
theorem d_Text_findOrder_67 : decode b_Text_findOrder 67 = .ok (.iload 4, 2) := by decide +kernel
theorem d_Text_findOrder_69 : decode b_Text_findOrder 69 = .ok (.aload_n 0, 1) := by decide +kernel
theorem d_Text_findOrder_70 : decode b_Text_findOrder 70 = .ok (.getfield 26, 3) := by decide +kernel
theorem d_Text_findOrder_73 : decode b_Text_findOrder 73 = .ok (.if_icmp .ge 81, 3) := by decide +kernel
theorem d_Text_findOrder_76 : decode b_Text_findOrder 76 = .ok (.aload_n 0, 1) := by decide +kernel
theorem d_Text_findOrder_77 : decode b_Text_findOrder 77 = .ok (.getfield 29, 3) := by decide +kernel
theorem d_Text_findOrder_80 : decode b_Text_findOrder 80 = .ok (.iload 4, 2) := by decide +kernel
theorem d_Text_findOrder_82 : decode b_Text_findOrder 82 = .ok (.iaload, 1) := by decide +kernel
theorem d_Text_findOrder_83 : decode b_Text_findOrder 83 = .ok (.istore 5, 2) := by decide +kernel
theorem d_Text_findOrder_85 : decode b_Text_findOrder 85 = .ok (.iload 5, 2) := by decide +kernel
theorem d_Text_findOrder_87 : decode b_Text_findOrder 87 = .ok (.iconst (-1), 1) := by decide +kernel
theorem d_Text_findOrder_88 : decode b_Text_findOrder 88 = .ok (.if_icmp .eq 60, 3) := by decide +kernel
theorem d_Text_findOrder_91 : decode b_Text_findOrder 91 = .ok (.lload_n 1, 1) := by decide +kernel
theorem d_Text_findOrder_92 : decode b_Text_findOrder 92 = .ok (.iload 5, 2) := by decide +kernel
theorem d_Text_findOrder_94 : decode b_Text_findOrder 94 = .ok (.lushr, 1) := by decide +kernel
theorem d_Text_findOrder_95 : decode b_Text_findOrder 95 = .ok (.lconst 1, 1) := by decide +kernel
theorem d_Text_findOrder_96 : decode b_Text_findOrder 96 = .ok (.land, 1) := by decide +kernel
theorem d_Text_findOrder_97 : decode b_Text_findOrder 97 = .ok (.lconst 0, 1) := by decide +kernel
theorem d_Text_findOrder_98 : decode b_Text_findOrder 98 = .ok (.lcmp, 1) := by decide +kernel
theorem d_Text_findOrder_99 : decode b_Text_findOrder 99 = .ok (.ifCond .eq 49, 3) := by decide +kernel
theorem d_Text_findOrder_102 : decode b_Text_findOrder 102 = .ok (.aload_n 0, 1) := by decide +kernel
theorem d_Text_findOrder_103 : decode b_Text_findOrder 103 = .ok (.getfield 42, 3) := by decide +kernel
theorem d_Text_findOrder_106 : decode b_Text_findOrder 106 = .ok (.iload 5, 2) := by decide +kernel
theorem d_Text_findOrder_108 : decode b_Text_findOrder 108 = .ok (.laload, 1) := by decide +kernel
theorem d_Text_findOrder_109 : decode b_Text_findOrder 109 = .ok (.lload_n 1, 1) := by decide +kernel
theorem d_Text_findOrder_110 : decode b_Text_findOrder 110 = .ok (.land, 1) := by decide +kernel
theorem d_Text_findOrder_111 : decode b_Text_findOrder 111 = .ok (.lconst 0, 1) := by decide +kernel
theorem d_Text_findOrder_112 : decode b_Text_findOrder 112 = .ok (.lcmp, 1) := by decide +kernel
theorem d_Text_findOrder_113 : decode b_Text_findOrder 113 = .ok (.ifCond .ne 35, 3) := by decide +kernel
theorem d_Text_findOrder_116 : decode b_Text_findOrder 116 = .ok (.aload_n 0, 1) := by decide +kernel
theorem d_Text_findOrder_117 : decode b_Text_findOrder 117 = .ok (.getfield 49, 3) := by decide +kernel
theorem d_Text_findOrder_120 : decode b_Text_findOrder 120 = .ok (.aload_n 0, 1) := by decide +kernel
theorem d_Text_findOrder_121 : decode b_Text_findOrder 121 = .ok (.getfield 52, 3) := by decide +kernel
theorem d_Text_findOrder_124 : decode b_Text_findOrder 124 = .ok (.iload 4, 2) := by decide +kernel
theorem d_Text_findOrder_126 : decode b_Text_findOrder 126 = .ok (.iastore, 1) := by decide +kernel
theorem d_Text_findOrder_127 : decode b_Text_findOrder 127 = .ok (.aload_n 0, 1) := by decide +kernel
theorem d_Text_findOrder_128 : decode b_Text_findOrder 128 = .ok (.dup, 1) := by decide +kernel
theorem d_Text_findOrder_129 : decode b_Text_findOrder 129 = .ok (.getfield 52, 3) := by decide +kernel
theorem d_Text_findOrder_132 : decode b_Text_findOrder 132 = .ok (.iconst 1, 1) := by decide +kernel
theorem d_Text_findOrder_133 : decode b_Text_findOrder 133 = .ok (.iadd, 1) := by decide +kernel
theorem d_Text_findOrder_134 : decode b_Text_findOrder 134 = .ok (.putfield 52, 3) := by decide +kernel
theorem d_Text_findOrder_137 : decode b_Text_findOrder 137 = .ok (.lload_n 1, 1) := by decide +kernel
theorem d_Text_findOrder_138 : decode b_Text_findOrder 138 = .ok (.lconst 1, 1) := by decide +kernel
theorem d_Text_findOrder_139 : decode b_Text_findOrder 139 = .ok (.iload 5, 2) := by decide +kernel
theorem d_Text_findOrder_141 : decode b_Text_findOrder 141 = .ok (.lshl, 1) := by decide +kernel
theorem d_Text_findOrder_142 : decode b_Text_findOrder 142 = .ok (.ldc2_w 80, 3) := by decide +kernel
theorem d_Text_findOrder_145 : decode b_Text_findOrder 145 = .ok (.lxor, 1) := by decide +kernel
theorem d_Text_findOrder_146 : decode b_Text_findOrder 146 = .ok (.land, 1) := by decide +kernel
theorem d_Text_findOrder_147 : decode b_Text_findOrder 147 = .ok (.lstore_n 1, 1) := by decide +kernel
theorem d_Text_findOrder_148 : decode b_Text_findOrder 148 = .ok (.iinc 4 1, 3) := by decide +kernel
theorem d_Text_findOrder_151 : decode b_Text_findOrder 151 = .ok (.goto (-84), 3) := by decide +kernel
theorem d_Text_findOrder_154 : decode b_Text_findOrder 154 = .ok (.iinc 3 1, 3) := by decide +kernel
theorem d_Text_findOrder_157 : decode b_Text_findOrder 157 = .ok (.goto (-105), 3) := by decide +kernel
theorem d_Text_findOrder_160 : decode b_Text_findOrder 160 = .ok (.return_, 1) := by decide +kernel
theorem d_Text_followNeeds_0 : decode b_Text_followNeeds 0 = .ok (.iconst 0, 1) := by decide +kernel
theorem d_Text_followNeeds_1 : decode b_Text_followNeeds 1 = .ok (.istore_n 1, 1) := by decide +kernel
theorem d_Text_followNeeds_2 : decode b_Text_followNeeds 2 = .ok (.iload_n 1, 1) := by decide +kernel
theorem d_Text_followNeeds_3 : decode b_Text_followNeeds 3 = .ok (.bipush 60, 2) := by decide +kernel
theorem d_Text_followNeeds_5 : decode b_Text_followNeeds 5 = .ok (.if_icmp .ge 62, 3) := by decide +kernel
theorem d_Text_followNeeds_8 : decode b_Text_followNeeds 8 = .ok (.iconst 0, 1) := by decide +kernel
theorem d_Text_followNeeds_9 : decode b_Text_followNeeds 9 = .ok (.istore_n 2, 1) := by decide +kernel
theorem d_Text_followNeeds_10 : decode b_Text_followNeeds 10 = .ok (.iload_n 2, 1) := by decide +kernel
theorem d_Text_followNeeds_11 : decode b_Text_followNeeds 11 = .ok (.bipush 60, 2) := by decide +kernel
theorem d_Text_followNeeds_13 : decode b_Text_followNeeds 13 = .ok (.if_icmp .ge 48, 3) := by decide +kernel
theorem d_Text_followNeeds_16 : decode b_Text_followNeeds 16 = .ok (.aload_n 0, 1) := by decide +kernel
theorem d_Text_followNeeds_17 : decode b_Text_followNeeds 17 = .ok (.iload_n 2, 1) := by decide +kernel
theorem d_Text_followNeeds_18 : decode b_Text_followNeeds 18 = .ok (.iload_n 1, 1) := by decide +kernel
theorem d_Text_followNeeds_19 : decode b_Text_followNeeds 19 = .ok (.invokevirtual 69, 3) := by decide +kernel
theorem d_Text_followNeeds_22 : decode b_Text_followNeeds 22 = .ok (.ifCond .eq 33, 3) := by decide +kernel
theorem d_Text_followNeeds_25 : decode b_Text_followNeeds 25 = .ok (.aload_n 0, 1) := by decide +kernel
theorem d_Text_followNeeds_26 : decode b_Text_followNeeds 26 = .ok (.getfield 42, 3) := by decide +kernel
theorem d_Text_followNeeds_29 : decode b_Text_followNeeds 29 = .ok (.iload_n 2, 1) := by decide +kernel
theorem d_Text_followNeeds_30 : decode b_Text_followNeeds 30 = .ok (.dup2, 1) := by decide +kernel
theorem d_Text_followNeeds_31 : decode b_Text_followNeeds 31 = .ok (.laload, 1) := by decide +kernel
theorem d_Text_followNeeds_32 : decode b_Text_followNeeds 32 = .ok (.aload_n 0, 1) := by decide +kernel
theorem d_Text_followNeeds_33 : decode b_Text_followNeeds 33 = .ok (.getfield 42, 3) := by decide +kernel
theorem d_Text_followNeeds_36 : decode b_Text_followNeeds 36 = .ok (.iload_n 1, 1) := by decide +kernel
theorem d_Text_followNeeds_37 : decode b_Text_followNeeds 37 = .ok (.laload, 1) := by decide +kernel
theorem d_Text_followNeeds_38 : decode b_Text_followNeeds 38 = .ok (.lor, 1) := by decide +kernel
theorem d_Text_followNeeds_39 : decode b_Text_followNeeds 39 = .ok (.lastore, 1) := by decide +kernel
theorem d_Text_followNeeds_40 : decode b_Text_followNeeds 40 = .ok (.aload_n 0, 1) := by decide +kernel
theorem d_Text_followNeeds_41 : decode b_Text_followNeeds 41 = .ok (.getfield 46, 3) := by decide +kernel
theorem d_Text_followNeeds_44 : decode b_Text_followNeeds 44 = .ok (.iload_n 2, 1) := by decide +kernel
theorem d_Text_followNeeds_45 : decode b_Text_followNeeds 45 = .ok (.dup2, 1) := by decide +kernel
theorem d_Text_followNeeds_46 : decode b_Text_followNeeds 46 = .ok (.iaload, 1) := by decide +kernel
theorem d_Text_followNeeds_47 : decode b_Text_followNeeds 47 = .ok (.aload_n 0, 1) := by decide +kernel
theorem d_Text_followNeeds_48 : decode b_Text_followNeeds 48 = .ok (.getfield 46, 3) := by decide +kernel
theorem d_Text_followNeeds_51 : decode b_Text_followNeeds 51 = .ok (.iload_n 1, 1) := by decide +kernel
theorem d_Text_followNeeds_52 : decode b_Text_followNeeds 52 = .ok (.iaload, 1) := by decide +kernel
theorem d_Text_followNeeds_53 : decode b_Text_followNeeds 53 = .ok (.ior, 1) := by decide +kernel
theorem d_Text_followNeeds_54 : decode b_Text_followNeeds 54 = .ok (.iastore, 1) := by decide +kernel
theorem d_Text_followNeeds_55 : decode b_Text_followNeeds 55 = .ok (.iinc 2 1, 3) := by decide +kernel
theorem d_Text_followNeeds_58 : decode b_Text_followNeeds 58 = .ok (.goto (-48), 3) := by decide +kernel
theorem d_Text_followNeeds_61 : decode b_Text_followNeeds 61 = .ok (.iinc 1 1, 3) := by decide +kernel
theorem d_Text_followNeeds_64 : decode b_Text_followNeeds 64 = .ok (.goto (-62), 3) := by decide +kernel
theorem d_Text_followNeeds_67 : decode b_Text_followNeeds 67 = .ok (.return_, 1) := by decide +kernel
theorem d_Text_hangsOn_0 : decode b_Text_hangsOn 0 = .ok (.aload_n 0, 1) := by decide +kernel
theorem d_Text_hangsOn_1 : decode b_Text_hangsOn 1 = .ok (.getfield 46, 3) := by decide +kernel
theorem d_Text_hangsOn_4 : decode b_Text_hangsOn 4 = .ok (.iload_n 1, 1) := by decide +kernel
theorem d_Text_hangsOn_5 : decode b_Text_hangsOn 5 = .ok (.iaload, 1) := by decide +kernel
theorem d_Text_hangsOn_6 : decode b_Text_hangsOn 6 = .ok (.iload_n 2, 1) := by decide +kernel
theorem d_Text_hangsOn_7 : decode b_Text_hangsOn 7 = .ok (.iushr, 1) := by decide +kernel
theorem d_Text_hangsOn_8 : decode b_Text_hangsOn 8 = .ok (.iconst 1, 1) := by decide +kernel
theorem d_Text_hangsOn_9 : decode b_Text_hangsOn 9 = .ok (.iand, 1) := by decide +kernel
theorem d_Text_hangsOn_10 : decode b_Text_hangsOn 10 = .ok (.ifCond .eq 7, 3) := by decide +kernel
theorem d_Text_hangsOn_13 : decode b_Text_hangsOn 13 = .ok (.iconst 1, 1) := by decide +kernel
theorem d_Text_hangsOn_14 : decode b_Text_hangsOn 14 = .ok (.goto 4, 3) := by decide +kernel
theorem d_Text_hangsOn_17 : decode b_Text_hangsOn 17 = .ok (.iconst 0, 1) := by decide +kernel
theorem d_Text_hangsOn_18 : decode b_Text_hangsOn 18 = .ok (.ireturn, 1) := by decide +kernel
theorem d_Text_isLimit_0 : decode b_Text_isLimit 0 = .ok (.aload_n 0, 1) := by decide +kernel
theorem d_Text_isLimit_1 : decode b_Text_isLimit 1 = .ok (.getfield 29, 3) := by decide +kernel
theorem d_Text_isLimit_4 : decode b_Text_isLimit 4 = .ok (.iload_n 1, 1) := by decide +kernel
theorem d_Text_isLimit_5 : decode b_Text_isLimit 5 = .ok (.iaload, 1) := by decide +kernel
theorem d_Text_isLimit_6 : decode b_Text_isLimit 6 = .ok (.iconst (-1), 1) := by decide +kernel
theorem d_Text_isLimit_7 : decode b_Text_isLimit 7 = .ok (.if_icmp .ne 7, 3) := by decide +kernel
theorem d_Text_isLimit_10 : decode b_Text_isLimit 10 = .ok (.iconst 1, 1) := by decide +kernel
theorem d_Text_isLimit_11 : decode b_Text_isLimit 11 = .ok (.goto 4, 3) := by decide +kernel
theorem d_Text_isLimit_14 : decode b_Text_isLimit 14 = .ok (.iconst 0, 1) := by decide +kernel
theorem d_Text_isLimit_15 : decode b_Text_isLimit 15 = .ok (.ireturn, 1) := by decide +kernel
theorem d_Text_isRing_0 : decode b_Text_isRing 0 = .ok (.aload_n 0, 1) := by decide +kernel
theorem d_Text_isRing_1 : decode b_Text_isRing 1 = .ok (.iload_n 1, 1) := by decide +kernel
theorem d_Text_isRing_2 : decode b_Text_isRing 2 = .ok (.iload_n 1, 1) := by decide +kernel
theorem d_Text_isRing_3 : decode b_Text_isRing 3 = .ok (.invokevirtual 69, 3) := by decide +kernel
theorem d_Text_isRing_6 : decode b_Text_isRing 6 = .ok (.ireturn, 1) := by decide +kernel
theorem d_Text_mentionCell_0 : decode b_Text_mentionCell 0 = .ok (.aload_n 0, 1) := by decide +kernel
theorem d_Text_mentionCell_1 : decode b_Text_mentionCell 1 = .ok (.getfield 22, 3) := by decide +kernel
theorem d_Text_mentionCell_4 : decode b_Text_mentionCell 4 = .ok (.iconst 3, 1) := by decide +kernel
theorem d_Text_mentionCell_5 : decode b_Text_mentionCell 5 = .ok (.iload_n 1, 1) := by decide +kernel
theorem d_Text_mentionCell_6 : decode b_Text_mentionCell 6 = .ok (.iconst 0, 1) := by decide +kernel
theorem d_Text_mentionCell_7 : decode b_Text_mentionCell 7 = .ok (.invokevirtual 61, 3) := by decide +kernel
theorem d_Text_mentionCell_10 : decode b_Text_mentionCell 10 = .ok (.aload_n 0, 1) := by decide +kernel
theorem d_Text_mentionCell_11 : decode b_Text_mentionCell 11 = .ok (.invokevirtual 65, 3) := by decide +kernel
theorem d_Text_mentionCell_14 : decode b_Text_mentionCell 14 = .ok (.istore_n 2, 1) := by decide +kernel
theorem d_Text_mentionCell_15 : decode b_Text_mentionCell 15 = .ok (.iload_n 2, 1) := by decide +kernel
theorem d_Text_mentionCell_16 : decode b_Text_mentionCell 16 = .ok (.iconst (-1), 1) := by decide +kernel
theorem d_Text_mentionCell_17 : decode b_Text_mentionCell 17 = .ok (.if_icmp .eq 15, 3) := by decide +kernel
theorem d_Text_mentionCell_20 : decode b_Text_mentionCell 20 = .ok (.aload_n 0, 1) := by decide +kernel
theorem d_Text_mentionCell_21 : decode b_Text_mentionCell 21 = .ok (.getfield 42, 3) := by decide +kernel
theorem d_Text_mentionCell_24 : decode b_Text_mentionCell 24 = .ok (.iload_n 2, 1) := by decide +kernel
theorem d_Text_mentionCell_25 : decode b_Text_mentionCell 25 = .ok (.dup2, 1) := by decide +kernel
theorem d_Text_mentionCell_26 : decode b_Text_mentionCell 26 = .ok (.laload, 1) := by decide +kernel
theorem d_Text_mentionCell_27 : decode b_Text_mentionCell 27 = .ok (.lconst 1, 1) := by decide +kernel
theorem d_Text_mentionCell_28 : decode b_Text_mentionCell 28 = .ok (.iload_n 1, 1) := by decide +kernel
theorem d_Text_mentionCell_29 : decode b_Text_mentionCell 29 = .ok (.lshl, 1) := by decide +kernel
theorem d_Text_mentionCell_30 : decode b_Text_mentionCell 30 = .ok (.lor, 1) := by decide +kernel
theorem d_Text_mentionCell_31 : decode b_Text_mentionCell 31 = .ok (.lastore, 1) := by decide +kernel
theorem d_Text_mentionCell_32 : decode b_Text_mentionCell 32 = .ok (.return_, 1) := by decide +kernel
theorem d_Text_mentionOption_0 : decode b_Text_mentionOption 0 = .ok (.aload_n 0, 1) := by decide +kernel
theorem d_Text_mentionOption_1 : decode b_Text_mentionOption 1 = .ok (.getfield 22, 3) := by decide +kernel
theorem d_Text_mentionOption_4 : decode b_Text_mentionOption 4 = .ok (.iconst 2, 1) := by decide +kernel
theorem d_Text_mentionOption_5 : decode b_Text_mentionOption 5 = .ok (.iload_n 1, 1) := by decide +kernel
theorem d_Text_mentionOption_6 : decode b_Text_mentionOption 6 = .ok (.iconst 0, 1) := by decide +kernel
theorem d_Text_mentionOption_7 : decode b_Text_mentionOption 7 = .ok (.invokevirtual 61, 3) := by decide +kernel
theorem d_Text_mentionOption_10 : decode b_Text_mentionOption 10 = .ok (.aload_n 0, 1) := by decide +kernel
theorem d_Text_mentionOption_11 : decode b_Text_mentionOption 11 = .ok (.invokevirtual 65, 3) := by decide +kernel
theorem d_Text_mentionOption_14 : decode b_Text_mentionOption 14 = .ok (.istore_n 2, 1) := by decide +kernel
theorem d_Text_mentionOption_15 : decode b_Text_mentionOption 15 = .ok (.iload_n 2, 1) := by decide +kernel
theorem d_Text_mentionOption_16 : decode b_Text_mentionOption 16 = .ok (.iconst (-1), 1) := by decide +kernel
theorem d_Text_mentionOption_17 : decode b_Text_mentionOption 17 = .ok (.if_icmp .eq 15, 3) := by decide +kernel
theorem d_Text_mentionOption_20 : decode b_Text_mentionOption 20 = .ok (.aload_n 0, 1) := by decide +kernel
theorem d_Text_mentionOption_21 : decode b_Text_mentionOption 21 = .ok (.getfield 46, 3) := by decide +kernel
theorem d_Text_mentionOption_24 : decode b_Text_mentionOption 24 = .ok (.iload_n 2, 1) := by decide +kernel
theorem d_Text_mentionOption_25 : decode b_Text_mentionOption 25 = .ok (.dup2, 1) := by decide +kernel
theorem d_Text_mentionOption_26 : decode b_Text_mentionOption 26 = .ok (.iaload, 1) := by decide +kernel
theorem d_Text_mentionOption_27 : decode b_Text_mentionOption 27 = .ok (.iconst 1, 1) := by decide +kernel
theorem d_Text_mentionOption_28 : decode b_Text_mentionOption 28 = .ok (.iload_n 1, 1) := by decide +kernel
theorem d_Text_mentionOption_29 : decode b_Text_mentionOption 29 = .ok (.ishl, 1) := by decide +kernel
theorem d_Text_mentionOption_30 : decode b_Text_mentionOption 30 = .ok (.ior, 1) := by decide +kernel
theorem d_Text_mentionOption_31 : decode b_Text_mentionOption 31 = .ok (.iastore, 1) := by decide +kernel
theorem d_Text_mentionOption_32 : decode b_Text_mentionOption 32 = .ok (.return_, 1) := by decide +kernel
theorem d_Text_openCell_0 : decode b_Text_openCell 0 = .ok (.aload_n 0, 1) := by decide +kernel
theorem d_Text_openCell_1 : decode b_Text_openCell 1 = .ok (.getfield 26, 3) := by decide +kernel
theorem d_Text_openCell_4 : decode b_Text_openCell 4 = .ok (.ifCond .le 17, 3) := by decide +kernel
theorem d_Text_openCell_7 : decode b_Text_openCell 7 = .ok (.aload_n 0, 1) := by decide +kernel
theorem d_Text_openCell_8 : decode b_Text_openCell 8 = .ok (.getfield 29, 3) := by decide +kernel
theorem d_Text_openCell_11 : decode b_Text_openCell 11 = .ok (.aload_n 0, 1) := by decide +kernel
theorem d_Text_openCell_12 : decode b_Text_openCell 12 = .ok (.getfield 26, 3) := by decide +kernel
theorem d_Text_openCell_15 : decode b_Text_openCell 15 = .ok (.iconst 1, 1) := by decide +kernel
theorem d_Text_openCell_16 : decode b_Text_openCell 16 = .ok (.isub, 1) := by decide +kernel
theorem d_Text_openCell_17 : decode b_Text_openCell 17 = .ok (.iaload, 1) := by decide +kernel
theorem d_Text_openCell_18 : decode b_Text_openCell 18 = .ok (.goto 4, 3) := by decide +kernel
theorem d_Text_openCell_21 : decode b_Text_openCell 21 = .ok (.iconst (-1), 1) := by decide +kernel
theorem d_Text_openCell_22 : decode b_Text_openCell 22 = .ok (.ireturn, 1) := by decide +kernel
theorem d_Text_openStatement_0 : decode b_Text_openStatement 0 = .ok (.aload_n 0, 1) := by decide +kernel
theorem d_Text_openStatement_1 : decode b_Text_openStatement 1 = .ok (.getfield 26, 3) := by decide +kernel
theorem d_Text_openStatement_4 : decode b_Text_openStatement 4 = .ok (.bipush 24, 2) := by decide +kernel
theorem d_Text_openStatement_6 : decode b_Text_openStatement 6 = .ok (.if_icmp .ge 64, 3) := by decide +kernel
theorem d_Text_openStatement_9 : decode b_Text_openStatement 9 = .ok (.aload_n 0, 1) := by decide +kernel
theorem d_Text_openStatement_10 : decode b_Text_openStatement 10 = .ok (.getfield 29, 3) := by decide +kernel
theorem d_Text_openStatement_13 : decode b_Text_openStatement 13 = .ok (.aload_n 0, 1) := by decide +kernel
theorem d_Text_openStatement_14 : decode b_Text_openStatement 14 = .ok (.getfield 26, 3) := by decide +kernel
theorem d_Text_openStatement_17 : decode b_Text_openStatement 17 = .ok (.iload_n 1, 1) := by decide +kernel
theorem d_Text_openStatement_18 : decode b_Text_openStatement 18 = .ok (.iastore, 1) := by decide +kernel
theorem d_Text_openStatement_19 : decode b_Text_openStatement 19 = .ok (.aload_n 0, 1) := by decide +kernel
theorem d_Text_openStatement_20 : decode b_Text_openStatement 20 = .ok (.getfield 33, 3) := by decide +kernel
theorem d_Text_openStatement_23 : decode b_Text_openStatement 23 = .ok (.aload_n 0, 1) := by decide +kernel
theorem d_Text_openStatement_24 : decode b_Text_openStatement 24 = .ok (.getfield 26, 3) := by decide +kernel
theorem d_Text_openStatement_27 : decode b_Text_openStatement 27 = .ok (.aload_n 0, 1) := by decide +kernel
theorem d_Text_openStatement_28 : decode b_Text_openStatement 28 = .ok (.getfield 22, 3) := by decide +kernel
theorem d_Text_openStatement_31 : decode b_Text_openStatement 31 = .ok (.getfield 58, 3) := by decide +kernel
theorem d_Text_openStatement_34 : decode b_Text_openStatement 34 = .ok (.iastore, 1) := by decide +kernel
theorem d_Text_openStatement_35 : decode b_Text_openStatement 35 = .ok (.aload_n 0, 1) := by decide +kernel
theorem d_Text_openStatement_36 : decode b_Text_openStatement 36 = .ok (.getfield 36, 3) := by decide +kernel
theorem d_Text_openStatement_39 : decode b_Text_openStatement 39 = .ok (.aload_n 0, 1) := by decide +kernel
theorem d_Text_openStatement_40 : decode b_Text_openStatement 40 = .ok (.getfield 26, 3) := by decide +kernel
theorem d_Text_openStatement_43 : decode b_Text_openStatement 43 = .ok (.iconst 0, 1) := by decide +kernel
theorem d_Text_openStatement_44 : decode b_Text_openStatement 44 = .ok (.iastore, 1) := by decide +kernel
theorem d_Text_openStatement_45 : decode b_Text_openStatement 45 = .ok (.iload_n 1, 1) := by decide +kernel
theorem d_Text_openStatement_46 : decode b_Text_openStatement 46 = .ok (.iconst (-1), 1) := by decide +kernel
theorem d_Text_openStatement_47 : decode b_Text_openStatement 47 = .ok (.if_icmp .eq 13, 3) := by decide +kernel
theorem d_Text_openStatement_50 : decode b_Text_openStatement 50 = .ok (.aload_n 0, 1) := by decide +kernel
theorem d_Text_openStatement_51 : decode b_Text_openStatement 51 = .ok (.getfield 39, 3) := by decide +kernel
theorem d_Text_openStatement_54 : decode b_Text_openStatement 54 = .ok (.iload_n 1, 1) := by decide +kernel
theorem d_Text_openStatement_55 : decode b_Text_openStatement 55 = .ok (.aload_n 0, 1) := by decide +kernel
theorem d_Text_openStatement_56 : decode b_Text_openStatement 56 = .ok (.getfield 26, 3) := by decide +kernel
theorem d_Text_openStatement_59 : decode b_Text_openStatement 59 = .ok (.iastore, 1) := by decide +kernel
theorem d_Text_openStatement_60 : decode b_Text_openStatement 60 = .ok (.aload_n 0, 1) := by decide +kernel
theorem d_Text_openStatement_61 : decode b_Text_openStatement 61 = .ok (.dup, 1) := by decide +kernel
theorem d_Text_openStatement_62 : decode b_Text_openStatement 62 = .ok (.getfield 26, 3) := by decide +kernel
theorem d_Text_openStatement_65 : decode b_Text_openStatement 65 = .ok (.iconst 1, 1) := by decide +kernel
theorem d_Text_openStatement_66 : decode b_Text_openStatement 66 = .ok (.iadd, 1) := by decide +kernel
theorem d_Text_openStatement_67 : decode b_Text_openStatement 67 = .ok (.putfield 26, 3) := by decide +kernel
theorem d_Text_openStatement_70 : decode b_Text_openStatement 70 = .ok (.return_, 1) := by decide +kernel
theorem d_Text_reaches_0 : decode b_Text_reaches 0 = .ok (.aload_n 0, 1) := by decide +kernel
theorem d_Text_reaches_1 : decode b_Text_reaches 1 = .ok (.getfield 42, 3) := by decide +kernel
theorem d_Text_reaches_4 : decode b_Text_reaches 4 = .ok (.iload_n 1, 1) := by decide +kernel
theorem d_Text_reaches_5 : decode b_Text_reaches 5 = .ok (.laload, 1) := by decide +kernel
theorem d_Text_reaches_6 : decode b_Text_reaches 6 = .ok (.iload_n 2, 1) := by decide +kernel
theorem d_Text_reaches_7 : decode b_Text_reaches 7 = .ok (.lushr, 1) := by decide +kernel
theorem d_Text_reaches_8 : decode b_Text_reaches 8 = .ok (.lconst 1, 1) := by decide +kernel
theorem d_Text_reaches_9 : decode b_Text_reaches 9 = .ok (.land, 1) := by decide +kernel
theorem d_Text_reaches_10 : decode b_Text_reaches 10 = .ok (.lconst 0, 1) := by decide +kernel
theorem d_Text_reaches_11 : decode b_Text_reaches 11 = .ok (.lcmp, 1) := by decide +kernel
theorem d_Text_reaches_12 : decode b_Text_reaches 12 = .ok (.ifCond .eq 7, 3) := by decide +kernel
theorem d_Text_reaches_15 : decode b_Text_reaches 15 = .ok (.iconst 1, 1) := by decide +kernel
theorem d_Text_reaches_16 : decode b_Text_reaches 16 = .ok (.goto 4, 3) := by decide +kernel
theorem d_Text_reaches_19 : decode b_Text_reaches 19 = .ok (.iconst 0, 1) := by decide +kernel
theorem d_Text_reaches_20 : decode b_Text_reaches 20 = .ok (.ireturn, 1) := by decide +kernel
theorem g_Text_55 : GoodIn wsAll (wsV R_Text 55 R_Steps y_Steps_clear ws_Steps_clear) := gd_V ml_Text_55 im_Steps_clear se_Steps_clear ini_Steps cd_Steps_clear
def F_Text_clear_24  : Nat → Int32 → Ob → Ob → Option (Ob × Ob)
  | 0, _, _, _ => none
  | n + 1, x1, o0, o1 =>
    if (60 : Int32) ≤ x1 then (some (o0, o1)) else (chk (inb x1 60) (F_Text_clear_24 n (x1 + (1 : Int32)) (s32 (s64 (s32 o0 7 (Int32.toNatClampNeg x1) (-1 : Int32)) 8 (Int32.toNatClampNeg x1) (0 : Int64)) 9 (Int32.toNatClampNeg x1) (0 : Int32)) o1))
def F_Text_clear  (o0 o1 : Ob) : Option (Ob × Ob) :=
  bind1 (F_Steps_clear o1) (fun o_2 => F_Text_clear_24 fuel (0 : Int32) (s32 (s32 (s32 o0 1 0 (0 : Int32)) 3 0 (0 : Int32)) 11 0 (0 : Int32)) o_2)
abbrev ws_Text_clear : List Cond := Cond.code y_Text_clear b_Text_clear 2 (none : Option Jvm.ClassFile.FieldType) :: wsAll
abbrev rm_Text_clear : Room := { frames := 1, cells := 0, slots := 0, locals := 20 }
set_option maxHeartbeats 4000000 in
set_option maxRecDepth 100000 in
theorem k_Text_clear_24 {p : Program} {l : Launch} {e : Env} {s : State} {m : MethodId} {args : Array Value} {below : List Frame} {meth : Method} {c : Code} {A : Nat → Prop} {ct dC : Nat → ClassId} {dI : Nat → Nat → Nat} {a0 a1 : Nat → Nat}  {n0 n1 : Ob}   (C0 : cx wsAll vwCl nx p s m args meth c (dC, dI) (tyA ct) b_Text_clear 2 (none : Option Jvm.ClassFile.FieldType) R_Text A [adText a0, adSteps a1])  : ∀ (n : Nat) (x1 : Int32) (o0 o1 : Ob) (H : Heap) (locs : List Loc) (ls : Array Slot), bw_P (dC, dI) vwCl [wText ct a0 (a1 0) o0, wSteps ct a1 o1] H → va_S A s.heap H locs → lv_has ls 2 [(0, .ref (a0 0)), (1, .int x1)] → F_Text_clear_24 n x1 o0 o1 = some (n0, n1) → W p l e (headSpec ws_Text_clear rm_Text_clear).room s m args below meth c H locs 0 0 (MQ below (bw_Q (dC, dI) vwCl none [wText ct a0 (a1 0) n0, wSteps ct a1 n1] A) args s 0 0 A) (F0 m 24 ls []) := by
  obtain ⟨hx, hb, hr, hml, hown, hlocks, hts, hK, hN, hA, hnx⟩ := id C0
  intro n
  induction n with
  | zero =>
    intro x1 o0 o1 H locs ls hP hS hl h
    cases h
  | succ n ih =>
    intro x1 o0 o1 H locs ls hP hS hl h
    rw [F_Text_clear_24] at h
    refine lv_iload_n hx hb d_Text_clear_24 rfl (lv_at hl 1 rfl) ?_
    refine lv_bipush (v := 60) hx hb d_Text_clear_25 (by decide) ?_
    refine lv_icmp_ge (tgt := 57) hx hb d_Text_clear_27 (by decide) (fun c3 => ?_) (fun c3 => ?_)
    · have h := ite_t c3 h
      obtain ⟨rfl, rfl⟩ := res2 h
      exact W.vret hx hb hr (fun t ht hW => ⟨rfl, by rw [ht]; exact hP, hS.F ht⟩) hS.2.2 d_Text_clear_57
    · have h := ite_f c3 h
      refine lv_aload_n hx hb d_Text_clear_30 rfl (lv_at hl 0 rfl) ?_
      refine va_get (D := (dC, dI)) (ci := 2) (v := .ref (a0 5)) (C := R_Text) (T := T_Text) (N := 12) hx hb hts in_Text hown hK (hP 0 _ rfl) 0 rfl rfl 7 (by decide) (hts _ fl_Text_39) (fun _ h9 => h9) rfl d_Text_clear_31 ?_
      refine lv_iload_n hx hb d_Text_clear_34 rfl (lv_at hl 1 rfl) ?_
      refine lv_iconst (v := -1) hx hb d_Text_clear_35 (by decide) ?_
      obtain ⟨hi4, h⟩ := chk_some h
      refine st_Text_7 hx hb hK hP hN hS 0 rfl (inb_in hi4) d_Text_clear_36 (fun H locs hP hS => ?_)
      have hP : bw_P (dC, dI) vwCl [wText ct a0 (a1 0) (s32 o0 7 (Int32.toNatClampNeg x1) (-1 : Int32)), wSteps ct a1 o1] H := hP
      refine lv_aload_n hx hb d_Text_clear_37 rfl (lv_at hl 0 rfl) ?_
      refine va_get (D := (dC, dI)) (ci := 2) (v := .ref (a0 6)) (C := R_Text) (T := T_Text) (N := 12) hx hb hts in_Text hown hK (hP 0 _ rfl) 0 rfl rfl 8 (by decide) (hts _ fl_Text_42) (fun _ h9 => h9) rfl d_Text_clear_38 ?_
      refine lv_iload_n hx hb d_Text_clear_41 rfl (lv_at hl 1 rfl) ?_
      refine lv_lconst (v := 0) hx hb d_Text_clear_42 (by decide) ?_
      refine st_Text_8 hx hb hK hP hN hS 0 rfl (inb_in hi4) d_Text_clear_43 (fun H locs hP hS => ?_)
      have hP : bw_P (dC, dI) vwCl [wText ct a0 (a1 0) (s64 (s32 o0 7 (Int32.toNatClampNeg x1) (-1 : Int32)) 8 (Int32.toNatClampNeg x1) (0 : Int64)), wSteps ct a1 o1] H := hP
      refine lv_aload_n hx hb d_Text_clear_44 rfl (lv_at hl 0 rfl) ?_
      refine va_get (D := (dC, dI)) (ci := 2) (v := .ref (a0 7)) (C := R_Text) (T := T_Text) (N := 12) hx hb hts in_Text hown hK (hP 0 _ rfl) 0 rfl rfl 9 (by decide) (hts _ fl_Text_46) (fun _ h9 => h9) rfl d_Text_clear_45 ?_
      refine lv_iload_n hx hb d_Text_clear_48 rfl (lv_at hl 1 rfl) ?_
      refine lv_iconst (v := 0) hx hb d_Text_clear_49 (by decide) ?_
      refine st_Text_9 hx hb hK hP hN hS 0 rfl (inb_in hi4) d_Text_clear_50 (fun H locs hP hS => ?_)
      have hP : bw_P (dC, dI) vwCl [wText ct a0 (a1 0) (s32 (s64 (s32 o0 7 (Int32.toNatClampNeg x1) (-1 : Int32)) 8 (Int32.toNatClampNeg x1) (0 : Int64)) 9 (Int32.toNatClampNeg x1) (0 : Int32)), wSteps ct a1 o1] H := hP
      refine lv_iinc (v := (x1 + (1 : Int32))) (lv' := [(1, .int (x1 + (1 : Int32))), (0, .ref (a0 0))]) hx hb d_Text_clear_51 hl (k := 1) rfl rfl (by decide) rfl (fun ls hl => ?_)
      refine lv_goto (tgt := 24) hx hb d_Text_clear_54 (by decide) ?_
      exact ih (x1 + (1 : Int32)) (s32 (s64 (s32 o0 7 (Int32.toNatClampNeg x1) (-1 : Int32)) 8 (Int32.toNatClampNeg x1) (0 : Int64)) 9 (Int32.toNatClampNeg x1) (0 : Int32)) o1 _ _ _ hP hS (lv_sub hl [1, 0] rfl) h
set_option maxHeartbeats 4000000 in
set_option maxRecDepth 100000 in
theorem c_Text_clear (l : Launch) (ct dC : Nat → ClassId) (dI : Nat → Nat → Nat) (a0 a1 : Nat → Nat)  (sz : Nat)  (o0 o1 : Ob) (n0 n1 : Ob) (hF : F_Text_clear o0 o1 = some (n0, n1)) : Met l y_Text_clear ws_Text_clear rm_Text_clear (bw_Pc [.ref (a0 0)] (dC, dI) vwCl (tyA ct) [wText ct a0 (a1 0) o0, wSteps ct a1 o1] sz nx) (bw_Q (dC, dI) vwCl none [wText ct a0 (a1 0) n0, wSteps ct a1 n1] (bw_A [adText a0, adSteps a1] sz)) 0 0 (bw_A [adText a0, adSteps a1] sz) := by
  refine Met.ofW (cc := b_Text_clear) (maxL := 2) (ret := (none : Option Jvm.ClassFile.FieldType)) (by decide) rfl ?_
  intro p e s m args below meth c s₁ B hml hv
  obtain ⟨rfl, hsz, hP, hK, hN0, hnx⟩ := hv
  have hx := B.exec
  have hb := B.bytes
  have hr := B.returns
  have hts : ∀ w ∈ wsAll, w.before [.ref (a0 0)].toArray s = true := fun w h9 => atoms_spec (ws := ws_Text_clear) B.pre w (List.mem_cons_of_mem _ h9)
  have hown : s.vm.findClass R_Text = some m.cls := findClass_of_methodNamed B.named
  have hlocks := B.notSynchronized
  subst hsz
  have hN : bw_N (bw_A [adText a0, adSteps a1] s.heap.size) [adText a0, adSteps a1] := hN0.self s.heap.size
  generalize hAe : bw_A [adText a0, adSteps a1] s.heap.size = A at hN ⊢
  have hA : ∀ q : Nat, s.heap.size ≤ q → A q := fun q h => by rw [← hAe]; exact Or.inr h
  have hS : va_S A s.heap s.heap [] := va_S.rf
  have hl := lv_entry ([.ref (a0 0)]) (n := 2) (Nat.le_of_ble_eq_true rfl)
  rw [lg_entry_eq]
  generalize (lg_sl ([.ref (a0 0)]) ++ List.replicate (2 - (lg_sl ([.ref (a0 0)])).length) Slot.unset).toArray = ls at hl ⊢
  have hl : lv_has ls 2 [(0, .ref (a0 0))] := hl
  have C0 : cx wsAll vwCl nx p s m [.ref (a0 0)].toArray meth c (dC, dI) (tyA ct) b_Text_clear 2 (none : Option Jvm.ClassFile.FieldType) R_Text A [adText a0, adSteps a1] := ⟨hx, hb, hr, hml, hown, hlocks, hts, hK, hN, hA, hnx⟩
  have h := hF
  rw [F_Text_clear] at h
  refine lv_aload_n hx hb d_Text_clear_0 rfl (lv_at hl 0 rfl) ?_
  refine lv_iconst (v := 0) hx hb d_Text_clear_1 (by decide) ?_
  refine pt_Text_1 hx hb hts hown hK hP hN hS 0 rfl (hts _ fl_Text_15) d_Text_clear_2 (fun H locs hP hS => ?_)
  have hP : bw_P (dC, dI) vwCl [wText ct a0 (a1 0) (s32 o0 1 0 (0 : Int32)), wSteps ct a1 o1] H := hP
  refine lv_aload_n hx hb d_Text_clear_5 rfl (lv_at hl 0 rfl) ?_
  refine va_get (D := (dC, dI)) (ci := 2) (v := .ref (a1 0)) (C := R_Text) (T := T_Text) (N := 12) hx hb hts in_Text hown hK (hP 0 _ rfl) 0 rfl rfl 2 (by decide) (hts _ fl_Text_22) (fun _ h9 => h9) rfl d_Text_clear_6 ?_
  obtain ⟨o_2, hG1, h⟩ := bind1_some h
  refine bw_call (Lc := [wSteps ct a1 o1]) (Lc' := [wSteps ct a1 o_2]) (L' := [wText ct a0 (a1 0) (s32 o0 1 0 (0 : Int32)), wSteps ct a1 o_2]) [1] (va_runV (As := []) (rest := []) ⟨hx, hb, hml, hown, hts⟩ (c_Steps_clear l ct dC dI a1 _ o1 o_2 hG1) (cwV 0 hts g_Text_55 rfl rfl rfl (by decide +kernel) ⟨Nat.le_of_ble_eq_true rfl, Nat.le_of_ble_eq_true rfl⟩) ⟨bw_blind nx_call, va_recv hK (hP 1 _ rfl) (ci := 0) (q0 := 0) rfl rfl, fun U hU hW => ⟨rfl, by rw [hU], by rw [hU]; exact hP.sub [1] rfl, va_K.moved hW.alike hK, (hN.sub [1] (by decide) rfl).weaken (fun _ _ => trivial), nx_warm hW hnx⟩⟩ rfl rfl hl.1 rfl (Nat.le_of_ble_eq_true rfl) d_Text_clear_9 ⟨Nat.le_of_ble_eq_true rfl, Nat.le_of_ble_eq_true rfl⟩) hP hN hS hA rfl rfl rfl (fun H locs hP hS => ?_)
  refine lv_aload_n hx hb d_Text_clear_12 rfl (lv_at hl 0 rfl) ?_
  refine lv_iconst (v := 0) hx hb d_Text_clear_13 (by decide) ?_
  refine pt_Text_3 hx hb hts hown hK hP hN hS 0 rfl (hts _ fl_Text_26) d_Text_clear_14 (fun H locs hP hS => ?_)
  have hP : bw_P (dC, dI) vwCl [wText ct a0 (a1 0) (s32 (s32 o0 1 0 (0 : Int32)) 3 0 (0 : Int32)), wSteps ct a1 o_2] H := hP
  refine lv_aload_n hx hb d_Text_clear_17 rfl (lv_at hl 0 rfl) ?_
  refine lv_iconst (v := 0) hx hb d_Text_clear_18 (by decide) ?_
  refine pt_Text_11 hx hb hts hown hK hP hN hS 0 rfl (hts _ fl_Text_52) d_Text_clear_19 (fun H locs hP hS => ?_)
  have hP : bw_P (dC, dI) vwCl [wText ct a0 (a1 0) (s32 (s32 (s32 o0 1 0 (0 : Int32)) 3 0 (0 : Int32)) 11 0 (0 : Int32)), wSteps ct a1 o_2] H := hP
  refine lv_iconst (v := 0) hx hb d_Text_clear_22 (by decide) ?_
  refine lv_istore_n (lv' := [(1, .int (0 : Int32)), (0, .ref (a0 0))]) hx hb d_Text_clear_23 rfl hl (by decide) rfl (fun ls hl => ?_)
  exact k_Text_clear_24 C0 fuel (0 : Int32) (s32 (s32 (s32 o0 1 0 (0 : Int32)) 3 0 (0 : Int32)) 11 0 (0 : Int32)) o_2 _ _ _ hP hS (lv_sub hl [1, 0] rfl) h
def F_Text_openStatement (x1 : Int32) (o0 o1 : Ob) : Option (Ob) :=
  if (24 : Int32) ≤ (g32 o0 3 0) then (some o0) else (chk (inb (g32 o0 3 0) 24) (if x1 = (-1 : Int32) then (some (s32 (s32 (s32 (s32 o0 4 (Int32.toNatClampNeg (g32 o0 3 0)) x1) 5 (Int32.toNatClampNeg (g32 o0 3 0)) (g32 o1 6 0)) 6 (Int32.toNatClampNeg (g32 o0 3 0)) (0 : Int32)) 3 0 ((g32 o0 3 0) + (1 : Int32)))) else (chk (inb x1 60) (some (s32 (s32 (s32 (s32 (s32 o0 4 (Int32.toNatClampNeg (g32 o0 3 0)) x1) 5 (Int32.toNatClampNeg (g32 o0 3 0)) (g32 o1 6 0)) 6 (Int32.toNatClampNeg (g32 o0 3 0)) (0 : Int32)) 7 (Int32.toNatClampNeg x1) (g32 o0 3 0)) 3 0 ((g32 o0 3 0) + (1 : Int32)))))))
abbrev ws_Text_openStatement : List Cond := Cond.code y_Text_openStatement b_Text_openStatement 2 (none : Option Jvm.ClassFile.FieldType) :: wsAll
abbrev rm_Text_openStatement : Room := { frames := 0, cells := 0, slots := 0, locals := 0 }
set_option maxHeartbeats 4000000 in
set_option maxRecDepth 100000 in
theorem c_Text_openStatement (l : Launch) (ct dC : Nat → ClassId) (dI : Nat → Nat → Nat) (a0 a1 : Nat → Nat)  (sz : Nat) (x1 : Int32) (o0 o1 : Ob) (n0 : Ob) (hF : F_Text_openStatement x1 o0 o1 = some n0) : Met l y_Text_openStatement ws_Text_openStatement rm_Text_openStatement (bw_Pc [.ref (a0 0), .int x1] (dC, dI) vwCl (tyA ct) [wText ct a0 (a1 0) o0, wSteps ct a1 o1] sz nx) (bw_Q (dC, dI) vwCl none [wText ct a0 (a1 0) n0, wSteps ct a1 o1] (bw_A [adText a0, adSteps a1] sz)) 0 0 (bw_A [adText a0, adSteps a1] sz) := by
  refine Met.ofW (cc := b_Text_openStatement) (maxL := 2) (ret := (none : Option Jvm.ClassFile.FieldType)) (by decide) rfl ?_
  intro p e s m args below meth c s₁ B hml hv
  obtain ⟨rfl, hsz, hP, hK, hN0, hnx⟩ := hv
  have hx := B.exec
  have hb := B.bytes
  have hr := B.returns
  have hts : ∀ w ∈ wsAll, w.before [.ref (a0 0), .int x1].toArray s = true := fun w h9 => atoms_spec (ws := ws_Text_openStatement) B.pre w (List.mem_cons_of_mem _ h9)
  have hown : s.vm.findClass R_Text = some m.cls := findClass_of_methodNamed B.named
  have hlocks := B.notSynchronized
  subst hsz
  have hN : bw_N (bw_A [adText a0, adSteps a1] s.heap.size) [adText a0, adSteps a1] := hN0.self s.heap.size
  generalize hAe : bw_A [adText a0, adSteps a1] s.heap.size = A at hN ⊢
  have hA : ∀ q : Nat, s.heap.size ≤ q → A q := fun q h => by rw [← hAe]; exact Or.inr h
  have hS : va_S A s.heap s.heap [] := va_S.rf
  have hl := lv_entry ([.ref (a0 0), .int x1]) (n := 2) (Nat.le_of_ble_eq_true rfl)
  rw [lg_entry_eq]
  generalize (lg_sl ([.ref (a0 0), .int x1]) ++ List.replicate (2 - (lg_sl ([.ref (a0 0), .int x1])).length) Slot.unset).toArray = ls at hl ⊢
  have hl : lv_has ls 2 [(0, .ref (a0 0)), (1, .int x1)] := hl
  have C0 : cx wsAll vwCl nx p s m [.ref (a0 0), .int x1].toArray meth c (dC, dI) (tyA ct) b_Text_openStatement 2 (none : Option Jvm.ClassFile.FieldType) R_Text A [adText a0, adSteps a1] := ⟨hx, hb, hr, hml, hown, hlocks, hts, hK, hN, hA, hnx⟩
  have h := hF
  rw [F_Text_openStatement] at h
  refine lv_aload_n hx hb d_Text_openStatement_0 rfl (lv_at hl 0 rfl) ?_
  refine va_get (D := (dC, dI)) (ci := 2) (v := .int (g32 o0 3 0)) (C := R_Text) (T := T_Text) (N := 12) hx hb hts in_Text hown hK (hP 0 _ rfl) 0 rfl rfl 3 (by decide) (hts _ fl_Text_26) (fun _ h9 => h9) rfl d_Text_openStatement_1 ?_
  refine lv_bipush (v := 24) hx hb d_Text_openStatement_4 (by decide) ?_
  refine lv_icmp_ge (tgt := 70) hx hb d_Text_openStatement_6 (by decide) (fun c1 => ?_) (fun c1 => ?_)
  · have h := ite_t c1 h
    obtain rfl := res1 h
    exact W.vret hx hb hr (fun t ht hW => ⟨rfl, by rw [ht]; exact hP, hS.F ht⟩) hS.2.2 d_Text_openStatement_70
  · have h := ite_f c1 h
    refine lv_aload_n hx hb d_Text_openStatement_9 rfl (lv_at hl 0 rfl) ?_
    refine va_get (D := (dC, dI)) (ci := 2) (v := .ref (a0 2)) (C := R_Text) (T := T_Text) (N := 12) hx hb hts in_Text hown hK (hP 0 _ rfl) 0 rfl rfl 4 (by decide) (hts _ fl_Text_29) (fun _ h9 => h9) rfl d_Text_openStatement_10 ?_
    refine lv_aload_n hx hb d_Text_openStatement_13 rfl (lv_at hl 0 rfl) ?_
    refine va_get (D := (dC, dI)) (ci := 2) (v := .int (g32 o0 3 0)) (C := R_Text) (T := T_Text) (N := 12) hx hb hts in_Text hown hK (hP 0 _ rfl) 0 rfl rfl 3 (by decide) (hts _ fl_Text_26) (fun _ h9 => h9) rfl d_Text_openStatement_14 ?_
    refine lv_iload_n hx hb d_Text_openStatement_17 rfl (lv_at hl 1 rfl) ?_
    obtain ⟨hi2, h⟩ := chk_some h
    refine st_Text_4 hx hb hK hP hN hS 0 rfl (inb_in hi2) d_Text_openStatement_18 (fun H locs hP hS => ?_)
    have hP : bw_P (dC, dI) vwCl [wText ct a0 (a1 0) (s32 o0 4 (Int32.toNatClampNeg (g32 o0 3 0)) x1), wSteps ct a1 o1] H := hP
    refine lv_aload_n hx hb d_Text_openStatement_19 rfl (lv_at hl 0 rfl) ?_
    refine va_get (D := (dC, dI)) (ci := 2) (v := .ref (a0 3)) (C := R_Text) (T := T_Text) (N := 12) hx hb hts in_Text hown hK (hP 0 _ rfl) 0 rfl rfl 5 (by decide) (hts _ fl_Text_33) (fun _ h9 => h9) rfl d_Text_openStatement_20 ?_
    refine lv_aload_n hx hb d_Text_openStatement_23 rfl (lv_at hl 0 rfl) ?_
    refine va_get (D := (dC, dI)) (ci := 2) (v := .int (g32 o0 3 0)) (C := R_Text) (T := T_Text) (N := 12) hx hb hts in_Text hown hK (hP 0 _ rfl) 0 rfl rfl 3 (by decide) (hts _ fl_Text_26) (fun _ h9 => h9) rfl d_Text_openStatement_24 ?_
    refine lv_aload_n hx hb d_Text_openStatement_27 rfl (lv_at hl 0 rfl) ?_
    refine va_get (D := (dC, dI)) (ci := 2) (v := .ref (a1 0)) (C := R_Text) (T := T_Text) (N := 12) hx hb hts in_Text hown hK (hP 0 _ rfl) 0 rfl rfl 2 (by decide) (hts _ fl_Text_22) (fun _ h9 => h9) rfl d_Text_openStatement_28 ?_
    refine va_get (D := (dC, dI)) (ci := 0) (v := .int (g32 o1 6 0)) (C := R_Steps) (T := T_Steps) (N := 7) hx hb hts in_Steps hown hK (hP 1 _ rfl) 0 rfl rfl 6 (by decide) (hts _ fl_Text_58) (fun _ h9 => h9) rfl d_Text_openStatement_31 ?_
    refine st_Text_5 hx hb hK hP hN hS 0 rfl (inb_in hi2) d_Text_openStatement_34 (fun H locs hP hS => ?_)
    have hP : bw_P (dC, dI) vwCl [wText ct a0 (a1 0) (s32 (s32 o0 4 (Int32.toNatClampNeg (g32 o0 3 0)) x1) 5 (Int32.toNatClampNeg (g32 o0 3 0)) (g32 o1 6 0)), wSteps ct a1 o1] H := hP
    refine lv_aload_n hx hb d_Text_openStatement_35 rfl (lv_at hl 0 rfl) ?_
    refine va_get (D := (dC, dI)) (ci := 2) (v := .ref (a0 4)) (C := R_Text) (T := T_Text) (N := 12) hx hb hts in_Text hown hK (hP 0 _ rfl) 0 rfl rfl 6 (by decide) (hts _ fl_Text_36) (fun _ h9 => h9) rfl d_Text_openStatement_36 ?_
    refine lv_aload_n hx hb d_Text_openStatement_39 rfl (lv_at hl 0 rfl) ?_
    refine va_get (D := (dC, dI)) (ci := 2) (v := .int (g32 o0 3 0)) (C := R_Text) (T := T_Text) (N := 12) hx hb hts in_Text hown hK (hP 0 _ rfl) 0 rfl rfl 3 (by decide) (hts _ fl_Text_26) (fun _ h9 => h9) rfl d_Text_openStatement_40 ?_
    refine lv_iconst (v := 0) hx hb d_Text_openStatement_43 (by decide) ?_
    refine st_Text_6 hx hb hK hP hN hS 0 rfl (inb_in hi2) d_Text_openStatement_44 (fun H locs hP hS => ?_)
    have hP : bw_P (dC, dI) vwCl [wText ct a0 (a1 0) (s32 (s32 (s32 o0 4 (Int32.toNatClampNeg (g32 o0 3 0)) x1) 5 (Int32.toNatClampNeg (g32 o0 3 0)) (g32 o1 6 0)) 6 (Int32.toNatClampNeg (g32 o0 3 0)) (0 : Int32)), wSteps ct a1 o1] H := hP
    refine lv_iload_n hx hb d_Text_openStatement_45 rfl (lv_at hl 1 rfl) ?_
    refine lv_iconst (v := -1) hx hb d_Text_openStatement_46 (by decide) ?_
    refine lv_icmp_eq (tgt := 60) hx hb d_Text_openStatement_47 (by decide) (fun c5 => ?_) (fun c5 => ?_)
    · have h := ite_t c5 h
      refine lv_aload_n hx hb d_Text_openStatement_60 rfl (lv_at hl 0 rfl) ?_
      refine lv_dup hx hb d_Text_openStatement_61 rfl ?_
      refine va_get (D := (dC, dI)) (ci := 2) (v := .int (g32 o0 3 0)) (C := R_Text) (T := T_Text) (N := 12) hx hb hts in_Text hown hK (hP 0 _ rfl) 0 rfl rfl 3 (by decide) (hts _ fl_Text_26) (fun _ h9 => h9) rfl d_Text_openStatement_62 ?_
      refine lv_iconst (v := 1) hx hb d_Text_openStatement_65 (by decide) ?_
      refine lv_iadd hx hb d_Text_openStatement_66 ?_
      refine pt_Text_3 hx hb hts hown hK hP hN hS 0 rfl (hts _ fl_Text_26) d_Text_openStatement_67 (fun H locs hP hS => ?_)
      have hP : bw_P (dC, dI) vwCl [wText ct a0 (a1 0) (s32 (s32 (s32 (s32 o0 4 (Int32.toNatClampNeg (g32 o0 3 0)) x1) 5 (Int32.toNatClampNeg (g32 o0 3 0)) (g32 o1 6 0)) 6 (Int32.toNatClampNeg (g32 o0 3 0)) (0 : Int32)) 3 0 ((g32 o0 3 0) + (1 : Int32))), wSteps ct a1 o1] H := hP
      obtain rfl := res1 h
      exact W.vret hx hb hr (fun t ht hW => ⟨rfl, by rw [ht]; exact hP, hS.F ht⟩) hS.2.2 d_Text_openStatement_70
    · have h := ite_f c5 h
      refine lv_aload_n hx hb d_Text_openStatement_50 rfl (lv_at hl 0 rfl) ?_
      refine va_get (D := (dC, dI)) (ci := 2) (v := .ref (a0 5)) (C := R_Text) (T := T_Text) (N := 12) hx hb hts in_Text hown hK (hP 0 _ rfl) 0 rfl rfl 7 (by decide) (hts _ fl_Text_39) (fun _ h9 => h9) rfl d_Text_openStatement_51 ?_
      refine lv_iload_n hx hb d_Text_openStatement_54 rfl (lv_at hl 1 rfl) ?_
      refine lv_aload_n hx hb d_Text_openStatement_55 rfl (lv_at hl 0 rfl) ?_
      refine va_get (D := (dC, dI)) (ci := 2) (v := .int (g32 o0 3 0)) (C := R_Text) (T := T_Text) (N := 12) hx hb hts in_Text hown hK (hP 0 _ rfl) 0 rfl rfl 3 (by decide) (hts _ fl_Text_26) (fun _ h9 => h9) rfl d_Text_openStatement_56 ?_
      obtain ⟨hi6, h⟩ := chk_some h
      refine st_Text_7 hx hb hK hP hN hS 0 rfl (inb_in hi6) d_Text_openStatement_59 (fun H locs hP hS => ?_)
      have hP : bw_P (dC, dI) vwCl [wText ct a0 (a1 0) (s32 (s32 (s32 (s32 o0 4 (Int32.toNatClampNeg (g32 o0 3 0)) x1) 5 (Int32.toNatClampNeg (g32 o0 3 0)) (g32 o1 6 0)) 6 (Int32.toNatClampNeg (g32 o0 3 0)) (0 : Int32)) 7 (Int32.toNatClampNeg x1) (g32 o0 3 0)), wSteps ct a1 o1] H := hP
      refine lv_aload_n hx hb d_Text_openStatement_60 rfl (lv_at hl 0 rfl) ?_
      refine lv_dup hx hb d_Text_openStatement_61 rfl ?_
      refine va_get (D := (dC, dI)) (ci := 2) (v := .int (g32 o0 3 0)) (C := R_Text) (T := T_Text) (N := 12) hx hb hts in_Text hown hK (hP 0 _ rfl) 0 rfl rfl 3 (by decide) (hts _ fl_Text_26) (fun _ h9 => h9) rfl d_Text_openStatement_62 ?_
      refine lv_iconst (v := 1) hx hb d_Text_openStatement_65 (by decide) ?_
      refine lv_iadd hx hb d_Text_openStatement_66 ?_
      refine pt_Text_3 hx hb hts hown hK hP hN hS 0 rfl (hts _ fl_Text_26) d_Text_openStatement_67 (fun H locs hP hS => ?_)
      have hP : bw_P (dC, dI) vwCl [wText ct a0 (a1 0) (s32 (s32 (s32 (s32 (s32 o0 4 (Int32.toNatClampNeg (g32 o0 3 0)) x1) 5 (Int32.toNatClampNeg (g32 o0 3 0)) (g32 o1 6 0)) 6 (Int32.toNatClampNeg (g32 o0 3 0)) (0 : Int32)) 7 (Int32.toNatClampNeg x1) (g32 o0 3 0)) 3 0 ((g32 o0 3 0) + (1 : Int32))), wSteps ct a1 o1] H := hP
      obtain rfl := res1 h
      exact W.vret hx hb hr (fun t ht hW => ⟨rfl, by rw [ht]; exact hP, hS.F ht⟩) hS.2.2 d_Text_openStatement_70
def F_Text_openCell  (o0 : Ob) : Option (Int32) :=
  if (g32 o0 3 0) ≤ 0 then (some (-1 : Int32)) else (chk (inb ((g32 o0 3 0) - (1 : Int32)) 24) (some (g32 o0 4 (Int32.toNatClampNeg ((g32 o0 3 0) - (1 : Int32))))))
abbrev ws_Text_openCell : List Cond := Cond.code y_Text_openCell b_Text_openCell 1 (some .int) :: wsAll
abbrev rm_Text_openCell : Room := { frames := 0, cells := 0, slots := 0, locals := 0 }
set_option maxHeartbeats 4000000 in
set_option maxRecDepth 100000 in
theorem c_Text_openCell (l : Launch) (ct dC : Nat → ClassId) (dI : Nat → Nat → Nat) (a0 : Nat → Nat) (r0_2 : Nat) (sz : Nat)  (o0 : Ob) (r : Int32) (hF : F_Text_openCell o0 = some r) : Met l y_Text_openCell ws_Text_openCell rm_Text_openCell (bw_Pc [.ref (a0 0)] (dC, dI) vwCl (tyA ct) [wText ct a0 r0_2 o0] sz nx) (bw_QR (some (.int r))) 0 0 (fun _ => False) := by
  refine Met.ofW (cc := b_Text_openCell) (maxL := 1) (ret := (some .int)) (by decide) rfl ?_
  intro p e s m args below meth c s₁ B hml hv
  obtain ⟨rfl, hsz, hP, hK, hN0, hnx⟩ := hv
  have hx := B.exec
  have hb := B.bytes
  have hr := B.returns
  have hts : ∀ w ∈ wsAll, w.before [.ref (a0 0)].toArray s = true := fun w h9 => atoms_spec (ws := ws_Text_openCell) B.pre w (List.mem_cons_of_mem _ h9)
  have hown : s.vm.findClass R_Text = some m.cls := findClass_of_methodNamed B.named
  have hlocks := B.notSynchronized
  subst hsz
  have hN : bw_N (fun _ => True) [adText a0] := hN0
  generalize hAe : (fun _ : Nat => True) = A at hN
  have hA : ∀ q : Nat, s.heap.size ≤ q → A q := fun q _ => by rw [← hAe]; trivial
  have hS : s.heap = s.heap ∧ ([] : List Loc) = [] := ⟨rfl, rfl⟩
  have hl := lv_entry ([.ref (a0 0)]) (n := 1) (Nat.le_of_ble_eq_true rfl)
  rw [lg_entry_eq]
  generalize (lg_sl ([.ref (a0 0)]) ++ List.replicate (1 - (lg_sl ([.ref (a0 0)])).length) Slot.unset).toArray = ls at hl ⊢
  have hl : lv_has ls 1 [(0, .ref (a0 0))] := hl
  have C0 : cx wsAll vwCl nx p s m [.ref (a0 0)].toArray meth c (dC, dI) (tyA ct) b_Text_openCell 1 (some .int) R_Text A [adText a0] := ⟨hx, hb, hr, hml, hown, hlocks, hts, hK, hN, hA, hnx⟩
  have h := hF
  rw [F_Text_openCell] at h
  refine lv_aload_n hx hb d_Text_openCell_0 rfl (lv_at hl 0 rfl) ?_
  refine va_get (D := (dC, dI)) (ci := 2) (v := .int (g32 o0 3 0)) (C := R_Text) (T := T_Text) (N := 12) hx hb hts in_Text hown hK (hP 0 _ rfl) 0 rfl rfl 3 (by decide) (hts _ fl_Text_26) (fun _ h9 => h9) rfl d_Text_openCell_1 ?_
  refine lv_if_le (tgt := 21) hx hb d_Text_openCell_4 (by decide) (fun c1 => ?_) (fun c1 => ?_)
  · have h := ite_t c1 h
    refine lv_iconst (v := -1) hx hb d_Text_openCell_21 (by decide) ?_
    obtain rfl := res1 h
    exact W.iret hx hb hr (fun t ht hW => ⟨rfl, ht.trans hS.1⟩) (bw_nil hS.2) d_Text_openCell_22
  · have h := ite_f c1 h
    refine lv_aload_n hx hb d_Text_openCell_7 rfl (lv_at hl 0 rfl) ?_
    refine va_get (D := (dC, dI)) (ci := 2) (v := .ref (a0 2)) (C := R_Text) (T := T_Text) (N := 12) hx hb hts in_Text hown hK (hP 0 _ rfl) 0 rfl rfl 4 (by decide) (hts _ fl_Text_29) (fun _ h9 => h9) rfl d_Text_openCell_8 ?_
    refine lv_aload_n hx hb d_Text_openCell_11 rfl (lv_at hl 0 rfl) ?_
    refine va_get (D := (dC, dI)) (ci := 2) (v := .int (g32 o0 3 0)) (C := R_Text) (T := T_Text) (N := 12) hx hb hts in_Text hown hK (hP 0 _ rfl) 0 rfl rfl 3 (by decide) (hts _ fl_Text_26) (fun _ h9 => h9) rfl d_Text_openCell_12 ?_
    refine lv_iconst (v := 1) hx hb d_Text_openCell_15 (by decide) ?_
    refine lv_isub hx hb d_Text_openCell_16 ?_
    obtain ⟨hi2, h⟩ := chk_some h
    refine va_iald (f := g32 o0 4) hx hb hK (hP 0 _ rfl) 2 0 rfl rfl (inb_in hi2) d_Text_openCell_17 ?_
    refine lv_goto (tgt := 22) hx hb d_Text_openCell_18 (by decide) ?_
    obtain rfl := res1 h
    exact W.iret hx hb hr (fun t ht hW => ⟨rfl, ht.trans hS.1⟩) (bw_nil hS.2) d_Text_openCell_22
theorem g_Text_61 : GoodIn wsAll (wsV R_Text 61 R_Steps y_Steps_add ws_Steps_add) := gd_V ml_Text_61 im_Steps_add se_Steps_add ini_Steps cd_Steps_add
theorem g_Text_65 : GoodIn wsAll (wsV R_Text 65 R_Text y_Text_openCell ws_Text_openCell) := gd_V ml_Text_65 im_Text_openCell se_Text_openCell ini_Text cd_Text_openCell
def F_Text_mentionOption (x1 : Int32) (o0 o1 : Ob) : Option (Ob × Ob) :=
  bind1 (F_Steps_add (2 : Int32) x1 (0 : Int32) o1) (fun o_2 => bind1 (F_Text_openCell o0) (fun v4 => if v4 = (-1 : Int32) then (some (o0, o_2)) else (chk (inb v4 60) (some ((s32 o0 9 (Int32.toNatClampNeg v4) ((g32 o0 9 (Int32.toNatClampNeg v4)) ||| ((1 : Int32) <<< (x1 &&& 31)))), o_2)))))
abbrev ws_Text_mentionOption : List Cond := Cond.code y_Text_mentionOption b_Text_mentionOption 3 (none : Option Jvm.ClassFile.FieldType) :: wsAll
abbrev rm_Text_mentionOption : Room := { frames := 1, cells := 0, slots := 0, locals := 23 }
set_option maxHeartbeats 4000000 in
set_option maxRecDepth 100000 in
theorem c_Text_mentionOption (l : Launch) (ct dC : Nat → ClassId) (dI : Nat → Nat → Nat) (a0 a1 : Nat → Nat)  (sz : Nat) (x1 : Int32) (o0 o1 : Ob) (n0 n1 : Ob) (hF : F_Text_mentionOption x1 o0 o1 = some (n0, n1)) : Met l y_Text_mentionOption ws_Text_mentionOption rm_Text_mentionOption (bw_Pc [.ref (a0 0), .int x1] (dC, dI) vwCl (tyA ct) [wText ct a0 (a1 0) o0, wSteps ct a1 o1] sz nx) (bw_Q (dC, dI) vwCl none [wText ct a0 (a1 0) n0, wSteps ct a1 n1] (bw_A [adText a0, adSteps a1] sz)) 0 0 (bw_A [adText a0, adSteps a1] sz) := by
  refine Met.ofW (cc := b_Text_mentionOption) (maxL := 3) (ret := (none : Option Jvm.ClassFile.FieldType)) (by decide) rfl ?_
  intro p e s m args below meth c s₁ B hml hv
  obtain ⟨rfl, hsz, hP, hK, hN0, hnx⟩ := hv
  have hx := B.exec
  have hb := B.bytes
  have hr := B.returns
  have hts : ∀ w ∈ wsAll, w.before [.ref (a0 0), .int x1].toArray s = true := fun w h9 => atoms_spec (ws := ws_Text_mentionOption) B.pre w (List.mem_cons_of_mem _ h9)
  have hown : s.vm.findClass R_Text = some m.cls := findClass_of_methodNamed B.named
  have hlocks := B.notSynchronized
  subst hsz
  have hN : bw_N (bw_A [adText a0, adSteps a1] s.heap.size) [adText a0, adSteps a1] := hN0.self s.heap.size
  generalize hAe : bw_A [adText a0, adSteps a1] s.heap.size = A at hN ⊢
  have hA : ∀ q : Nat, s.heap.size ≤ q → A q := fun q h => by rw [← hAe]; exact Or.inr h
  have hS : va_S A s.heap s.heap [] := va_S.rf
  have hl := lv_entry ([.ref (a0 0), .int x1]) (n := 3) (Nat.le_of_ble_eq_true rfl)
  rw [lg_entry_eq]
  generalize (lg_sl ([.ref (a0 0), .int x1]) ++ List.replicate (3 - (lg_sl ([.ref (a0 0), .int x1])).length) Slot.unset).toArray = ls at hl ⊢
  have hl : lv_has ls 3 [(0, .ref (a0 0)), (1, .int x1)] := hl
  have C0 : cx wsAll vwCl nx p s m [.ref (a0 0), .int x1].toArray meth c (dC, dI) (tyA ct) b_Text_mentionOption 3 (none : Option Jvm.ClassFile.FieldType) R_Text A [adText a0, adSteps a1] := ⟨hx, hb, hr, hml, hown, hlocks, hts, hK, hN, hA, hnx⟩
  have h := hF
  rw [F_Text_mentionOption] at h
  refine lv_aload_n hx hb d_Text_mentionOption_0 rfl (lv_at hl 0 rfl) ?_
  refine va_get (D := (dC, dI)) (ci := 2) (v := .ref (a1 0)) (C := R_Text) (T := T_Text) (N := 12) hx hb hts in_Text hown hK (hP 0 _ rfl) 0 rfl rfl 2 (by decide) (hts _ fl_Text_22) (fun _ h9 => h9) rfl d_Text_mentionOption_1 ?_
  refine lv_iconst (v := 2) hx hb d_Text_mentionOption_4 (by decide) ?_
  refine lv_iload_n hx hb d_Text_mentionOption_5 rfl (lv_at hl 1 rfl) ?_
  refine lv_iconst (v := 0) hx hb d_Text_mentionOption_6 (by decide) ?_
  obtain ⟨o_2, hG1, h⟩ := bind1_some h
  refine bw_call (Lc := [wSteps ct a1 o1]) (Lc' := [wSteps ct a1 o_2]) (L' := [wText ct a0 (a1 0) o0, wSteps ct a1 o_2]) [1] (va_runV (As := [.int (2 : Int32), .int x1, .int (0 : Int32)]) (rest := []) ⟨hx, hb, hml, hown, hts⟩ (c_Steps_add l ct dC dI a1 _ (2 : Int32) x1 (0 : Int32) o1 o_2 hG1) (cwV 3 hts g_Text_61 rfl rfl rfl (by decide +kernel) ⟨Nat.le_of_ble_eq_true rfl, Nat.le_of_ble_eq_true rfl⟩) ⟨bw_blind nx_call, va_recv hK (hP 1 _ rfl) (ci := 0) (q0 := 0) rfl rfl, fun U hU hW => ⟨rfl, by rw [hU], by rw [hU]; exact hP.sub [1] rfl, va_K.moved hW.alike hK, (hN.sub [1] (by decide) rfl).weaken (fun _ _ => trivial), nx_warm hW hnx⟩⟩ rfl rfl hl.1 rfl (Nat.le_of_ble_eq_true rfl) d_Text_mentionOption_7 ⟨Nat.le_of_ble_eq_true rfl, Nat.le_of_ble_eq_true rfl⟩) hP hN hS hA rfl rfl rfl (fun H locs hP hS => ?_)
  refine lv_aload_n hx hb d_Text_mentionOption_10 rfl (lv_at hl 0 rfl) ?_
  obtain ⟨v4, hG3, h⟩ := bind1_some h
  refine bw_callR (va_runV (As := []) (rest := []) ⟨hx, hb, hml, hown, hts⟩ (c_Text_openCell l ct dC dI a0 (a1 0) _ o0 v4 hG3) (cwV 0 hts g_Text_65 rfl rfl rfl (by decide +kernel) ⟨Nat.le_of_ble_eq_true rfl, Nat.le_of_ble_eq_true rfl⟩) ⟨bw_blind nx_call, va_recv hK (hP 0 _ rfl) (ci := 2) (q0 := 0) rfl rfl, fun U hU hW => ⟨rfl, by rw [hU], by rw [hU]; exact hP.sub [0] rfl, va_K.moved hW.alike hK, (hN.sub [0] (by decide) rfl).weaken (fun _ _ => trivial), nx_warm hW hnx⟩⟩ rfl rfl hl.1 rfl (Nat.le_of_ble_eq_true rfl) d_Text_mentionOption_11 ⟨Nat.le_of_ble_eq_true rfl, Nat.le_of_ble_eq_true rfl⟩) ?_
  refine lv_istore_n (lv' := [(2, .int v4), (0, .ref (a0 0)), (1, .int x1)]) hx hb d_Text_mentionOption_14 rfl hl (by decide) rfl (fun ls hl => ?_)
  refine lv_iload_n hx hb d_Text_mentionOption_15 rfl (lv_at hl 0 rfl) ?_
  refine lv_iconst (v := -1) hx hb d_Text_mentionOption_16 (by decide) ?_
  refine lv_icmp_eq (tgt := 32) hx hb d_Text_mentionOption_17 (by decide) (fun c5 => ?_) (fun c5 => ?_)
  · have h := ite_t c5 h
    obtain ⟨rfl, rfl⟩ := res2 h
    exact W.vret hx hb hr (fun t ht hW => ⟨rfl, by rw [ht]; exact hP, hS.F ht⟩) hS.2.2 d_Text_mentionOption_32
  · have h := ite_f c5 h
    refine lv_aload_n hx hb d_Text_mentionOption_20 rfl (lv_at hl 1 rfl) ?_
    refine va_get (D := (dC, dI)) (ci := 2) (v := .ref (a0 7)) (C := R_Text) (T := T_Text) (N := 12) hx hb hts in_Text hown hK (hP 0 _ rfl) 0 rfl rfl 9 (by decide) (hts _ fl_Text_46) (fun _ h9 => h9) rfl d_Text_mentionOption_21 ?_
    refine lv_iload_n hx hb d_Text_mentionOption_24 rfl (lv_at hl 0 rfl) ?_
    refine lv_dup2_11 hx hb d_Text_mentionOption_25 rfl rfl ?_
    obtain ⟨hi6, h⟩ := chk_some h
    refine va_iald (f := g32 o0 9) hx hb hK (hP 0 _ rfl) 7 0 rfl rfl (inb_in hi6) d_Text_mentionOption_26 ?_
    refine lv_iconst (v := 1) hx hb d_Text_mentionOption_27 (by decide) ?_
    refine lv_iload_n hx hb d_Text_mentionOption_28 rfl (lv_at hl 2 rfl) ?_
    refine lv_ishl hx hb d_Text_mentionOption_29 ?_
    refine lv_ior hx hb d_Text_mentionOption_30 ?_
    refine st_Text_9 hx hb hK hP hN hS 0 rfl (inb_in hi6) d_Text_mentionOption_31 (fun H locs hP hS => ?_)
    have hP : bw_P (dC, dI) vwCl [wText ct a0 (a1 0) (s32 o0 9 (Int32.toNatClampNeg v4) ((g32 o0 9 (Int32.toNatClampNeg v4)) ||| ((1 : Int32) <<< (x1 &&& 31)))), wSteps ct a1 o_2] H := hP
    obtain ⟨rfl, rfl⟩ := res2 h
    exact W.vret hx hb hr (fun t ht hW => ⟨rfl, by rw [ht]; exact hP, hS.F ht⟩) hS.2.2 d_Text_mentionOption_32
def F_Text_mentionCell (x1 : Int32) (o0 o1 : Ob) : Option (Ob × Ob) :=
  bind1 (F_Steps_add (3 : Int32) x1 (0 : Int32) o1) (fun o_2 => bind1 (F_Text_openCell o0) (fun v4 => if v4 = (-1 : Int32) then (some (o0, o_2)) else (chk (inb v4 60) (some ((s64 o0 8 (Int32.toNatClampNeg v4) ((g64 o0 8 (Int32.toNatClampNeg v4)) ||| (lshl (1 : Int64) x1))), o_2)))))
abbrev ws_Text_mentionCell : List Cond := Cond.code y_Text_mentionCell b_Text_mentionCell 3 (none : Option Jvm.ClassFile.FieldType) :: wsAll
abbrev rm_Text_mentionCell : Room := { frames := 1, cells := 0, slots := 0, locals := 23 }
set_option maxHeartbeats 4000000 in
set_option maxRecDepth 100000 in
theorem c_Text_mentionCell (l : Launch) (ct dC : Nat → ClassId) (dI : Nat → Nat → Nat) (a0 a1 : Nat → Nat)  (sz : Nat) (x1 : Int32) (o0 o1 : Ob) (n0 n1 : Ob) (hF : F_Text_mentionCell x1 o0 o1 = some (n0, n1)) : Met l y_Text_mentionCell ws_Text_mentionCell rm_Text_mentionCell (bw_Pc [.ref (a0 0), .int x1] (dC, dI) vwCl (tyA ct) [wText ct a0 (a1 0) o0, wSteps ct a1 o1] sz nx) (bw_Q (dC, dI) vwCl none [wText ct a0 (a1 0) n0, wSteps ct a1 n1] (bw_A [adText a0, adSteps a1] sz)) 0 0 (bw_A [adText a0, adSteps a1] sz) := by
  refine Met.ofW (cc := b_Text_mentionCell) (maxL := 3) (ret := (none : Option Jvm.ClassFile.FieldType)) (by decide) rfl ?_
  intro p e s m args below meth c s₁ B hml hv
  obtain ⟨rfl, hsz, hP, hK, hN0, hnx⟩ := hv
  have hx := B.exec
  have hb := B.bytes
  have hr := B.returns
  have hts : ∀ w ∈ wsAll, w.before [.ref (a0 0), .int x1].toArray s = true := fun w h9 => atoms_spec (ws := ws_Text_mentionCell) B.pre w (List.mem_cons_of_mem _ h9)
  have hown : s.vm.findClass R_Text = some m.cls := findClass_of_methodNamed B.named
  have hlocks := B.notSynchronized
  subst hsz
  have hN : bw_N (bw_A [adText a0, adSteps a1] s.heap.size) [adText a0, adSteps a1] := hN0.self s.heap.size
  generalize hAe : bw_A [adText a0, adSteps a1] s.heap.size = A at hN ⊢
  have hA : ∀ q : Nat, s.heap.size ≤ q → A q := fun q h => by rw [← hAe]; exact Or.inr h
  have hS : va_S A s.heap s.heap [] := va_S.rf
  have hl := lv_entry ([.ref (a0 0), .int x1]) (n := 3) (Nat.le_of_ble_eq_true rfl)
  rw [lg_entry_eq]
  generalize (lg_sl ([.ref (a0 0), .int x1]) ++ List.replicate (3 - (lg_sl ([.ref (a0 0), .int x1])).length) Slot.unset).toArray = ls at hl ⊢
  have hl : lv_has ls 3 [(0, .ref (a0 0)), (1, .int x1)] := hl
  have C0 : cx wsAll vwCl nx p s m [.ref (a0 0), .int x1].toArray meth c (dC, dI) (tyA ct) b_Text_mentionCell 3 (none : Option Jvm.ClassFile.FieldType) R_Text A [adText a0, adSteps a1] := ⟨hx, hb, hr, hml, hown, hlocks, hts, hK, hN, hA, hnx⟩
  have h := hF
  rw [F_Text_mentionCell] at h
  refine lv_aload_n hx hb d_Text_mentionCell_0 rfl (lv_at hl 0 rfl) ?_
  refine va_get (D := (dC, dI)) (ci := 2) (v := .ref (a1 0)) (C := R_Text) (T := T_Text) (N := 12) hx hb hts in_Text hown hK (hP 0 _ rfl) 0 rfl rfl 2 (by decide) (hts _ fl_Text_22) (fun _ h9 => h9) rfl d_Text_mentionCell_1 ?_
  refine lv_iconst (v := 3) hx hb d_Text_mentionCell_4 (by decide) ?_
  refine lv_iload_n hx hb d_Text_mentionCell_5 rfl (lv_at hl 1 rfl) ?_
  refine lv_iconst (v := 0) hx hb d_Text_mentionCell_6 (by decide) ?_
  obtain ⟨o_2, hG1, h⟩ := bind1_some h
  refine bw_call (Lc := [wSteps ct a1 o1]) (Lc' := [wSteps ct a1 o_2]) (L' := [wText ct a0 (a1 0) o0, wSteps ct a1 o_2]) [1] (va_runV (As := [.int (3 : Int32), .int x1, .int (0 : Int32)]) (rest := []) ⟨hx, hb, hml, hown, hts⟩ (c_Steps_add l ct dC dI a1 _ (3 : Int32) x1 (0 : Int32) o1 o_2 hG1) (cwV 3 hts g_Text_61 rfl rfl rfl (by decide +kernel) ⟨Nat.le_of_ble_eq_true rfl, Nat.le_of_ble_eq_true rfl⟩) ⟨bw_blind nx_call, va_recv hK (hP 1 _ rfl) (ci := 0) (q0 := 0) rfl rfl, fun U hU hW => ⟨rfl, by rw [hU], by rw [hU]; exact hP.sub [1] rfl, va_K.moved hW.alike hK, (hN.sub [1] (by decide) rfl).weaken (fun _ _ => trivial), nx_warm hW hnx⟩⟩ rfl rfl hl.1 rfl (Nat.le_of_ble_eq_true rfl) d_Text_mentionCell_7 ⟨Nat.le_of_ble_eq_true rfl, Nat.le_of_ble_eq_true rfl⟩) hP hN hS hA rfl rfl rfl (fun H locs hP hS => ?_)
  refine lv_aload_n hx hb d_Text_mentionCell_10 rfl (lv_at hl 0 rfl) ?_
  obtain ⟨v4, hG3, h⟩ := bind1_some h
  refine bw_callR (va_runV (As := []) (rest := []) ⟨hx, hb, hml, hown, hts⟩ (c_Text_openCell l ct dC dI a0 (a1 0) _ o0 v4 hG3) (cwV 0 hts g_Text_65 rfl rfl rfl (by decide +kernel) ⟨Nat.le_of_ble_eq_true rfl, Nat.le_of_ble_eq_true rfl⟩) ⟨bw_blind nx_call, va_recv hK (hP 0 _ rfl) (ci := 2) (q0 := 0) rfl rfl, fun U hU hW => ⟨rfl, by rw [hU], by rw [hU]; exact hP.sub [0] rfl, va_K.moved hW.alike hK, (hN.sub [0] (by decide) rfl).weaken (fun _ _ => trivial), nx_warm hW hnx⟩⟩ rfl rfl hl.1 rfl (Nat.le_of_ble_eq_true rfl) d_Text_mentionCell_11 ⟨Nat.le_of_ble_eq_true rfl, Nat.le_of_ble_eq_true rfl⟩) ?_
  refine lv_istore_n (lv' := [(2, .int v4), (0, .ref (a0 0)), (1, .int x1)]) hx hb d_Text_mentionCell_14 rfl hl (by decide) rfl (fun ls hl => ?_)
  refine lv_iload_n hx hb d_Text_mentionCell_15 rfl (lv_at hl 0 rfl) ?_
  refine lv_iconst (v := -1) hx hb d_Text_mentionCell_16 (by decide) ?_
  refine lv_icmp_eq (tgt := 32) hx hb d_Text_mentionCell_17 (by decide) (fun c5 => ?_) (fun c5 => ?_)
  · have h := ite_t c5 h
    obtain ⟨rfl, rfl⟩ := res2 h
    exact W.vret hx hb hr (fun t ht hW => ⟨rfl, by rw [ht]; exact hP, hS.F ht⟩) hS.2.2 d_Text_mentionCell_32
  · have h := ite_f c5 h
    refine lv_aload_n hx hb d_Text_mentionCell_20 rfl (lv_at hl 1 rfl) ?_
    refine va_get (D := (dC, dI)) (ci := 2) (v := .ref (a0 6)) (C := R_Text) (T := T_Text) (N := 12) hx hb hts in_Text hown hK (hP 0 _ rfl) 0 rfl rfl 8 (by decide) (hts _ fl_Text_42) (fun _ h9 => h9) rfl d_Text_mentionCell_21 ?_
    refine lv_iload_n hx hb d_Text_mentionCell_24 rfl (lv_at hl 0 rfl) ?_
    refine lv_dup2_11 hx hb d_Text_mentionCell_25 rfl rfl ?_
    obtain ⟨hi6, h⟩ := chk_some h
    refine va_lald (f := g64 o0 8) hx hb hK (hP 0 _ rfl) 6 1 rfl rfl (inb_in hi6) d_Text_mentionCell_26 ?_
    refine lv_lconst (v := 1) hx hb d_Text_mentionCell_27 (by decide) ?_
    refine lv_iload_n hx hb d_Text_mentionCell_28 rfl (lv_at hl 2 rfl) ?_
    refine lv_lshl (v := (lshl (1 : Int64) x1)) hx hb d_Text_mentionCell_29 rfl ?_
    refine lv_lor hx hb d_Text_mentionCell_30 ?_
    refine st_Text_8 hx hb hK hP hN hS 0 rfl (inb_in hi6) d_Text_mentionCell_31 (fun H locs hP hS => ?_)
    have hP : bw_P (dC, dI) vwCl [wText ct a0 (a1 0) (s64 o0 8 (Int32.toNatClampNeg v4) ((g64 o0 8 (Int32.toNatClampNeg v4)) ||| (lshl (1 : Int64) x1))), wSteps ct a1 o_2] H := hP
    obtain ⟨rfl, rfl⟩ := res2 h
    exact W.vret hx hb hr (fun t ht hW => ⟨rfl, by rw [ht]; exact hP, hS.F ht⟩) hS.2.2 d_Text_mentionCell_32
def F_Text_countCondition  (o0 : Ob) : Option (Ob) :=
  if (g32 o0 3 0) ≤ 0 then (some o0) else (chk (inb ((g32 o0 3 0) - (1 : Int32)) 24) (some (s32 o0 6 (Int32.toNatClampNeg ((g32 o0 3 0) - (1 : Int32))) ((g32 o0 6 (Int32.toNatClampNeg ((g32 o0 3 0) - (1 : Int32)))) + (1 : Int32)))))
abbrev ws_Text_countCondition : List Cond := Cond.code y_Text_countCondition b_Text_countCondition 1 (none : Option Jvm.ClassFile.FieldType) :: wsAll
abbrev rm_Text_countCondition : Room := { frames := 0, cells := 0, slots := 0, locals := 0 }
set_option maxHeartbeats 4000000 in
set_option maxRecDepth 100000 in
theorem c_Text_countCondition (l : Launch) (ct dC : Nat → ClassId) (dI : Nat → Nat → Nat) (a0 : Nat → Nat) (r0_2 : Nat) (sz : Nat)  (o0 : Ob) (n0 : Ob) (hF : F_Text_countCondition o0 = some n0) : Met l y_Text_countCondition ws_Text_countCondition rm_Text_countCondition (bw_Pc [.ref (a0 0)] (dC, dI) vwCl (tyA ct) [wText ct a0 r0_2 o0] sz nx) (bw_Q (dC, dI) vwCl none [wText ct a0 r0_2 n0] (bw_A [adText a0] sz)) 0 0 (bw_A [adText a0] sz) := by
  refine Met.ofW (cc := b_Text_countCondition) (maxL := 1) (ret := (none : Option Jvm.ClassFile.FieldType)) (by decide) rfl ?_
  intro p e s m args below meth c s₁ B hml hv
  obtain ⟨rfl, hsz, hP, hK, hN0, hnx⟩ := hv
  have hx := B.exec
  have hb := B.bytes
  have hr := B.returns
  have hts : ∀ w ∈ wsAll, w.before [.ref (a0 0)].toArray s = true := fun w h9 => atoms_spec (ws := ws_Text_countCondition) B.pre w (List.mem_cons_of_mem _ h9)
  have hown : s.vm.findClass R_Text = some m.cls := findClass_of_methodNamed B.named
  have hlocks := B.notSynchronized
  subst hsz
  have hN : bw_N (bw_A [adText a0] s.heap.size) [adText a0] := hN0.self s.heap.size
  generalize hAe : bw_A [adText a0] s.heap.size = A at hN ⊢
  have hA : ∀ q : Nat, s.heap.size ≤ q → A q := fun q h => by rw [← hAe]; exact Or.inr h
  have hS : va_S A s.heap s.heap [] := va_S.rf
  have hl := lv_entry ([.ref (a0 0)]) (n := 1) (Nat.le_of_ble_eq_true rfl)
  rw [lg_entry_eq]
  generalize (lg_sl ([.ref (a0 0)]) ++ List.replicate (1 - (lg_sl ([.ref (a0 0)])).length) Slot.unset).toArray = ls at hl ⊢
  have hl : lv_has ls 1 [(0, .ref (a0 0))] := hl
  have C0 : cx wsAll vwCl nx p s m [.ref (a0 0)].toArray meth c (dC, dI) (tyA ct) b_Text_countCondition 1 (none : Option Jvm.ClassFile.FieldType) R_Text A [adText a0] := ⟨hx, hb, hr, hml, hown, hlocks, hts, hK, hN, hA, hnx⟩
  have h := hF
  rw [F_Text_countCondition] at h
  refine lv_aload_n hx hb d_Text_countCondition_0 rfl (lv_at hl 0 rfl) ?_
  refine va_get (D := (dC, dI)) (ci := 2) (v := .int (g32 o0 3 0)) (C := R_Text) (T := T_Text) (N := 12) hx hb hts in_Text hown hK (hP 0 _ rfl) 0 rfl rfl 3 (by decide) (hts _ fl_Text_26) (fun _ h9 => h9) rfl d_Text_countCondition_1 ?_
  refine lv_if_le (tgt := 22) hx hb d_Text_countCondition_4 (by decide) (fun c1 => ?_) (fun c1 => ?_)
  · have h := ite_t c1 h
    obtain rfl := res1 h
    exact W.vret hx hb hr (fun t ht hW => ⟨rfl, by rw [ht]; exact hP, hS.F ht⟩) hS.2.2 d_Text_countCondition_22
  · have h := ite_f c1 h
    refine lv_aload_n hx hb d_Text_countCondition_7 rfl (lv_at hl 0 rfl) ?_
    refine va_get (D := (dC, dI)) (ci := 2) (v := .ref (a0 4)) (C := R_Text) (T := T_Text) (N := 12) hx hb hts in_Text hown hK (hP 0 _ rfl) 0 rfl rfl 6 (by decide) (hts _ fl_Text_36) (fun _ h9 => h9) rfl d_Text_countCondition_8 ?_
    refine lv_aload_n hx hb d_Text_countCondition_11 rfl (lv_at hl 0 rfl) ?_
    refine va_get (D := (dC, dI)) (ci := 2) (v := .int (g32 o0 3 0)) (C := R_Text) (T := T_Text) (N := 12) hx hb hts in_Text hown hK (hP 0 _ rfl) 0 rfl rfl 3 (by decide) (hts _ fl_Text_26) (fun _ h9 => h9) rfl d_Text_countCondition_12 ?_
    refine lv_iconst (v := 1) hx hb d_Text_countCondition_15 (by decide) ?_
    refine lv_isub hx hb d_Text_countCondition_16 ?_
    refine lv_dup2_11 hx hb d_Text_countCondition_17 rfl rfl ?_
    obtain ⟨hi2, h⟩ := chk_some h
    refine va_iald (f := g32 o0 6) hx hb hK (hP 0 _ rfl) 4 0 rfl rfl (inb_in hi2) d_Text_countCondition_18 ?_
    refine lv_iconst (v := 1) hx hb d_Text_countCondition_19 (by decide) ?_
    refine lv_iadd hx hb d_Text_countCondition_20 ?_
    refine st_Text_6 hx hb hK hP hN hS 0 rfl (inb_in hi2) d_Text_countCondition_21 (fun H locs hP hS => ?_)
    have hP : bw_P (dC, dI) vwCl [wText ct a0 r0_2 (s32 o0 6 (Int32.toNatClampNeg ((g32 o0 3 0) - (1 : Int32))) ((g32 o0 6 (Int32.toNatClampNeg ((g32 o0 3 0) - (1 : Int32)))) + (1 : Int32)))] H := hP
    obtain rfl := res1 h
    exact W.vret hx hb hr (fun t ht hW => ⟨rfl, by rw [ht]; exact hP, hS.F ht⟩) hS.2.2 d_Text_countCondition_22
def F_Text_reaches (x1 : Int32) (x2 : Int32) (o0 : Ob) : Option (Bool) :=
  chk (inb x1 60) (if (lg_cmp ((lushr (g64 o0 8 (Int32.toNatClampNeg x1)) x2) &&& (1 : Int64)) (0 : Int64)) = 0 then (some false) else (some true))
abbrev ws_Text_reaches : List Cond := Cond.code y_Text_reaches b_Text_reaches 3 (some .boolean) :: wsAll
abbrev rm_Text_reaches : Room := { frames := 0, cells := 0, slots := 0, locals := 0 }
set_option maxHeartbeats 4000000 in
set_option maxRecDepth 100000 in
theorem c_Text_reaches (l : Launch) (ct dC : Nat → ClassId) (dI : Nat → Nat → Nat) (a0 : Nat → Nat) (r0_2 : Nat) (sz : Nat) (x1 : Int32) (x2 : Int32) (o0 : Ob) (r : Bool) (hF : F_Text_reaches x1 x2 o0 = some r) : Met l y_Text_reaches ws_Text_reaches rm_Text_reaches (bw_Pc [.ref (a0 0), .int x1, .int x2] (dC, dI) vwCl (tyA ct) [wText ct a0 r0_2 o0] sz nx) (bw_QR (some (.int (b2i r)))) 0 0 (fun _ => False) := by
  refine Met.ofW (cc := b_Text_reaches) (maxL := 3) (ret := (some .boolean)) (by decide) rfl ?_
  intro p e s m args below meth c s₁ B hml hv
  obtain ⟨rfl, hsz, hP, hK, hN0, hnx⟩ := hv
  have hx := B.exec
  have hb := B.bytes
  have hr := B.returns
  have hts : ∀ w ∈ wsAll, w.before [.ref (a0 0), .int x1, .int x2].toArray s = true := fun w h9 => atoms_spec (ws := ws_Text_reaches) B.pre w (List.mem_cons_of_mem _ h9)
  have hown : s.vm.findClass R_Text = some m.cls := findClass_of_methodNamed B.named
  have hlocks := B.notSynchronized
  subst hsz
  have hN : bw_N (fun _ => True) [adText a0] := hN0
  generalize hAe : (fun _ : Nat => True) = A at hN
  have hA : ∀ q : Nat, s.heap.size ≤ q → A q := fun q _ => by rw [← hAe]; trivial
  have hS : s.heap = s.heap ∧ ([] : List Loc) = [] := ⟨rfl, rfl⟩
  have hl := lv_entry ([.ref (a0 0), .int x1, .int x2]) (n := 3) (Nat.le_of_ble_eq_true rfl)
  rw [lg_entry_eq]
  generalize (lg_sl ([.ref (a0 0), .int x1, .int x2]) ++ List.replicate (3 - (lg_sl ([.ref (a0 0), .int x1, .int x2])).length) Slot.unset).toArray = ls at hl ⊢
  have hl : lv_has ls 3 [(0, .ref (a0 0)), (1, .int x1), (2, .int x2)] := hl
  have C0 : cx wsAll vwCl nx p s m [.ref (a0 0), .int x1, .int x2].toArray meth c (dC, dI) (tyA ct) b_Text_reaches 3 (some .boolean) R_Text A [adText a0] := ⟨hx, hb, hr, hml, hown, hlocks, hts, hK, hN, hA, hnx⟩
  have h := hF
  rw [F_Text_reaches] at h
  refine lv_aload_n hx hb d_Text_reaches_0 rfl (lv_at hl 0 rfl) ?_
  refine va_get (D := (dC, dI)) (ci := 2) (v := .ref (a0 6)) (C := R_Text) (T := T_Text) (N := 12) hx hb hts in_Text hown hK (hP 0 _ rfl) 0 rfl rfl 8 (by decide) (hts _ fl_Text_42) (fun _ h9 => h9) rfl d_Text_reaches_1 ?_
  refine lv_iload_n hx hb d_Text_reaches_4 rfl (lv_at hl 1 rfl) ?_
  obtain ⟨hi1, h⟩ := chk_some h
  refine va_lald (f := g64 o0 8) hx hb hK (hP 0 _ rfl) 6 1 rfl rfl (inb_in hi1) d_Text_reaches_5 ?_
  refine lv_iload_n hx hb d_Text_reaches_6 rfl (lv_at hl 2 rfl) ?_
  refine lv_lushr (v := (lushr (g64 o0 8 (Int32.toNatClampNeg x1)) x2)) hx hb d_Text_reaches_7 rfl ?_
  refine lv_lconst (v := 1) hx hb d_Text_reaches_8 (by decide) ?_
  refine lv_land hx hb d_Text_reaches_9 ?_
  refine lv_lconst (v := 0) hx hb d_Text_reaches_10 (by decide) ?_
  refine W.lcmp hx hb d_Text_reaches_11 ?_
  refine lv_if_eq (tgt := 19) hx hb d_Text_reaches_12 (by decide) (fun c2 => ?_) (fun c2 => ?_)
  · have h := ite_t c2 h
    refine lv_iconst (v := 0) hx hb d_Text_reaches_19 (by decide) ?_
    obtain rfl := res1 h
    exact W.zret hx hb hr rfl (fun t ht hW => ⟨rfl, ht.trans hS.1⟩) (bw_nil hS.2) d_Text_reaches_20
  · have h := ite_f c2 h
    refine lv_iconst (v := 1) hx hb d_Text_reaches_15 (by decide) ?_
    refine lv_goto (tgt := 20) hx hb d_Text_reaches_16 (by decide) ?_
    obtain rfl := res1 h
    exact W.zret hx hb hr rfl (fun t ht hW => ⟨rfl, ht.trans hS.1⟩) (bw_nil hS.2) d_Text_reaches_20
theorem g_Text_69 : GoodIn wsAll (wsV R_Text 69 R_Text y_Text_reaches ws_Text_reaches) := gd_V ml_Text_69 im_Text_reaches se_Text_reaches ini_Text cd_Text_reaches
def F_Text_followNeeds_10 (k2 : Int32 → Ob → Option (Ob)) : Nat → Int32 → Int32 → Ob → Option (Ob)
  | 0, _, _, _ => none
  | n + 1, x1, x2, o0 =>
    if (60 : Int32) ≤ x2 then (k2 (x1 + (1 : Int32)) o0) else (bind1 (F_Text_reaches x2 x1 o0) (fun v4 => if (b2i v4) = 0 then (F_Text_followNeeds_10 k2 n x1 (x2 + (1 : Int32)) o0) else (chk (inb x2 60) (chk (inb x1 60) (F_Text_followNeeds_10 k2 n x1 (x2 + (1 : Int32)) (s32 (s64 o0 8 (Int32.toNatClampNeg x2) ((g64 o0 8 (Int32.toNatClampNeg x2)) ||| (g64 o0 8 (Int32.toNatClampNeg x1)))) 9 (Int32.toNatClampNeg x2) ((g32 o0 9 (Int32.toNatClampNeg x2)) ||| (g32 o0 9 (Int32.toNatClampNeg x1)))))))))
def F_Text_followNeeds_2  : Nat → Int32 → Ob → Option (Ob)
  | 0, _, _ => none
  | n + 1, x1, o0 =>
    if (60 : Int32) ≤ x1 then (some o0) else (F_Text_followNeeds_10 (F_Text_followNeeds_2 n) fuel x1 (0 : Int32) o0)
def F_Text_followNeeds  (o0 : Ob) : Option (Ob) :=
  F_Text_followNeeds_2 fuel (0 : Int32) o0
abbrev ws_Text_followNeeds : List Cond := Cond.code y_Text_followNeeds b_Text_followNeeds 3 (none : Option Jvm.ClassFile.FieldType) :: wsAll
abbrev rm_Text_followNeeds : Room := { frames := 1, cells := 0, slots := 0, locals := 22 }
set_option maxHeartbeats 4000000 in
set_option maxRecDepth 100000 in
theorem k_Text_followNeeds_10 {p : Program} {l : Launch} {e : Env} {s : State} {m : MethodId} {args : Array Value} {below : List Frame} {meth : Method} {c : Code} {A : Nat → Prop} {ct dC : Nat → ClassId} {dI : Nat → Nat → Nat} {a0 : Nat → Nat} {r0_2 : Nat} {n0 : Ob}  {k2 : Int32 → Ob → Option (Ob)} (C0 : cx wsAll vwCl nx p s m args meth c (dC, dI) (tyA ct) b_Text_followNeeds 3 (none : Option Jvm.ClassFile.FieldType) R_Text A [adText a0]) (hk2 : ∀ (x1 : Int32) (o0 : Ob) (H : Heap) (locs : List Loc) (ls : Array Slot), bw_P (dC, dI) vwCl [wText ct a0 r0_2 o0] H → va_S A s.heap H locs → lv_has ls 3 [(0, .ref (a0 0)), (1, .int x1)] → k2 x1 o0 = some n0 → W p l e (headSpec ws_Text_followNeeds rm_Text_followNeeds).room s m args below meth c H locs 0 0 (MQ below (bw_Q (dC, dI) vwCl none [wText ct a0 r0_2 n0] A) args s 0 0 A) (F0 m 2 ls [])) : ∀ (n : Nat) (x1 : Int32) (x2 : Int32) (o0 : Ob) (H : Heap) (locs : List Loc) (ls : Array Slot), bw_P (dC, dI) vwCl [wText ct a0 r0_2 o0] H → va_S A s.heap H locs → lv_has ls 3 [(0, .ref (a0 0)), (1, .int x1), (2, .int x2)] → F_Text_followNeeds_10 k2 n x1 x2 o0 = some n0 → W p l e (headSpec ws_Text_followNeeds rm_Text_followNeeds).room s m args below meth c H locs 0 0 (MQ below (bw_Q (dC, dI) vwCl none [wText ct a0 r0_2 n0] A) args s 0 0 A) (F0 m 10 ls []) := by
  obtain ⟨hx, hb, hr, hml, hown, hlocks, hts, hK, hN, hA, hnx⟩ := id C0
  intro n
  induction n with
  | zero =>
    intro x1 x2 o0 H locs ls hP hS hl h
    cases h
  | succ n ih =>
    intro x1 x2 o0 H locs ls hP hS hl h
    rw [F_Text_followNeeds_10] at h
    refine lv_iload_n hx hb d_Text_followNeeds_10 rfl (lv_at hl 2 rfl) ?_
    refine lv_bipush (v := 60) hx hb d_Text_followNeeds_11 (by decide) ?_
    refine lv_icmp_ge (tgt := 61) hx hb d_Text_followNeeds_13 (by decide) (fun c2 => ?_) (fun c2 => ?_)
    · have h := ite_t c2 h
      refine lv_iinc (v := (x1 + (1 : Int32))) (lv' := [(1, .int (x1 + (1 : Int32))), (0, .ref (a0 0)), (2, .int x2)]) hx hb d_Text_followNeeds_61 hl (k := 1) rfl rfl (by decide) rfl (fun ls hl => ?_)
      refine lv_goto (tgt := 2) hx hb d_Text_followNeeds_64 (by decide) ?_
      exact hk2 (x1 + (1 : Int32)) o0 _ _ _ hP hS (lv_sub hl [1, 0] rfl) h
    · have h := ite_f c2 h
      refine lv_aload_n hx hb d_Text_followNeeds_16 rfl (lv_at hl 0 rfl) ?_
      refine lv_iload_n hx hb d_Text_followNeeds_17 rfl (lv_at hl 2 rfl) ?_
      refine lv_iload_n hx hb d_Text_followNeeds_18 rfl (lv_at hl 1 rfl) ?_
      obtain ⟨v4, hG3, h⟩ := bind1_some h
      refine bw_callR (va_runV (As := [.int x2, .int x1]) (rest := []) ⟨hx, hb, hml, hown, hts⟩ (c_Text_reaches l ct dC dI a0 r0_2 _ x2 x1 o0 v4 hG3) (cwV 2 hts g_Text_69 rfl rfl rfl (by decide +kernel) ⟨Nat.le_of_ble_eq_true rfl, Nat.le_of_ble_eq_true rfl⟩) ⟨bw_blind nx_call, va_recv hK (hP 0 _ rfl) (ci := 2) (q0 := 0) rfl rfl, fun U hU hW => ⟨rfl, by rw [hU], by rw [hU]; exact hP.sub [0] rfl, va_K.moved hW.alike hK, (hN.sub [0] (by decide) rfl).weaken (fun _ _ => trivial), nx_warm hW hnx⟩⟩ rfl rfl hl.1 rfl (Nat.le_of_ble_eq_true rfl) d_Text_followNeeds_19 ⟨Nat.le_of_ble_eq_true rfl, Nat.le_of_ble_eq_true rfl⟩) ?_
      refine lv_if_eq (tgt := 55) hx hb d_Text_followNeeds_22 (by decide) (fun c5 => ?_) (fun c5 => ?_)
      · have h := ite_t c5 h
        refine lv_iinc (v := (x2 + (1 : Int32))) (lv' := [(2, .int (x2 + (1 : Int32))), (0, .ref (a0 0)), (1, .int x1)]) hx hb d_Text_followNeeds_55 hl (k := 2) rfl rfl (by decide) rfl (fun ls hl => ?_)
        refine lv_goto (tgt := 10) hx hb d_Text_followNeeds_58 (by decide) ?_
        exact ih x1 (x2 + (1 : Int32)) o0 _ _ _ hP hS (lv_sub hl [1, 2, 0] rfl) h
      · have h := ite_f c5 h
        refine lv_aload_n hx hb d_Text_followNeeds_25 rfl (lv_at hl 0 rfl) ?_
        refine va_get (D := (dC, dI)) (ci := 2) (v := .ref (a0 6)) (C := R_Text) (T := T_Text) (N := 12) hx hb hts in_Text hown hK (hP 0 _ rfl) 0 rfl rfl 8 (by decide) (hts _ fl_Text_42) (fun _ h9 => h9) rfl d_Text_followNeeds_26 ?_
        refine lv_iload_n hx hb d_Text_followNeeds_29 rfl (lv_at hl 2 rfl) ?_
        refine lv_dup2_11 hx hb d_Text_followNeeds_30 rfl rfl ?_
        obtain ⟨hi6, h⟩ := chk_some h
        refine va_lald (f := g64 o0 8) hx hb hK (hP 0 _ rfl) 6 1 rfl rfl (inb_in hi6) d_Text_followNeeds_31 ?_
        refine lv_aload_n hx hb d_Text_followNeeds_32 rfl (lv_at hl 0 rfl) ?_
        refine va_get (D := (dC, dI)) (ci := 2) (v := .ref (a0 6)) (C := R_Text) (T := T_Text) (N := 12) hx hb hts in_Text hown hK (hP 0 _ rfl) 0 rfl rfl 8 (by decide) (hts _ fl_Text_42) (fun _ h9 => h9) rfl d_Text_followNeeds_33 ?_
        refine lv_iload_n hx hb d_Text_followNeeds_36 rfl (lv_at hl 1 rfl) ?_
        obtain ⟨hi7, h⟩ := chk_some h
        refine va_lald (f := g64 o0 8) hx hb hK (hP 0 _ rfl) 6 1 rfl rfl (inb_in hi7) d_Text_followNeeds_37 ?_
        refine lv_lor hx hb d_Text_followNeeds_38 ?_
        refine st_Text_8 hx hb hK hP hN hS 0 rfl (inb_in hi6) d_Text_followNeeds_39 (fun H locs hP hS => ?_)
        have hP : bw_P (dC, dI) vwCl [wText ct a0 r0_2 (s64 o0 8 (Int32.toNatClampNeg x2) ((g64 o0 8 (Int32.toNatClampNeg x2)) ||| (g64 o0 8 (Int32.toNatClampNeg x1))))] H := hP
        refine lv_aload_n hx hb d_Text_followNeeds_40 rfl (lv_at hl 0 rfl) ?_
        refine va_get (D := (dC, dI)) (ci := 2) (v := .ref (a0 7)) (C := R_Text) (T := T_Text) (N := 12) hx hb hts in_Text hown hK (hP 0 _ rfl) 0 rfl rfl 9 (by decide) (hts _ fl_Text_46) (fun _ h9 => h9) rfl d_Text_followNeeds_41 ?_
        refine lv_iload_n hx hb d_Text_followNeeds_44 rfl (lv_at hl 2 rfl) ?_
        refine lv_dup2_11 hx hb d_Text_followNeeds_45 rfl rfl ?_
        refine va_iald (f := g32 o0 9) hx hb hK (hP 0 _ rfl) 7 0 rfl rfl (inb_in hi6) d_Text_followNeeds_46 ?_
        refine lv_aload_n hx hb d_Text_followNeeds_47 rfl (lv_at hl 0 rfl) ?_
        refine va_get (D := (dC, dI)) (ci := 2) (v := .ref (a0 7)) (C := R_Text) (T := T_Text) (N := 12) hx hb hts in_Text hown hK (hP 0 _ rfl) 0 rfl rfl 9 (by decide) (hts _ fl_Text_46) (fun _ h9 => h9) rfl d_Text_followNeeds_48 ?_
        refine lv_iload_n hx hb d_Text_followNeeds_51 rfl (lv_at hl 1 rfl) ?_
        refine va_iald (f := g32 o0 9) hx hb hK (hP 0 _ rfl) 7 0 rfl rfl (inb_in hi7) d_Text_followNeeds_52 ?_
        refine lv_ior hx hb d_Text_followNeeds_53 ?_
        refine st_Text_9 hx hb hK hP hN hS 0 rfl (inb_in hi6) d_Text_followNeeds_54 (fun H locs hP hS => ?_)
        have hP : bw_P (dC, dI) vwCl [wText ct a0 r0_2 (s32 (s64 o0 8 (Int32.toNatClampNeg x2) ((g64 o0 8 (Int32.toNatClampNeg x2)) ||| (g64 o0 8 (Int32.toNatClampNeg x1)))) 9 (Int32.toNatClampNeg x2) ((g32 o0 9 (Int32.toNatClampNeg x2)) ||| (g32 o0 9 (Int32.toNatClampNeg x1))))] H := hP
        refine lv_iinc (v := (x2 + (1 : Int32))) (lv' := [(2, .int (x2 + (1 : Int32))), (0, .ref (a0 0)), (1, .int x1)]) hx hb d_Text_followNeeds_55 hl (k := 2) rfl rfl (by decide) rfl (fun ls hl => ?_)
        refine lv_goto (tgt := 10) hx hb d_Text_followNeeds_58 (by decide) ?_
        exact ih x1 (x2 + (1 : Int32)) (s32 (s64 o0 8 (Int32.toNatClampNeg x2) ((g64 o0 8 (Int32.toNatClampNeg x2)) ||| (g64 o0 8 (Int32.toNatClampNeg x1)))) 9 (Int32.toNatClampNeg x2) ((g32 o0 9 (Int32.toNatClampNeg x2)) ||| (g32 o0 9 (Int32.toNatClampNeg x1)))) _ _ _ hP hS (lv_sub hl [1, 2, 0] rfl) h
set_option maxHeartbeats 4000000 in
set_option maxRecDepth 100000 in
theorem k_Text_followNeeds_2 {p : Program} {l : Launch} {e : Env} {s : State} {m : MethodId} {args : Array Value} {below : List Frame} {meth : Method} {c : Code} {A : Nat → Prop} {ct dC : Nat → ClassId} {dI : Nat → Nat → Nat} {a0 : Nat → Nat} {r0_2 : Nat} {n0 : Ob}   (C0 : cx wsAll vwCl nx p s m args meth c (dC, dI) (tyA ct) b_Text_followNeeds 3 (none : Option Jvm.ClassFile.FieldType) R_Text A [adText a0])  : ∀ (n : Nat) (x1 : Int32) (o0 : Ob) (H : Heap) (locs : List Loc) (ls : Array Slot), bw_P (dC, dI) vwCl [wText ct a0 r0_2 o0] H → va_S A s.heap H locs → lv_has ls 3 [(0, .ref (a0 0)), (1, .int x1)] → F_Text_followNeeds_2 n x1 o0 = some n0 → W p l e (headSpec ws_Text_followNeeds rm_Text_followNeeds).room s m args below meth c H locs 0 0 (MQ below (bw_Q (dC, dI) vwCl none [wText ct a0 r0_2 n0] A) args s 0 0 A) (F0 m 2 ls []) := by
  obtain ⟨hx, hb, hr, hml, hown, hlocks, hts, hK, hN, hA, hnx⟩ := id C0
  intro n
  induction n with
  | zero =>
    intro x1 o0 H locs ls hP hS hl h
    cases h
  | succ n ih =>
    intro x1 o0 H locs ls hP hS hl h
    rw [F_Text_followNeeds_2] at h
    refine lv_iload_n hx hb d_Text_followNeeds_2 rfl (lv_at hl 1 rfl) ?_
    refine lv_bipush (v := 60) hx hb d_Text_followNeeds_3 (by decide) ?_
    refine lv_icmp_ge (tgt := 67) hx hb d_Text_followNeeds_5 (by decide) (fun c1 => ?_) (fun c1 => ?_)
    · have h := ite_t c1 h
      obtain rfl := res1 h
      exact W.vret hx hb hr (fun t ht hW => ⟨rfl, by rw [ht]; exact hP, hS.F ht⟩) hS.2.2 d_Text_followNeeds_67
    · have h := ite_f c1 h
      refine lv_iconst (v := 0) hx hb d_Text_followNeeds_8 (by decide) ?_
      refine lv_istore_n (lv' := [(2, .int (0 : Int32)), (0, .ref (a0 0)), (1, .int x1)]) hx hb d_Text_followNeeds_9 rfl hl (by decide) rfl (fun ls hl => ?_)
      exact k_Text_followNeeds_10 C0 ih fuel x1 (0 : Int32) o0 _ _ _ hP hS (lv_sub hl [1, 2, 0] rfl) h
set_option maxHeartbeats 4000000 in
set_option maxRecDepth 100000 in
theorem c_Text_followNeeds (l : Launch) (ct dC : Nat → ClassId) (dI : Nat → Nat → Nat) (a0 : Nat → Nat) (r0_2 : Nat) (sz : Nat)  (o0 : Ob) (n0 : Ob) (hF : F_Text_followNeeds o0 = some n0) : Met l y_Text_followNeeds ws_Text_followNeeds rm_Text_followNeeds (bw_Pc [.ref (a0 0)] (dC, dI) vwCl (tyA ct) [wText ct a0 r0_2 o0] sz nx) (bw_Q (dC, dI) vwCl none [wText ct a0 r0_2 n0] (bw_A [adText a0] sz)) 0 0 (bw_A [adText a0] sz) := by
  refine Met.ofW (cc := b_Text_followNeeds) (maxL := 3) (ret := (none : Option Jvm.ClassFile.FieldType)) (by decide) rfl ?_
  intro p e s m args below meth c s₁ B hml hv
  obtain ⟨rfl, hsz, hP, hK, hN0, hnx⟩ := hv
  have hx := B.exec
  have hb := B.bytes
  have hr := B.returns
  have hts : ∀ w ∈ wsAll, w.before [.ref (a0 0)].toArray s = true := fun w h9 => atoms_spec (ws := ws_Text_followNeeds) B.pre w (List.mem_cons_of_mem _ h9)
  have hown : s.vm.findClass R_Text = some m.cls := findClass_of_methodNamed B.named
  have hlocks := B.notSynchronized
  subst hsz
  have hN : bw_N (bw_A [adText a0] s.heap.size) [adText a0] := hN0.self s.heap.size
  generalize hAe : bw_A [adText a0] s.heap.size = A at hN ⊢
  have hA : ∀ q : Nat, s.heap.size ≤ q → A q := fun q h => by rw [← hAe]; exact Or.inr h
  have hS : va_S A s.heap s.heap [] := va_S.rf
  have hl := lv_entry ([.ref (a0 0)]) (n := 3) (Nat.le_of_ble_eq_true rfl)
  rw [lg_entry_eq]
  generalize (lg_sl ([.ref (a0 0)]) ++ List.replicate (3 - (lg_sl ([.ref (a0 0)])).length) Slot.unset).toArray = ls at hl ⊢
  have hl : lv_has ls 3 [(0, .ref (a0 0))] := hl
  have C0 : cx wsAll vwCl nx p s m [.ref (a0 0)].toArray meth c (dC, dI) (tyA ct) b_Text_followNeeds 3 (none : Option Jvm.ClassFile.FieldType) R_Text A [adText a0] := ⟨hx, hb, hr, hml, hown, hlocks, hts, hK, hN, hA, hnx⟩
  have h := hF
  rw [F_Text_followNeeds] at h
  refine lv_iconst (v := 0) hx hb d_Text_followNeeds_0 (by decide) ?_
  refine lv_istore_n (lv' := [(1, .int (0 : Int32)), (0, .ref (a0 0))]) hx hb d_Text_followNeeds_1 rfl hl (by decide) rfl (fun ls hl => ?_)
  exact k_Text_followNeeds_2 C0 fuel (0 : Int32) o0 _ _ _ hP hS (lv_sub hl [1, 0] rfl) h
def F_Text_isLimit (x1 : Int32) (o0 : Ob) : Option (Bool) :=
  chk (inb x1 24) (if (g32 o0 4 (Int32.toNatClampNeg x1)) = (-1 : Int32) then (some true) else (some false))
abbrev ws_Text_isLimit : List Cond := Cond.code y_Text_isLimit b_Text_isLimit 2 (some .boolean) :: wsAll
abbrev rm_Text_isLimit : Room := { frames := 0, cells := 0, slots := 0, locals := 0 }
set_option maxHeartbeats 4000000 in
set_option maxRecDepth 100000 in
theorem c_Text_isLimit (l : Launch) (ct dC : Nat → ClassId) (dI : Nat → Nat → Nat) (a0 : Nat → Nat) (r0_2 : Nat) (sz : Nat) (x1 : Int32) (o0 : Ob) (r : Bool) (hF : F_Text_isLimit x1 o0 = some r) : Met l y_Text_isLimit ws_Text_isLimit rm_Text_isLimit (bw_Pc [.ref (a0 0), .int x1] (dC, dI) vwCl (tyA ct) [wText ct a0 r0_2 o0] sz nx) (bw_QR (some (.int (b2i r)))) 0 0 (fun _ => False) := by
  refine Met.ofW (cc := b_Text_isLimit) (maxL := 2) (ret := (some .boolean)) (by decide) rfl ?_
  intro p e s m args below meth c s₁ B hml hv
  obtain ⟨rfl, hsz, hP, hK, hN0, hnx⟩ := hv
  have hx := B.exec
  have hb := B.bytes
  have hr := B.returns
  have hts : ∀ w ∈ wsAll, w.before [.ref (a0 0), .int x1].toArray s = true := fun w h9 => atoms_spec (ws := ws_Text_isLimit) B.pre w (List.mem_cons_of_mem _ h9)
  have hown : s.vm.findClass R_Text = some m.cls := findClass_of_methodNamed B.named
  have hlocks := B.notSynchronized
  subst hsz
  have hN : bw_N (fun _ => True) [adText a0] := hN0
  generalize hAe : (fun _ : Nat => True) = A at hN
  have hA : ∀ q : Nat, s.heap.size ≤ q → A q := fun q _ => by rw [← hAe]; trivial
  have hS : s.heap = s.heap ∧ ([] : List Loc) = [] := ⟨rfl, rfl⟩
  have hl := lv_entry ([.ref (a0 0), .int x1]) (n := 2) (Nat.le_of_ble_eq_true rfl)
  rw [lg_entry_eq]
  generalize (lg_sl ([.ref (a0 0), .int x1]) ++ List.replicate (2 - (lg_sl ([.ref (a0 0), .int x1])).length) Slot.unset).toArray = ls at hl ⊢
  have hl : lv_has ls 2 [(0, .ref (a0 0)), (1, .int x1)] := hl
  have C0 : cx wsAll vwCl nx p s m [.ref (a0 0), .int x1].toArray meth c (dC, dI) (tyA ct) b_Text_isLimit 2 (some .boolean) R_Text A [adText a0] := ⟨hx, hb, hr, hml, hown, hlocks, hts, hK, hN, hA, hnx⟩
  have h := hF
  rw [F_Text_isLimit] at h
  refine lv_aload_n hx hb d_Text_isLimit_0 rfl (lv_at hl 0 rfl) ?_
  refine va_get (D := (dC, dI)) (ci := 2) (v := .ref (a0 2)) (C := R_Text) (T := T_Text) (N := 12) hx hb hts in_Text hown hK (hP 0 _ rfl) 0 rfl rfl 4 (by decide) (hts _ fl_Text_29) (fun _ h9 => h9) rfl d_Text_isLimit_1 ?_
  refine lv_iload_n hx hb d_Text_isLimit_4 rfl (lv_at hl 1 rfl) ?_
  obtain ⟨hi1, h⟩ := chk_some h
  refine va_iald (f := g32 o0 4) hx hb hK (hP 0 _ rfl) 2 0 rfl rfl (inb_in hi1) d_Text_isLimit_5 ?_
  refine lv_iconst (v := -1) hx hb d_Text_isLimit_6 (by decide) ?_
  refine lv_icmp_ne (tgt := 14) hx hb d_Text_isLimit_7 (by decide) (fun c2 => ?_) (fun c2 => ?_)
  · have h := ite_f c2 h
    refine lv_iconst (v := 0) hx hb d_Text_isLimit_14 (by decide) ?_
    obtain rfl := res1 h
    exact W.zret hx hb hr rfl (fun t ht hW => ⟨rfl, ht.trans hS.1⟩) (bw_nil hS.2) d_Text_isLimit_15
  · have h := ite_t c2 h
    refine lv_iconst (v := 1) hx hb d_Text_isLimit_10 (by decide) ?_
    refine lv_goto (tgt := 15) hx hb d_Text_isLimit_11 (by decide) ?_
    obtain rfl := res1 h
    exact W.zret hx hb hr rfl (fun t ht hW => ⟨rfl, ht.trans hS.1⟩) (bw_nil hS.2) d_Text_isLimit_15
def F_Text_isRing (x1 : Int32) (o0 : Ob) : Option (Bool) :=
  bind1 (F_Text_reaches x1 x1 o0) (fun v2 => some v2)
abbrev ws_Text_isRing : List Cond := Cond.code y_Text_isRing b_Text_isRing 2 (some .boolean) :: wsAll
abbrev rm_Text_isRing : Room := { frames := 1, cells := 0, slots := 0, locals := 22 }
set_option maxHeartbeats 4000000 in
set_option maxRecDepth 100000 in
theorem c_Text_isRing (l : Launch) (ct dC : Nat → ClassId) (dI : Nat → Nat → Nat) (a0 : Nat → Nat) (r0_2 : Nat) (sz : Nat) (x1 : Int32) (o0 : Ob) (r : Bool) (hF : F_Text_isRing x1 o0 = some r) : Met l y_Text_isRing ws_Text_isRing rm_Text_isRing (bw_Pc [.ref (a0 0), .int x1] (dC, dI) vwCl (tyA ct) [wText ct a0 r0_2 o0] sz nx) (bw_QR (some (.int (b2i r)))) 0 0 (fun _ => False) := by
  refine Met.ofW (cc := b_Text_isRing) (maxL := 2) (ret := (some .boolean)) (by decide) rfl ?_
  intro p e s m args below meth c s₁ B hml hv
  obtain ⟨rfl, hsz, hP, hK, hN0, hnx⟩ := hv
  have hx := B.exec
  have hb := B.bytes
  have hr := B.returns
  have hts : ∀ w ∈ wsAll, w.before [.ref (a0 0), .int x1].toArray s = true := fun w h9 => atoms_spec (ws := ws_Text_isRing) B.pre w (List.mem_cons_of_mem _ h9)
  have hown : s.vm.findClass R_Text = some m.cls := findClass_of_methodNamed B.named
  have hlocks := B.notSynchronized
  subst hsz
  have hN : bw_N (fun _ => True) [adText a0] := hN0
  generalize hAe : (fun _ : Nat => True) = A at hN
  have hA : ∀ q : Nat, s.heap.size ≤ q → A q := fun q _ => by rw [← hAe]; trivial
  have hS : s.heap = s.heap ∧ ([] : List Loc) = [] := ⟨rfl, rfl⟩
  have hl := lv_entry ([.ref (a0 0), .int x1]) (n := 2) (Nat.le_of_ble_eq_true rfl)
  rw [lg_entry_eq]
  generalize (lg_sl ([.ref (a0 0), .int x1]) ++ List.replicate (2 - (lg_sl ([.ref (a0 0), .int x1])).length) Slot.unset).toArray = ls at hl ⊢
  have hl : lv_has ls 2 [(0, .ref (a0 0)), (1, .int x1)] := hl
  have C0 : cx wsAll vwCl nx p s m [.ref (a0 0), .int x1].toArray meth c (dC, dI) (tyA ct) b_Text_isRing 2 (some .boolean) R_Text A [adText a0] := ⟨hx, hb, hr, hml, hown, hlocks, hts, hK, hN, hA, hnx⟩
  have h := hF
  rw [F_Text_isRing] at h
  refine lv_aload_n hx hb d_Text_isRing_0 rfl (lv_at hl 0 rfl) ?_
  refine lv_iload_n hx hb d_Text_isRing_1 rfl (lv_at hl 1 rfl) ?_
  refine lv_iload_n hx hb d_Text_isRing_2 rfl (lv_at hl 1 rfl) ?_
  obtain ⟨v2, hG1, h⟩ := bind1_some h
  refine bw_callR (va_runV (As := [.int x1, .int x1]) (rest := []) ⟨hx, hb, hml, hown, hts⟩ (c_Text_reaches l ct dC dI a0 r0_2 _ x1 x1 o0 v2 hG1) (cwV 2 hts g_Text_69 rfl rfl rfl (by decide +kernel) ⟨Nat.le_of_ble_eq_true rfl, Nat.le_of_ble_eq_true rfl⟩) ⟨bw_blind nx_call, va_recv hK (hP 0 _ rfl) (ci := 2) (q0 := 0) rfl rfl, fun U hU hW => ⟨rfl, by rw [hU], by rw [hU]; exact hP.sub [0] rfl, va_K.moved hW.alike hK, (hN.sub [0] (by decide) rfl).weaken (fun _ _ => trivial), nx_warm hW hnx⟩⟩ rfl rfl hl.1 rfl (Nat.le_of_ble_eq_true rfl) d_Text_isRing_3 ⟨Nat.le_of_ble_eq_true rfl, Nat.le_of_ble_eq_true rfl⟩) ?_
  obtain rfl := res1 h
  exact W.zret hx hb hr (b2i_nar _) (fun t ht hW => ⟨rfl, ht.trans hS.1⟩) (bw_nil hS.2) d_Text_isRing_6
theorem g_Text_73 : GoodIn wsAll (wsV R_Text 73 R_Text y_Text_isLimit ws_Text_isLimit) := gd_V ml_Text_73 im_Text_isLimit se_Text_isLimit ini_Text cd_Text_isLimit
theorem g_Text_77 : GoodIn wsAll (wsV R_Text 77 R_Text y_Text_isRing ws_Text_isRing) := gd_V ml_Text_77 im_Text_isRing se_Text_isRing ini_Text cd_Text_isRing
def F_Text_findOrder_67 (k52 : Int64 → Int32 → Ob → Option (Ob)) : Nat → Int64 → Int32 → Int32 → Ob → Option (Ob)
  | 0, _, _, _, _ => none
  | n + 1, x1, x3, x4, o0 =>
    if (g32 o0 3 0) ≤ x4 then (k52 x1 (x3 + (1 : Int32)) o0) else (chk (inb x4 24) (if (g32 o0 4 (Int32.toNatClampNeg x4)) = (-1 : Int32) then (F_Text_findOrder_67 k52 n x1 x3 (x4 + (1 : Int32)) o0) else (if (lg_cmp ((lushr x1 (g32 o0 4 (Int32.toNatClampNeg x4))) &&& (1 : Int64)) (0 : Int64)) = 0 then (F_Text_findOrder_67 k52 n x1 x3 (x4 + (1 : Int32)) o0) else (chk (inb (g32 o0 4 (Int32.toNatClampNeg x4)) 60) (if (lg_cmp ((g64 o0 8 (Int32.toNatClampNeg (g32 o0 4 (Int32.toNatClampNeg x4)))) &&& x1) (0 : Int64)) = 0 then (chk (inb (g32 o0 11 0) 24) (F_Text_findOrder_67 k52 n (x1 &&& ((lshl (1 : Int64) (g32 o0 4 (Int32.toNatClampNeg x4))) ^^^ (-1 : Int64))) x3 (x4 + (1 : Int32)) (s32 (s32 o0 10 (Int32.toNatClampNeg (g32 o0 11 0)) x4) 11 0 ((g32 o0 11 0) + (1 : Int32))))) else (F_Text_findOrder_67 k52 n x1 x3 (x4 + (1 : Int32)) o0))))))
def F_Text_findOrder_52  : Nat → Int64 → Int32 → Ob → Option (Ob)
  | 0, _, _, _ => none
  | n + 1, x1, x3, o0 =>
    if (24 : Int32) ≤ x3 then (some o0) else (if (lg_cmp x1 (0 : Int64)) = 0 then (some o0) else (F_Text_findOrder_67 (F_Text_findOrder_52 n) fuel x1 x3 (0 : Int32) o0))
def F_Text_findOrder_4  : Nat → Int64 → Int32 → Ob → Option (Ob)
  | 0, _, _, _ => none
  | n + 1, x1, x3, o0 =>
    if (g32 o0 3 0) ≤ x3 then (F_Text_findOrder_52 fuel x1 (0 : Int32) o0) else (bind1 (F_Text_isLimit x3 o0) (fun v3 => if (b2i v3) = 0 then (chk (inb x3 24) (bind1 (F_Text_isRing (g32 o0 4 (Int32.toNatClampNeg x3)) o0) (fun v7 => if (b2i v7) = 0 then (F_Text_findOrder_4 n (x1 ||| (lshl (1 : Int64) (g32 o0 4 (Int32.toNatClampNeg x3)))) (x3 + (1 : Int32)) o0) else (F_Text_findOrder_4 n x1 (x3 + (1 : Int32)) o0)))) else (F_Text_findOrder_4 n x1 (x3 + (1 : Int32)) o0)))
def F_Text_findOrder  (o0 : Ob) : Option (Ob) :=
  F_Text_findOrder_4 fuel (0 : Int64) (0 : Int32) o0
abbrev ws_Text_findOrder : List Cond := Cond.code y_Text_findOrder b_Text_findOrder 6 (none : Option Jvm.ClassFile.FieldType) :: wsAll
abbrev rm_Text_findOrder : Room := { frames := 2, cells := 0, slots := 0, locals := 43 }
set_option maxHeartbeats 4000000 in
set_option maxRecDepth 100000 in
theorem k_Text_findOrder_67 {p : Program} {l : Launch} {e : Env} {s : State} {m : MethodId} {args : Array Value} {below : List Frame} {meth : Method} {c : Code} {A : Nat → Prop} {ct dC : Nat → ClassId} {dI : Nat → Nat → Nat} {a0 : Nat → Nat} {r0_2 : Nat} {n0 : Ob}  {k52 : Int64 → Int32 → Ob → Option (Ob)} (C0 : cx wsAll vwCl nx p s m args meth c (dC, dI) (tyA ct) b_Text_findOrder 6 (none : Option Jvm.ClassFile.FieldType) R_Text A [adText a0]) (hk52 : ∀ (x1 : Int64) (x3 : Int32) (o0 : Ob) (H : Heap) (locs : List Loc) (ls : Array Slot), bw_P (dC, dI) vwCl [wText ct a0 r0_2 o0] H → va_S A s.heap H locs → lv_has ls 6 [(0, .ref (a0 0)), (1, .long x1), (3, .int x3)] → k52 x1 x3 o0 = some n0 → W p l e (headSpec ws_Text_findOrder rm_Text_findOrder).room s m args below meth c H locs 0 0 (MQ below (bw_Q (dC, dI) vwCl none [wText ct a0 r0_2 n0] A) args s 0 0 A) (F0 m 52 ls [])) : ∀ (n : Nat) (x1 : Int64) (x3 : Int32) (x4 : Int32) (o0 : Ob) (H : Heap) (locs : List Loc) (ls : Array Slot), bw_P (dC, dI) vwCl [wText ct a0 r0_2 o0] H → va_S A s.heap H locs → lv_has ls 6 [(0, .ref (a0 0)), (1, .long x1), (3, .int x3), (4, .int x4)] → F_Text_findOrder_67 k52 n x1 x3 x4 o0 = some n0 → W p l e (headSpec ws_Text_findOrder rm_Text_findOrder).room s m args below meth c H locs 0 0 (MQ below (bw_Q (dC, dI) vwCl none [wText ct a0 r0_2 n0] A) args s 0 0 A) (F0 m 67 ls []) := by
  obtain ⟨hx, hb, hr, hml, hown, hlocks, hts, hK, hN, hA, hnx⟩ := id C0
  intro n
  induction n with
  | zero =>
    intro x1 x3 x4 o0 H locs ls hP hS hl h
    cases h
  | succ n ih =>
    intro x1 x3 x4 o0 H locs ls hP hS hl h
    rw [F_Text_findOrder_67] at h
    refine lv_iload hx hb d_Text_findOrder_67 (lv_at hl 3 rfl) ?_
    refine lv_aload_n hx hb d_Text_findOrder_69 rfl (lv_at hl 0 rfl) ?_
    refine va_get (D := (dC, dI)) (ci := 2) (v := .int (g32 o0 3 0)) (C := R_Text) (T := T_Text) (N := 12) hx hb hts in_Text hown hK (hP 0 _ rfl) 0 rfl rfl 3 (by decide) (hts _ fl_Text_26) (fun _ h9 => h9) rfl d_Text_findOrder_70 ?_
    refine lv_icmp_ge (tgt := 154) hx hb d_Text_findOrder_73 (by decide) (fun c12 => ?_) (fun c12 => ?_)
    · have h := ite_t c12 h
      refine lv_iinc (v := (x3 + (1 : Int32))) (lv' := [(3, .int (x3 + (1 : Int32))), (0, .ref (a0 0)), (1, .long x1), (4, .int x4)]) hx hb d_Text_findOrder_154 hl (k := 2) rfl rfl (by decide) rfl (fun ls hl => ?_)
      refine lv_goto (tgt := 52) hx hb d_Text_findOrder_157 (by decide) ?_
      exact hk52 x1 (x3 + (1 : Int32)) o0 _ _ _ hP hS (lv_sub hl [1, 2, 0] rfl) h
    · have h := ite_f c12 h
      refine lv_aload_n hx hb d_Text_findOrder_76 rfl (lv_at hl 0 rfl) ?_
      refine va_get (D := (dC, dI)) (ci := 2) (v := .ref (a0 2)) (C := R_Text) (T := T_Text) (N := 12) hx hb hts in_Text hown hK (hP 0 _ rfl) 0 rfl rfl 4 (by decide) (hts _ fl_Text_29) (fun _ h9 => h9) rfl d_Text_findOrder_77 ?_
      refine lv_iload hx hb d_Text_findOrder_80 (lv_at hl 3 rfl) ?_
      obtain ⟨hi13, h⟩ := chk_some h
      refine va_iald (f := g32 o0 4) hx hb hK (hP 0 _ rfl) 2 0 rfl rfl (inb_in hi13) d_Text_findOrder_82 ?_
      refine lv_istore (lv' := [(5, .int (g32 o0 4 (Int32.toNatClampNeg x4))), (0, .ref (a0 0)), (1, .long x1), (3, .int x3), (4, .int x4)]) hx hb d_Text_findOrder_83 hl (by decide) rfl (fun ls hl => ?_)
      refine lv_iload hx hb d_Text_findOrder_85 (lv_at hl 0 rfl) ?_
      refine lv_iconst (v := -1) hx hb d_Text_findOrder_87 (by decide) ?_
      refine lv_icmp_eq (tgt := 148) hx hb d_Text_findOrder_88 (by decide) (fun c14 => ?_) (fun c14 => ?_)
      · have h := ite_t c14 h
        refine lv_iinc (v := (x4 + (1 : Int32))) (lv' := [(4, .int (x4 + (1 : Int32))), (5, .int (g32 o0 4 (Int32.toNatClampNeg x4))), (0, .ref (a0 0)), (1, .long x1), (3, .int x3)]) hx hb d_Text_findOrder_148 hl (k := 4) rfl rfl (by decide) rfl (fun ls hl => ?_)
        refine lv_goto (tgt := 67) hx hb d_Text_findOrder_151 (by decide) ?_
        exact ih x1 x3 (x4 + (1 : Int32)) o0 _ _ _ hP hS (lv_sub hl [2, 3, 4, 0] rfl) h
      · have h := ite_f c14 h
        refine lv_lload_n hx hb d_Text_findOrder_91 rfl (lv_at hl 2 rfl) ?_
        refine lv_iload hx hb d_Text_findOrder_92 (lv_at hl 0 rfl) ?_
        refine lv_lushr (v := (lushr x1 (g32 o0 4 (Int32.toNatClampNeg x4)))) hx hb d_Text_findOrder_94 rfl ?_
        refine lv_lconst (v := 1) hx hb d_Text_findOrder_95 (by decide) ?_
        refine lv_land hx hb d_Text_findOrder_96 ?_
        refine lv_lconst (v := 0) hx hb d_Text_findOrder_97 (by decide) ?_
        refine W.lcmp hx hb d_Text_findOrder_98 ?_
        refine lv_if_eq (tgt := 148) hx hb d_Text_findOrder_99 (by decide) (fun c15 => ?_) (fun c15 => ?_)
        · have h := ite_t c15 h
          refine lv_iinc (v := (x4 + (1 : Int32))) (lv' := [(4, .int (x4 + (1 : Int32))), (5, .int (g32 o0 4 (Int32.toNatClampNeg x4))), (0, .ref (a0 0)), (1, .long x1), (3, .int x3)]) hx hb d_Text_findOrder_148 hl (k := 4) rfl rfl (by decide) rfl (fun ls hl => ?_)
          refine lv_goto (tgt := 67) hx hb d_Text_findOrder_151 (by decide) ?_
          exact ih x1 x3 (x4 + (1 : Int32)) o0 _ _ _ hP hS (lv_sub hl [2, 3, 4, 0] rfl) h
        · have h := ite_f c15 h
          refine lv_aload_n hx hb d_Text_findOrder_102 rfl (lv_at hl 1 rfl) ?_
          refine va_get (D := (dC, dI)) (ci := 2) (v := .ref (a0 6)) (C := R_Text) (T := T_Text) (N := 12) hx hb hts in_Text hown hK (hP 0 _ rfl) 0 rfl rfl 8 (by decide) (hts _ fl_Text_42) (fun _ h9 => h9) rfl d_Text_findOrder_103 ?_
          refine lv_iload hx hb d_Text_findOrder_106 (lv_at hl 0 rfl) ?_
          obtain ⟨hi16, h⟩ := chk_some h
          refine va_lald (f := g64 o0 8) hx hb hK (hP 0 _ rfl) 6 1 rfl rfl (inb_in hi16) d_Text_findOrder_108 ?_
          refine lv_lload_n hx hb d_Text_findOrder_109 rfl (lv_at hl 2 rfl) ?_
          refine lv_land hx hb d_Text_findOrder_110 ?_
          refine lv_lconst (v := 0) hx hb d_Text_findOrder_111 (by decide) ?_
          refine W.lcmp hx hb d_Text_findOrder_112 ?_
          refine lv_if_ne (tgt := 148) hx hb d_Text_findOrder_113 (by decide) (fun c17 => ?_) (fun c17 => ?_)
          · have h := ite_f c17 h
            refine lv_iinc (v := (x4 + (1 : Int32))) (lv' := [(4, .int (x4 + (1 : Int32))), (5, .int (g32 o0 4 (Int32.toNatClampNeg x4))), (0, .ref (a0 0)), (1, .long x1), (3, .int x3)]) hx hb d_Text_findOrder_148 hl (k := 4) rfl rfl (by decide) rfl (fun ls hl => ?_)
            refine lv_goto (tgt := 67) hx hb d_Text_findOrder_151 (by decide) ?_
            exact ih x1 x3 (x4 + (1 : Int32)) o0 _ _ _ hP hS (lv_sub hl [2, 3, 4, 0] rfl) h
          · have h := ite_t c17 h
            refine lv_aload_n hx hb d_Text_findOrder_116 rfl (lv_at hl 1 rfl) ?_
            refine va_get (D := (dC, dI)) (ci := 2) (v := .ref (a0 8)) (C := R_Text) (T := T_Text) (N := 12) hx hb hts in_Text hown hK (hP 0 _ rfl) 0 rfl rfl 10 (by decide) (hts _ fl_Text_49) (fun _ h9 => h9) rfl d_Text_findOrder_117 ?_
            refine lv_aload_n hx hb d_Text_findOrder_120 rfl (lv_at hl 1 rfl) ?_
            refine va_get (D := (dC, dI)) (ci := 2) (v := .int (g32 o0 11 0)) (C := R_Text) (T := T_Text) (N := 12) hx hb hts in_Text hown hK (hP 0 _ rfl) 0 rfl rfl 11 (by decide) (hts _ fl_Text_52) (fun _ h9 => h9) rfl d_Text_findOrder_121 ?_
            refine lv_iload hx hb d_Text_findOrder_124 (lv_at hl 4 rfl) ?_
            obtain ⟨hi18, h⟩ := chk_some h
            refine st_Text_10 hx hb hK hP hN hS 0 rfl (inb_in hi18) d_Text_findOrder_126 (fun H locs hP hS => ?_)
            have hP : bw_P (dC, dI) vwCl [wText ct a0 r0_2 (s32 o0 10 (Int32.toNatClampNeg (g32 o0 11 0)) x4)] H := hP
            refine lv_aload_n hx hb d_Text_findOrder_127 rfl (lv_at hl 1 rfl) ?_
            refine lv_dup hx hb d_Text_findOrder_128 rfl ?_
            refine va_get (D := (dC, dI)) (ci := 2) (v := .int (g32 o0 11 0)) (C := R_Text) (T := T_Text) (N := 12) hx hb hts in_Text hown hK (hP 0 _ rfl) 0 rfl rfl 11 (by decide) (hts _ fl_Text_52) (fun _ h9 => h9) rfl d_Text_findOrder_129 ?_
            refine lv_iconst (v := 1) hx hb d_Text_findOrder_132 (by decide) ?_
            refine lv_iadd hx hb d_Text_findOrder_133 ?_
            refine pt_Text_11 hx hb hts hown hK hP hN hS 0 rfl (hts _ fl_Text_52) d_Text_findOrder_134 (fun H locs hP hS => ?_)
            have hP : bw_P (dC, dI) vwCl [wText ct a0 r0_2 (s32 (s32 o0 10 (Int32.toNatClampNeg (g32 o0 11 0)) x4) 11 0 ((g32 o0 11 0) + (1 : Int32)))] H := hP
            refine lv_lload_n hx hb d_Text_findOrder_137 rfl (lv_at hl 2 rfl) ?_
            refine lv_lconst (v := 1) hx hb d_Text_findOrder_138 (by decide) ?_
            refine lv_iload hx hb d_Text_findOrder_139 (lv_at hl 0 rfl) ?_
            refine lv_lshl (v := (lshl (1 : Int64) (g32 o0 4 (Int32.toNatClampNeg x4)))) hx hb d_Text_findOrder_141 rfl ?_
            refine lv_ldc2 (v := -1) hx hb hown (hts _ cn_Text_80) d_Text_findOrder_142 ?_
            refine lv_lxor hx hb d_Text_findOrder_145 ?_
            refine lv_land hx hb d_Text_findOrder_146 ?_
            refine lv_lstore_n (lv' := [(1, .long (x1 &&& ((lshl (1 : Int64) (g32 o0 4 (Int32.toNatClampNeg x4))) ^^^ (-1 : Int64)))), (5, .int (g32 o0 4 (Int32.toNatClampNeg x4))), (0, .ref (a0 0)), (3, .int x3), (4, .int x4)]) hx hb d_Text_findOrder_147 rfl hl (by decide) rfl (fun ls hl => ?_)
            refine lv_iinc (v := (x4 + (1 : Int32))) (lv' := [(4, .int (x4 + (1 : Int32))), (1, .long (x1 &&& ((lshl (1 : Int64) (g32 o0 4 (Int32.toNatClampNeg x4))) ^^^ (-1 : Int64)))), (5, .int (g32 o0 4 (Int32.toNatClampNeg x4))), (0, .ref (a0 0)), (3, .int x3)]) hx hb d_Text_findOrder_148 hl (k := 4) rfl rfl (by decide) rfl (fun ls hl => ?_)
            refine lv_goto (tgt := 67) hx hb d_Text_findOrder_151 (by decide) ?_
            exact ih (x1 &&& ((lshl (1 : Int64) (g32 o0 4 (Int32.toNatClampNeg x4))) ^^^ (-1 : Int64))) x3 (x4 + (1 : Int32)) (s32 (s32 o0 10 (Int32.toNatClampNeg (g32 o0 11 0)) x4) 11 0 ((g32 o0 11 0) + (1 : Int32))) _ _ _ hP hS (lv_sub hl [3, 1, 4, 0] rfl) h
set_option maxHeartbeats 4000000 in
set_option maxRecDepth 100000 in
theorem k_Text_findOrder_52 {p : Program} {l : Launch} {e : Env} {s : State} {m : MethodId} {args : Array Value} {below : List Frame} {meth : Method} {c : Code} {A : Nat → Prop} {ct dC : Nat → ClassId} {dI : Nat → Nat → Nat} {a0 : Nat → Nat} {r0_2 : Nat} {n0 : Ob}   (C0 : cx wsAll vwCl nx p s m args meth c (dC, dI) (tyA ct) b_Text_findOrder 6 (none : Option Jvm.ClassFile.FieldType) R_Text A [adText a0])  : ∀ (n : Nat) (x1 : Int64) (x3 : Int32) (o0 : Ob) (H : Heap) (locs : List Loc) (ls : Array Slot), bw_P (dC, dI) vwCl [wText ct a0 r0_2 o0] H → va_S A s.heap H locs → lv_has ls 6 [(0, .ref (a0 0)), (1, .long x1), (3, .int x3)] → F_Text_findOrder_52 n x1 x3 o0 = some n0 → W p l e (headSpec ws_Text_findOrder rm_Text_findOrder).room s m args below meth c H locs 0 0 (MQ below (bw_Q (dC, dI) vwCl none [wText ct a0 r0_2 n0] A) args s 0 0 A) (F0 m 52 ls []) := by
  obtain ⟨hx, hb, hr, hml, hown, hlocks, hts, hK, hN, hA, hnx⟩ := id C0
  intro n
  induction n with
  | zero =>
    intro x1 x3 o0 H locs ls hP hS hl h
    cases h
  | succ n ih =>
    intro x1 x3 o0 H locs ls hP hS hl h
    rw [F_Text_findOrder_52] at h
    refine lv_iload_n hx hb d_Text_findOrder_52 rfl (lv_at hl 2 rfl) ?_
    refine lv_bipush (v := 24) hx hb d_Text_findOrder_53 (by decide) ?_
    refine lv_icmp_ge (tgt := 160) hx hb d_Text_findOrder_55 (by decide) (fun c10 => ?_) (fun c10 => ?_)
    · have h := ite_t c10 h
      obtain rfl := res1 h
      exact W.vret hx hb hr (fun t ht hW => ⟨rfl, by rw [ht]; exact hP, hS.F ht⟩) hS.2.2 d_Text_findOrder_160
    · have h := ite_f c10 h
      refine lv_lload_n hx hb d_Text_findOrder_58 rfl (lv_at hl 1 rfl) ?_
      refine lv_lconst (v := 0) hx hb d_Text_findOrder_59 (by decide) ?_
      refine W.lcmp hx hb d_Text_findOrder_60 ?_
      refine lv_if_eq (tgt := 160) hx hb d_Text_findOrder_61 (by decide) (fun c11 => ?_) (fun c11 => ?_)
      · have h := ite_t c11 h
        obtain rfl := res1 h
        exact W.vret hx hb hr (fun t ht hW => ⟨rfl, by rw [ht]; exact hP, hS.F ht⟩) hS.2.2 d_Text_findOrder_160
      · have h := ite_f c11 h
        refine lv_iconst (v := 0) hx hb d_Text_findOrder_64 (by decide) ?_
        refine lv_istore (lv' := [(4, .int (0 : Int32)), (0, .ref (a0 0)), (1, .long x1), (3, .int x3)]) hx hb d_Text_findOrder_65 hl (by decide) rfl (fun ls hl => ?_)
        exact k_Text_findOrder_67 C0 ih fuel x1 x3 (0 : Int32) o0 _ _ _ hP hS (lv_sub hl [1, 2, 3, 0] rfl) h
set_option maxHeartbeats 4000000 in
set_option maxRecDepth 100000 in
theorem k_Text_findOrder_4 {p : Program} {l : Launch} {e : Env} {s : State} {m : MethodId} {args : Array Value} {below : List Frame} {meth : Method} {c : Code} {A : Nat → Prop} {ct dC : Nat → ClassId} {dI : Nat → Nat → Nat} {a0 : Nat → Nat} {r0_2 : Nat} {n0 : Ob}   (C0 : cx wsAll vwCl nx p s m args meth c (dC, dI) (tyA ct) b_Text_findOrder 6 (none : Option Jvm.ClassFile.FieldType) R_Text A [adText a0])  : ∀ (n : Nat) (x1 : Int64) (x3 : Int32) (o0 : Ob) (H : Heap) (locs : List Loc) (ls : Array Slot), bw_P (dC, dI) vwCl [wText ct a0 r0_2 o0] H → va_S A s.heap H locs → lv_has ls 6 [(0, .ref (a0 0)), (1, .long x1), (3, .int x3)] → F_Text_findOrder_4 n x1 x3 o0 = some n0 → W p l e (headSpec ws_Text_findOrder rm_Text_findOrder).room s m args below meth c H locs 0 0 (MQ below (bw_Q (dC, dI) vwCl none [wText ct a0 r0_2 n0] A) args s 0 0 A) (F0 m 4 ls []) := by
  obtain ⟨hx, hb, hr, hml, hown, hlocks, hts, hK, hN, hA, hnx⟩ := id C0
  intro n
  induction n with
  | zero =>
    intro x1 x3 o0 H locs ls hP hS hl h
    cases h
  | succ n ih =>
    intro x1 x3 o0 H locs ls hP hS hl h
    rw [F_Text_findOrder_4] at h
    refine lv_iload_n hx hb d_Text_findOrder_4 rfl (lv_at hl 2 rfl) ?_
    refine lv_aload_n hx hb d_Text_findOrder_5 rfl (lv_at hl 0 rfl) ?_
    refine va_get (D := (dC, dI)) (ci := 2) (v := .int (g32 o0 3 0)) (C := R_Text) (T := T_Text) (N := 12) hx hb hts in_Text hown hK (hP 0 _ rfl) 0 rfl rfl 3 (by decide) (hts _ fl_Text_26) (fun _ h9 => h9) rfl d_Text_findOrder_6 ?_
    refine lv_icmp_ge (tgt := 50) hx hb d_Text_findOrder_9 (by decide) (fun c1 => ?_) (fun c1 => ?_)
    · have h := ite_t c1 h
      refine lv_iconst (v := 0) hx hb d_Text_findOrder_50 (by decide) ?_
      refine lv_istore_n (lv' := [(3, .int (0 : Int32)), (0, .ref (a0 0)), (1, .long x1)]) hx hb d_Text_findOrder_51 rfl hl (by decide) rfl (fun ls hl => ?_)
      exact k_Text_findOrder_52 C0 fuel x1 (0 : Int32) o0 _ _ _ hP hS (lv_sub hl [1, 2, 0] rfl) h
    · have h := ite_f c1 h
      refine lv_aload_n hx hb d_Text_findOrder_12 rfl (lv_at hl 0 rfl) ?_
      refine lv_iload_n hx hb d_Text_findOrder_13 rfl (lv_at hl 2 rfl) ?_
      obtain ⟨v3, hG2, h⟩ := bind1_some h
      refine bw_callR (va_runV (As := [.int x3]) (rest := []) ⟨hx, hb, hml, hown, hts⟩ (c_Text_isLimit l ct dC dI a0 r0_2 _ x3 o0 v3 hG2) (cwV 1 hts g_Text_73 rfl rfl rfl (by decide +kernel) ⟨Nat.le_of_ble_eq_true rfl, Nat.le_of_ble_eq_true rfl⟩) ⟨bw_blind nx_call, va_recv hK (hP 0 _ rfl) (ci := 2) (q0 := 0) rfl rfl, fun U hU hW => ⟨rfl, by rw [hU], by rw [hU]; exact hP.sub [0] rfl, va_K.moved hW.alike hK, (hN.sub [0] (by decide) rfl).weaken (fun _ _ => trivial), nx_warm hW hnx⟩⟩ rfl rfl hl.1 rfl (Nat.le_of_ble_eq_true rfl) d_Text_findOrder_14 ⟨Nat.le_of_ble_eq_true rfl, Nat.le_of_ble_eq_true rfl⟩) ?_
      refine lv_if_ne (tgt := 44) hx hb d_Text_findOrder_17 (by decide) (fun c4 => ?_) (fun c4 => ?_)
      · have h := ite_f c4 h
        refine lv_iinc (v := (x3 + (1 : Int32))) (lv' := [(3, .int (x3 + (1 : Int32))), (0, .ref (a0 0)), (1, .long x1)]) hx hb d_Text_findOrder_44 hl (k := 2) rfl rfl (by decide) rfl (fun ls hl => ?_)
        refine lv_goto (tgt := 4) hx hb d_Text_findOrder_47 (by decide) ?_
        exact ih x1 (x3 + (1 : Int32)) o0 _ _ _ hP hS (lv_sub hl [1, 2, 0] rfl) h
      · have h := ite_t c4 h
        refine lv_aload_n hx hb d_Text_findOrder_20 rfl (lv_at hl 0 rfl) ?_
        refine lv_aload_n hx hb d_Text_findOrder_21 rfl (lv_at hl 0 rfl) ?_
        refine va_get (D := (dC, dI)) (ci := 2) (v := .ref (a0 2)) (C := R_Text) (T := T_Text) (N := 12) hx hb hts in_Text hown hK (hP 0 _ rfl) 0 rfl rfl 4 (by decide) (hts _ fl_Text_29) (fun _ h9 => h9) rfl d_Text_findOrder_22 ?_
        refine lv_iload_n hx hb d_Text_findOrder_25 rfl (lv_at hl 2 rfl) ?_
        obtain ⟨hi5, h⟩ := chk_some h
        refine va_iald (f := g32 o0 4) hx hb hK (hP 0 _ rfl) 2 0 rfl rfl (inb_in hi5) d_Text_findOrder_26 ?_
        obtain ⟨v7, hG6, h⟩ := bind1_some h
        refine bw_callR (va_runV (As := [.int (g32 o0 4 (Int32.toNatClampNeg x3))]) (rest := []) ⟨hx, hb, hml, hown, hts⟩ (c_Text_isRing l ct dC dI a0 r0_2 _ (g32 o0 4 (Int32.toNatClampNeg x3)) o0 v7 hG6) (cwV 1 hts g_Text_77 rfl rfl rfl (by decide +kernel) ⟨Nat.le_of_ble_eq_true rfl, Nat.le_of_ble_eq_true rfl⟩) ⟨bw_blind nx_call, va_recv hK (hP 0 _ rfl) (ci := 2) (q0 := 0) rfl rfl, fun U hU hW => ⟨rfl, by rw [hU], by rw [hU]; exact hP.sub [0] rfl, va_K.moved hW.alike hK, (hN.sub [0] (by decide) rfl).weaken (fun _ _ => trivial), nx_warm hW hnx⟩⟩ rfl rfl hl.1 rfl (Nat.le_of_ble_eq_true rfl) d_Text_findOrder_27 ⟨Nat.le_of_ble_eq_true rfl, Nat.le_of_ble_eq_true rfl⟩) ?_
        refine lv_if_ne (tgt := 44) hx hb d_Text_findOrder_30 (by decide) (fun c8 => ?_) (fun c8 => ?_)
        · have h := ite_f c8 h
          refine lv_iinc (v := (x3 + (1 : Int32))) (lv' := [(3, .int (x3 + (1 : Int32))), (0, .ref (a0 0)), (1, .long x1)]) hx hb d_Text_findOrder_44 hl (k := 2) rfl rfl (by decide) rfl (fun ls hl => ?_)
          refine lv_goto (tgt := 4) hx hb d_Text_findOrder_47 (by decide) ?_
          exact ih x1 (x3 + (1 : Int32)) o0 _ _ _ hP hS (lv_sub hl [1, 2, 0] rfl) h
        · have h := ite_t c8 h
          refine lv_lload_n hx hb d_Text_findOrder_33 rfl (lv_at hl 1 rfl) ?_
          refine lv_lconst (v := 1) hx hb d_Text_findOrder_34 (by decide) ?_
          refine lv_aload_n hx hb d_Text_findOrder_35 rfl (lv_at hl 0 rfl) ?_
          refine va_get (D := (dC, dI)) (ci := 2) (v := .ref (a0 2)) (C := R_Text) (T := T_Text) (N := 12) hx hb hts in_Text hown hK (hP 0 _ rfl) 0 rfl rfl 4 (by decide) (hts _ fl_Text_29) (fun _ h9 => h9) rfl d_Text_findOrder_36 ?_
          refine lv_iload_n hx hb d_Text_findOrder_39 rfl (lv_at hl 2 rfl) ?_
          refine va_iald (f := g32 o0 4) hx hb hK (hP 0 _ rfl) 2 0 rfl rfl (inb_in hi5) d_Text_findOrder_40 ?_
          refine lv_lshl (v := (lshl (1 : Int64) (g32 o0 4 (Int32.toNatClampNeg x3)))) hx hb d_Text_findOrder_41 rfl ?_
          refine lv_lor hx hb d_Text_findOrder_42 ?_
          refine lv_lstore_n (lv' := [(1, .long (x1 ||| (lshl (1 : Int64) (g32 o0 4 (Int32.toNatClampNeg x3))))), (0, .ref (a0 0)), (3, .int x3)]) hx hb d_Text_findOrder_43 rfl hl (by decide) rfl (fun ls hl => ?_)
          refine lv_iinc (v := (x3 + (1 : Int32))) (lv' := [(3, .int (x3 + (1 : Int32))), (1, .long (x1 ||| (lshl (1 : Int64) (g32 o0 4 (Int32.toNatClampNeg x3))))), (0, .ref (a0 0))]) hx hb d_Text_findOrder_44 hl (k := 2) rfl rfl (by decide) rfl (fun ls hl => ?_)
          refine lv_goto (tgt := 4) hx hb d_Text_findOrder_47 (by decide) ?_
          exact ih (x1 ||| (lshl (1 : Int64) (g32 o0 4 (Int32.toNatClampNeg x3)))) (x3 + (1 : Int32)) o0 _ _ _ hP hS (lv_sub hl [2, 1, 0] rfl) h
set_option maxHeartbeats 4000000 in
set_option maxRecDepth 100000 in
theorem c_Text_findOrder (l : Launch) (ct dC : Nat → ClassId) (dI : Nat → Nat → Nat) (a0 : Nat → Nat) (r0_2 : Nat) (sz : Nat)  (o0 : Ob) (n0 : Ob) (hF : F_Text_findOrder o0 = some n0) : Met l y_Text_findOrder ws_Text_findOrder rm_Text_findOrder (bw_Pc [.ref (a0 0)] (dC, dI) vwCl (tyA ct) [wText ct a0 r0_2 o0] sz nx) (bw_Q (dC, dI) vwCl none [wText ct a0 r0_2 n0] (bw_A [adText a0] sz)) 0 0 (bw_A [adText a0] sz) := by
  refine Met.ofW (cc := b_Text_findOrder) (maxL := 6) (ret := (none : Option Jvm.ClassFile.FieldType)) (by decide) rfl ?_
  intro p e s m args below meth c s₁ B hml hv
  obtain ⟨rfl, hsz, hP, hK, hN0, hnx⟩ := hv
  have hx := B.exec
  have hb := B.bytes
  have hr := B.returns
  have hts : ∀ w ∈ wsAll, w.before [.ref (a0 0)].toArray s = true := fun w h9 => atoms_spec (ws := ws_Text_findOrder) B.pre w (List.mem_cons_of_mem _ h9)
  have hown : s.vm.findClass R_Text = some m.cls := findClass_of_methodNamed B.named
  have hlocks := B.notSynchronized
  subst hsz
  have hN : bw_N (bw_A [adText a0] s.heap.size) [adText a0] := hN0.self s.heap.size
  generalize hAe : bw_A [adText a0] s.heap.size = A at hN ⊢
  have hA : ∀ q : Nat, s.heap.size ≤ q → A q := fun q h => by rw [← hAe]; exact Or.inr h
  have hS : va_S A s.heap s.heap [] := va_S.rf
  have hl := lv_entry ([.ref (a0 0)]) (n := 6) (Nat.le_of_ble_eq_true rfl)
  rw [lg_entry_eq]
  generalize (lg_sl ([.ref (a0 0)]) ++ List.replicate (6 - (lg_sl ([.ref (a0 0)])).length) Slot.unset).toArray = ls at hl ⊢
  have hl : lv_has ls 6 [(0, .ref (a0 0))] := hl
  have C0 : cx wsAll vwCl nx p s m [.ref (a0 0)].toArray meth c (dC, dI) (tyA ct) b_Text_findOrder 6 (none : Option Jvm.ClassFile.FieldType) R_Text A [adText a0] := ⟨hx, hb, hr, hml, hown, hlocks, hts, hK, hN, hA, hnx⟩
  have h := hF
  rw [F_Text_findOrder] at h
  refine lv_lconst (v := 0) hx hb d_Text_findOrder_0 (by decide) ?_
  refine lv_lstore_n (lv' := [(1, .long (0 : Int64)), (0, .ref (a0 0))]) hx hb d_Text_findOrder_1 rfl hl (by decide) rfl (fun ls hl => ?_)
  refine lv_iconst (v := 0) hx hb d_Text_findOrder_2 (by decide) ?_
  refine lv_istore_n (lv' := [(3, .int (0 : Int32)), (1, .long (0 : Int64)), (0, .ref (a0 0))]) hx hb d_Text_findOrder_3 rfl hl (by decide) rfl (fun ls hl => ?_)
  exact k_Text_findOrder_4 C0 fuel (0 : Int64) (0 : Int32) o0 _ _ _ hP hS (lv_sub hl [2, 1, 0] rfl) h
def F_Text_hangsOn (x1 : Int32) (x2 : Int32) (o0 : Ob) : Option (Bool) :=
  chk (inb x1 60) (if ((iushr (g32 o0 9 (Int32.toNatClampNeg x1)) x2) &&& (1 : Int32)) = 0 then (some false) else (some true))
abbrev ws_Text_hangsOn : List Cond := Cond.code y_Text_hangsOn b_Text_hangsOn 3 (some .boolean) :: wsAll
abbrev rm_Text_hangsOn : Room := { frames := 0, cells := 0, slots := 0, locals := 0 }
set_option maxHeartbeats 4000000 in
set_option maxRecDepth 100000 in
theorem c_Text_hangsOn (l : Launch) (ct dC : Nat → ClassId) (dI : Nat → Nat → Nat) (a0 : Nat → Nat) (r0_2 : Nat) (sz : Nat) (x1 : Int32) (x2 : Int32) (o0 : Ob) (r : Bool) (hF : F_Text_hangsOn x1 x2 o0 = some r) : Met l y_Text_hangsOn ws_Text_hangsOn rm_Text_hangsOn (bw_Pc [.ref (a0 0), .int x1, .int x2] (dC, dI) vwCl (tyA ct) [wText ct a0 r0_2 o0] sz nx) (bw_QR (some (.int (b2i r)))) 0 0 (fun _ => False) := by
  refine Met.ofW (cc := b_Text_hangsOn) (maxL := 3) (ret := (some .boolean)) (by decide) rfl ?_
  intro p e s m args below meth c s₁ B hml hv
  obtain ⟨rfl, hsz, hP, hK, hN0, hnx⟩ := hv
  have hx := B.exec
  have hb := B.bytes
  have hr := B.returns
  have hts : ∀ w ∈ wsAll, w.before [.ref (a0 0), .int x1, .int x2].toArray s = true := fun w h9 => atoms_spec (ws := ws_Text_hangsOn) B.pre w (List.mem_cons_of_mem _ h9)
  have hown : s.vm.findClass R_Text = some m.cls := findClass_of_methodNamed B.named
  have hlocks := B.notSynchronized
  subst hsz
  have hN : bw_N (fun _ => True) [adText a0] := hN0
  generalize hAe : (fun _ : Nat => True) = A at hN
  have hA : ∀ q : Nat, s.heap.size ≤ q → A q := fun q _ => by rw [← hAe]; trivial
  have hS : s.heap = s.heap ∧ ([] : List Loc) = [] := ⟨rfl, rfl⟩
  have hl := lv_entry ([.ref (a0 0), .int x1, .int x2]) (n := 3) (Nat.le_of_ble_eq_true rfl)
  rw [lg_entry_eq]
  generalize (lg_sl ([.ref (a0 0), .int x1, .int x2]) ++ List.replicate (3 - (lg_sl ([.ref (a0 0), .int x1, .int x2])).length) Slot.unset).toArray = ls at hl ⊢
  have hl : lv_has ls 3 [(0, .ref (a0 0)), (1, .int x1), (2, .int x2)] := hl
  have C0 : cx wsAll vwCl nx p s m [.ref (a0 0), .int x1, .int x2].toArray meth c (dC, dI) (tyA ct) b_Text_hangsOn 3 (some .boolean) R_Text A [adText a0] := ⟨hx, hb, hr, hml, hown, hlocks, hts, hK, hN, hA, hnx⟩
  have h := hF
  rw [F_Text_hangsOn] at h
  refine lv_aload_n hx hb d_Text_hangsOn_0 rfl (lv_at hl 0 rfl) ?_
  refine va_get (D := (dC, dI)) (ci := 2) (v := .ref (a0 7)) (C := R_Text) (T := T_Text) (N := 12) hx hb hts in_Text hown hK (hP 0 _ rfl) 0 rfl rfl 9 (by decide) (hts _ fl_Text_46) (fun _ h9 => h9) rfl d_Text_hangsOn_1 ?_
  refine lv_iload_n hx hb d_Text_hangsOn_4 rfl (lv_at hl 1 rfl) ?_
  obtain ⟨hi1, h⟩ := chk_some h
  refine va_iald (f := g32 o0 9) hx hb hK (hP 0 _ rfl) 7 0 rfl rfl (inb_in hi1) d_Text_hangsOn_5 ?_
  refine lv_iload_n hx hb d_Text_hangsOn_6 rfl (lv_at hl 2 rfl) ?_
  refine lv_iushr (v := (iushr (g32 o0 9 (Int32.toNatClampNeg x1)) x2)) hx hb d_Text_hangsOn_7 rfl ?_
  refine lv_iconst (v := 1) hx hb d_Text_hangsOn_8 (by decide) ?_
  refine lv_iand hx hb d_Text_hangsOn_9 ?_
  refine lv_if_eq (tgt := 17) hx hb d_Text_hangsOn_10 (by decide) (fun c2 => ?_) (fun c2 => ?_)
  · have h := ite_t c2 h
    refine lv_iconst (v := 0) hx hb d_Text_hangsOn_17 (by decide) ?_
    obtain rfl := res1 h
    exact W.zret hx hb hr rfl (fun t ht hW => ⟨rfl, ht.trans hS.1⟩) (bw_nil hS.2) d_Text_hangsOn_18
  · have h := ite_f c2 h
    refine lv_iconst (v := 1) hx hb d_Text_hangsOn_13 (by decide) ?_
    refine lv_goto (tgt := 18) hx hb d_Text_hangsOn_14 (by decide) ?_
    obtain rfl := res1 h
    exact W.zret hx hb hr rfl (fun t ht hW => ⟨rfl, ht.trans hS.1⟩) (bw_nil hS.2) d_Text_hangsOn_18
