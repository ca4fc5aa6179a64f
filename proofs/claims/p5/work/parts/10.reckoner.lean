/-! 10.reckoner -/
abbrev b_Reckoner_changeOption : ByteArray := prog_4_method_2_code
def y_Reckoner_changeOption : MethodName := ⟨R_Reckoner, "changeOption", "(IJJ)Z"⟩
abbrev b_Reckoner_push : ByteArray := prog_4_method_14_code
def y_Reckoner_push : MethodName := ⟨R_Reckoner, "push", "(JJ)V"⟩
abbrev b_Reckoner_settle : ByteArray := prog_4_method_13_code
def y_Reckoner_settle : MethodName := ⟨R_Reckoner, "settle", "(JJ)V"⟩
abbrev b_Reckoner_pushCell : ByteArray := prog_4_method_10_code
def y_Reckoner_pushCell : MethodName := ⟨R_Reckoner, "pushCell", "(ILPartFormulas$Cells;)V"⟩
abbrev b_Reckoner_negate : ByteArray := prog_4_method_11_code
def y_Reckoner_negate : MethodName := ⟨R_Reckoner, "negate", "()V"⟩
abbrev b_Reckoner_join : ByteArray := prog_4_method_12_code
def y_Reckoner_join : MethodName := ⟨R_Reckoner, "join", "(I)V"⟩
abbrev b_Reckoner_reckon : ByteArray := prog_4_method_9_code
def y_Reckoner_reckon : MethodName := ⟨R_Reckoner, "reckon", "(LPartFormulas$Steps;ILPartFormulas$Cells;)Z"⟩
abbrev b_Reckoner_judge : ByteArray := prog_4_method_8_code
def y_Reckoner_judge : MethodName := ⟨R_Reckoner, "judge", "(LPartFormulas$Steps;ILPartFormulas$Cells;)I"⟩
abbrev b_Reckoner_workOut : ByteArray := prog_4_method_5_code
def y_Reckoner_workOut : MethodName := ⟨R_Reckoner, "workOut", "(LPartFormulas$Text;ILPartFormulas$Cells;)V"⟩
abbrev b_Reckoner_workOutHanging : ByteArray := prog_4_method_4_code
def y_Reckoner_workOutHanging : MethodName := ⟨R_Reckoner, "workOutHanging", "(LPartFormulas$Text;ILPartFormulas$Cells;)I"⟩
abbrev b_Reckoner_workOutAll : ByteArray := prog_4_method_3_code
def y_Reckoner_workOutAll : MethodName := ⟨R_Reckoner, "workOutAll", "(LPartFormulas$Text;LPartFormulas$Cells;)V"⟩
abbrev b_Reckoner_whyBroken : ByteArray := prog_4_method_7_code
def y_Reckoner_whyBroken : MethodName := ⟨R_Reckoner, "whyBroken", "(LPartFormulas$Text;ILPartFormulas$Cells;)I"⟩
abbrev b_Reckoner_isAnyBroken : ByteArray := prog_4_method_6_code
def y_Reckoner_isAnyBroken : MethodName := ⟨R_Reckoner, "isAnyBroken", "(LPartFormulas$Text;LPartFormulas$Cells;)Z"⟩
theorem cd_PF_commonDivisor : Cond.code ⟨"PartFormulas", "commonDivisor", "(JJ)J"⟩ prog_1_method_25_code 11 (some .long) ∈ wsAll := wa_of 728 (by decide +kernel) (by decide +kernel)
theorem ini_PF : Cond.initialized "PartFormulas" ∈ wsAll := wa_of 74 (by decide +kernel) (by decide +kernel)
theorem st_PF_commonDivisor : Cond.static ⟨"PartFormulas", "commonDivisor", "(JJ)J"⟩ ∈ wsAll := wa_of 727 (by decide +kernel) (by decide +kernel)
theorem fl_Reckoner_9 : Cond.fieldLink "PartFormulas$Reckoner" 9 "PartFormulas$Reckoner" "optionAbove" "[J" ∈ wsAll := wa_of 254 (by decide +kernel) (by decide +kernel)
theorem fl_Reckoner_15 : Cond.fieldLink "PartFormulas$Reckoner" 15 "PartFormulas$Reckoner" "optionBelow" "[J" ∈ wsAll := wa_of 256 (by decide +kernel) (by decide +kernel)
theorem fl_Reckoner_24 : Cond.fieldLink "PartFormulas$Reckoner" 24 "PartFormulas$Reckoner" "height" "I" ∈ wsAll := wa_of 260 (by decide +kernel) (by decide +kernel)
theorem fl_Reckoner_18 : Cond.fieldLink "PartFormulas$Reckoner" 18 "PartFormulas$Reckoner" "above" "[J" ∈ wsAll := wa_of 258 (by decide +kernel) (by decide +kernel)
theorem fl_Reckoner_21 : Cond.fieldLink "PartFormulas$Reckoner" 21 "PartFormulas$Reckoner" "below" "[J" ∈ wsAll := wa_of 259 (by decide +kernel) (by decide +kernel)
theorem cn_Reckoner_147 : Cond.constantLong "PartFormulas$Reckoner" 147 1000000000 ∈ wsAll := wa_of 753 (by decide +kernel) (by decide +kernel)
theorem fl_Reckoner_28 : Cond.fieldLink "PartFormulas$Reckoner" 28 "PartFormulas$Reckoner" "reason" "I" ∈ wsAll := wa_of 261 (by decide +kernel) (by decide +kernel)
theorem cn_Reckoner_149 : Cond.constantLong "PartFormulas$Reckoner" 149 (-1000000000) ∈ wsAll := wa_of 754 (by decide +kernel) (by decide +kernel)
theorem cd_Reckoner_push : Cond.code ⟨"PartFormulas$Reckoner", "push", "(JJ)V"⟩ prog_4_method_14_code 5 (none : Option Jvm.ClassFile.FieldType) ∈ wsAll := wa_of 758 (by decide +kernel) (by decide +kernel)
theorem ml_Reckoner_128 : Cond.methodLink "PartFormulas$Reckoner" 128 ⟨"PartFormulas$Reckoner", "push", "(JJ)V"⟩ ∈ wsAll := wa_of 755 (by decide +kernel) (by decide +kernel)
theorem im_Reckoner_push : Cond.instanceMethod ⟨"PartFormulas$Reckoner", "push", "(JJ)V"⟩ ∈ wsAll := wa_of 757 (by decide +kernel) (by decide +kernel)
theorem se_Reckoner_push : Cond.selects "PartFormulas$Reckoner" ⟨"PartFormulas$Reckoner", "push", "(JJ)V"⟩ ⟨"PartFormulas$Reckoner", "push", "(JJ)V"⟩ ∈ wsAll := wa_of 26 (by decide +kernel) (by decide +kernel)
theorem ini_Reckoner : Cond.initialized "PartFormulas$Reckoner" ∈ wsAll := wa_of 78 (by decide +kernel) (by decide +kernel)
theorem fl_Reckoner_142 : Cond.fieldLink "PartFormulas$Reckoner" 142 "PartFormulas$Cells" "state" "[I" ∈ wsAll := wa_of 283 (by decide +kernel) (by decide +kernel)
theorem fl_Reckoner_145 : Cond.fieldLink "PartFormulas$Reckoner" 145 "PartFormulas$Cells" "above" "[J" ∈ wsAll := wa_of 286 (by decide +kernel) (by decide +kernel)
theorem fl_Reckoner_146 : Cond.fieldLink "PartFormulas$Reckoner" 146 "PartFormulas$Cells" "below" "[J" ∈ wsAll := wa_of 289 (by decide +kernel) (by decide +kernel)
theorem cd_Reckoner_settle : Cond.code ⟨"PartFormulas$Reckoner", "settle", "(JJ)V"⟩ prog_4_method_13_code 11 (none : Option Jvm.ClassFile.FieldType) ∈ wsAll := wa_of 752 (by decide +kernel) (by decide +kernel)
theorem ml_Reckoner_124 : Cond.methodLink "PartFormulas$Reckoner" 124 ⟨"PartFormulas$Reckoner", "settle", "(JJ)V"⟩ ∈ wsAll := wa_of 749 (by decide +kernel) (by decide +kernel)
theorem im_Reckoner_settle : Cond.instanceMethod ⟨"PartFormulas$Reckoner", "settle", "(JJ)V"⟩ ∈ wsAll := wa_of 751 (by decide +kernel) (by decide +kernel)
theorem se_Reckoner_settle : Cond.selects "PartFormulas$Reckoner" ⟨"PartFormulas$Reckoner", "settle", "(JJ)V"⟩ ⟨"PartFormulas$Reckoner", "settle", "(JJ)V"⟩ ∈ wsAll := wa_of 25 (by decide +kernel) (by decide +kernel)
theorem fl_Reckoner_109 : Cond.fieldLink "PartFormulas$Reckoner" 109 "PartFormulas$Steps" "expressions" "I" ∈ wsAll := wa_of 134 (by decide +kernel) (by decide +kernel)
theorem fl_Reckoner_112 : Cond.fieldLink "PartFormulas$Reckoner" 112 "PartFormulas$Steps" "start" "[I" ∈ wsAll := wa_of 129 (by decide +kernel) (by decide +kernel)
theorem fl_Reckoner_115 : Cond.fieldLink "PartFormulas$Reckoner" 115 "PartFormulas$Steps" "first" "[I" ∈ wsAll := wa_of 124 (by decide +kernel) (by decide +kernel)
theorem fl_Reckoner_118 : Cond.fieldLink "PartFormulas$Reckoner" 118 "PartFormulas$Steps" "kind" "[I" ∈ wsAll := wa_of 122 (by decide +kernel) (by decide +kernel)
theorem fl_Reckoner_121 : Cond.fieldLink "PartFormulas$Reckoner" 121 "PartFormulas$Steps" "second" "[I" ∈ wsAll := wa_of 126 (by decide +kernel) (by decide +kernel)
theorem cd_Reckoner_pushCell : Cond.code ⟨"PartFormulas$Reckoner", "pushCell", "(ILPartFormulas$Cells;)V"⟩ prog_4_method_10_code 3 (none : Option Jvm.ClassFile.FieldType) ∈ wsAll := wa_of 762 (by decide +kernel) (by decide +kernel)
theorem ml_Reckoner_131 : Cond.methodLink "PartFormulas$Reckoner" 131 ⟨"PartFormulas$Reckoner", "pushCell", "(ILPartFormulas$Cells;)V"⟩ ∈ wsAll := wa_of 759 (by decide +kernel) (by decide +kernel)
theorem im_Reckoner_pushCell : Cond.instanceMethod ⟨"PartFormulas$Reckoner", "pushCell", "(ILPartFormulas$Cells;)V"⟩ ∈ wsAll := wa_of 761 (by decide +kernel) (by decide +kernel)
theorem se_Reckoner_pushCell : Cond.selects "PartFormulas$Reckoner" ⟨"PartFormulas$Reckoner", "pushCell", "(ILPartFormulas$Cells;)V"⟩ ⟨"PartFormulas$Reckoner", "pushCell", "(ILPartFormulas$Cells;)V"⟩ ∈ wsAll := wa_of 27 (by decide +kernel) (by decide +kernel)
theorem cd_Reckoner_negate : Cond.code ⟨"PartFormulas$Reckoner", "negate", "()V"⟩ prog_4_method_11_code 1 (none : Option Jvm.ClassFile.FieldType) ∈ wsAll := wa_of 766 (by decide +kernel) (by decide +kernel)
theorem ml_Reckoner_135 : Cond.methodLink "PartFormulas$Reckoner" 135 ⟨"PartFormulas$Reckoner", "negate", "()V"⟩ ∈ wsAll := wa_of 763 (by decide +kernel) (by decide +kernel)
theorem im_Reckoner_negate : Cond.instanceMethod ⟨"PartFormulas$Reckoner", "negate", "()V"⟩ ∈ wsAll := wa_of 765 (by decide +kernel) (by decide +kernel)
theorem se_Reckoner_negate : Cond.selects "PartFormulas$Reckoner" ⟨"PartFormulas$Reckoner", "negate", "()V"⟩ ⟨"PartFormulas$Reckoner", "negate", "()V"⟩ ∈ wsAll := wa_of 28 (by decide +kernel) (by decide +kernel)
theorem cd_Reckoner_join : Cond.code ⟨"PartFormulas$Reckoner", "join", "(I)V"⟩ prog_4_method_12_code 10 (none : Option Jvm.ClassFile.FieldType) ∈ wsAll := wa_of 770 (by decide +kernel) (by decide +kernel)
theorem ml_Reckoner_138 : Cond.methodLink "PartFormulas$Reckoner" 138 ⟨"PartFormulas$Reckoner", "join", "(I)V"⟩ ∈ wsAll := wa_of 767 (by decide +kernel) (by decide +kernel)
theorem im_Reckoner_join : Cond.instanceMethod ⟨"PartFormulas$Reckoner", "join", "(I)V"⟩ ∈ wsAll := wa_of 769 (by decide +kernel) (by decide +kernel)
theorem se_Reckoner_join : Cond.selects "PartFormulas$Reckoner" ⟨"PartFormulas$Reckoner", "join", "(I)V"⟩ ⟨"PartFormulas$Reckoner", "join", "(I)V"⟩ ∈ wsAll := wa_of 29 (by decide +kernel) (by decide +kernel)
theorem cd_Reckoner_reckon : Cond.code ⟨"PartFormulas$Reckoner", "reckon", "(LPartFormulas$Steps;ILPartFormulas$Cells;)Z"⟩ prog_4_method_9_code 6 (some .boolean) ∈ wsAll := wa_of 748 (by decide +kernel) (by decide +kernel)
theorem ml_Reckoner_79 : Cond.methodLink "PartFormulas$Reckoner" 79 ⟨"PartFormulas$Reckoner", "reckon", "(LPartFormulas$Steps;ILPartFormulas$Cells;)Z"⟩ ∈ wsAll := wa_of 745 (by decide +kernel) (by decide +kernel)
theorem im_Reckoner_reckon : Cond.instanceMethod ⟨"PartFormulas$Reckoner", "reckon", "(LPartFormulas$Steps;ILPartFormulas$Cells;)Z"⟩ ∈ wsAll := wa_of 747 (by decide +kernel) (by decide +kernel)
theorem se_Reckoner_reckon : Cond.selects "PartFormulas$Reckoner" ⟨"PartFormulas$Reckoner", "reckon", "(LPartFormulas$Steps;ILPartFormulas$Cells;)Z"⟩ ⟨"PartFormulas$Reckoner", "reckon", "(LPartFormulas$Steps;ILPartFormulas$Cells;)Z"⟩ ∈ wsAll := wa_of 24 (by decide +kernel) (by decide +kernel)
theorem cd_JLong_compare : Cond.code ⟨"java/lang/Long", "compare", "(JJ)I"⟩ prog_14_method_42_code 4 (some .int) ∈ wsAll := wa_of 773 (by decide +kernel) (by decide +kernel)
theorem ml_Reckoner_97 : Cond.methodLink "PartFormulas$Reckoner" 97 ⟨"java/lang/Long", "compare", "(JJ)I"⟩ ∈ wsAll := wa_of 771 (by decide +kernel) (by decide +kernel)
theorem st_JLong_compare : Cond.static ⟨"java/lang/Long", "compare", "(JJ)I"⟩ ∈ wsAll := wa_of 772 (by decide +kernel) (by decide +kernel)
theorem ini_JLong : Cond.initialized "java/lang/Long" ∈ wsAll := wa_of 93 (by decide +kernel) (by decide +kernel)
theorem fl_Reckoner_103 : Cond.fieldLink "PartFormulas$Reckoner" 103 "PartFormulas$Steps" "signBehind" "[C" ∈ wsAll := wa_of 131 (by decide +kernel) (by decide +kernel)
theorem fl_Reckoner_58 : Cond.fieldLink "PartFormulas$Reckoner" 58 "PartFormulas$Text" "cellOf" "[I" ∈ wsAll := wa_of 167 (by decide +kernel) (by decide +kernel)
theorem fl_Reckoner_65 : Cond.fieldLink "PartFormulas$Reckoner" 65 "PartFormulas$Text" "firstExpression" "[I" ∈ wsAll := wa_of 170 (by decide +kernel) (by decide +kernel)
theorem fl_Reckoner_68 : Cond.fieldLink "PartFormulas$Reckoner" 68 "PartFormulas$Text" "conditions" "[I" ∈ wsAll := wa_of 172 (by decide +kernel) (by decide +kernel)
theorem fl_Reckoner_71 : Cond.fieldLink "PartFormulas$Reckoner" 71 "PartFormulas$Text" "steps" "LPartFormulas$Steps;" ∈ wsAll := wa_of 160 (by decide +kernel) (by decide +kernel)
theorem cd_Reckoner_judge : Cond.code ⟨"PartFormulas$Reckoner", "judge", "(LPartFormulas$Steps;ILPartFormulas$Cells;)I"⟩ prog_4_method_8_code 11 (some .int) ∈ wsAll := wa_of 744 (by decide +kernel) (by decide +kernel)
theorem ml_Reckoner_75 : Cond.methodLink "PartFormulas$Reckoner" 75 ⟨"PartFormulas$Reckoner", "judge", "(LPartFormulas$Steps;ILPartFormulas$Cells;)I"⟩ ∈ wsAll := wa_of 741 (by decide +kernel) (by decide +kernel)
theorem im_Reckoner_judge : Cond.instanceMethod ⟨"PartFormulas$Reckoner", "judge", "(LPartFormulas$Steps;ILPartFormulas$Cells;)I"⟩ ∈ wsAll := wa_of 743 (by decide +kernel) (by decide +kernel)
theorem se_Reckoner_judge : Cond.selects "PartFormulas$Reckoner" ⟨"PartFormulas$Reckoner", "judge", "(LPartFormulas$Steps;ILPartFormulas$Cells;)I"⟩ ⟨"PartFormulas$Reckoner", "judge", "(LPartFormulas$Steps;ILPartFormulas$Cells;)I"⟩ ∈ wsAll := wa_of 23 (by decide +kernel) (by decide +kernel)
theorem cd_Cells_takeReason : Cond.code ⟨"PartFormulas$Cells", "takeReason", "(II)V"⟩ prog_2_method_3_code 3 (none : Option Jvm.ClassFile.FieldType) ∈ wsAll := wa_of 777 (by decide +kernel) (by decide +kernel)
theorem ml_Reckoner_41 : Cond.methodLink "PartFormulas$Reckoner" 41 ⟨"PartFormulas$Cells", "takeReason", "(II)V"⟩ ∈ wsAll := wa_of 774 (by decide +kernel) (by decide +kernel)
theorem im_Cells_takeReason : Cond.instanceMethod ⟨"PartFormulas$Cells", "takeReason", "(II)V"⟩ ∈ wsAll := wa_of 775 (by decide +kernel) (by decide +kernel)
theorem se_Cells_takeReason : Cond.selects "PartFormulas$Cells" ⟨"PartFormulas$Cells", "takeReason", "(II)V"⟩ ⟨"PartFormulas$Cells", "takeReason", "(II)V"⟩ ∈ wsAll := wa_of 776 (by decide +kernel) (by decide +kernel)
theorem ini_Cells : Cond.initialized "PartFormulas$Cells" ∈ wsAll := wa_of 79 (by decide +kernel) (by decide +kernel)
theorem cd_Cells_takeValue : Cond.code ⟨"PartFormulas$Cells", "takeValue", "(IJJI)V"⟩ prog_2_method_2_code 7 (none : Option Jvm.ClassFile.FieldType) ∈ wsAll := wa_of 781 (by decide +kernel) (by decide +kernel)
theorem ml_Reckoner_83 : Cond.methodLink "PartFormulas$Reckoner" 83 ⟨"PartFormulas$Cells", "takeValue", "(IJJI)V"⟩ ∈ wsAll := wa_of 778 (by decide +kernel) (by decide +kernel)
theorem im_Cells_takeValue : Cond.instanceMethod ⟨"PartFormulas$Cells", "takeValue", "(IJJI)V"⟩ ∈ wsAll := wa_of 779 (by decide +kernel) (by decide +kernel)
theorem se_Cells_takeValue : Cond.selects "PartFormulas$Cells" ⟨"PartFormulas$Cells", "takeValue", "(IJJI)V"⟩ ⟨"PartFormulas$Cells", "takeValue", "(IJJI)V"⟩ ∈ wsAll := wa_of 780 (by decide +kernel) (by decide +kernel)
theorem fl_Reckoner_47 : Cond.fieldLink "PartFormulas$Reckoner" 47 "PartFormulas$Text" "orderLength" "I" ∈ wsAll := wa_of 181 (by decide +kernel) (by decide +kernel)
theorem fl_Reckoner_50 : Cond.fieldLink "PartFormulas$Reckoner" 50 "PartFormulas$Text" "order" "[I" ∈ wsAll := wa_of 179 (by decide +kernel) (by decide +kernel)
theorem cd_Text_hangsOn : Cond.code ⟨"PartFormulas$Text", "hangsOn", "(II)Z"⟩ prog_6_method_11_code 3 (some .boolean) ∈ wsAll := wa_of 736 (by decide +kernel) (by decide +kernel)
theorem ml_Reckoner_61 : Cond.methodLink "PartFormulas$Reckoner" 61 ⟨"PartFormulas$Text", "hangsOn", "(II)Z"⟩ ∈ wsAll := wa_of 733 (by decide +kernel) (by decide +kernel)
theorem im_Text_hangsOn : Cond.instanceMethod ⟨"PartFormulas$Text", "hangsOn", "(II)Z"⟩ ∈ wsAll := wa_of 734 (by decide +kernel) (by decide +kernel)
theorem se_Text_hangsOn : Cond.selects "PartFormulas$Text" ⟨"PartFormulas$Text", "hangsOn", "(II)Z"⟩ ⟨"PartFormulas$Text", "hangsOn", "(II)Z"⟩ ∈ wsAll := wa_of 735 (by decide +kernel) (by decide +kernel)
theorem cd_Reckoner_workOut : Cond.code ⟨"PartFormulas$Reckoner", "workOut", "(LPartFormulas$Text;ILPartFormulas$Cells;)V"⟩ prog_4_method_5_code 8 (none : Option Jvm.ClassFile.FieldType) ∈ wsAll := wa_of 740 (by decide +kernel) (by decide +kernel)
theorem ml_Reckoner_54 : Cond.methodLink "PartFormulas$Reckoner" 54 ⟨"PartFormulas$Reckoner", "workOut", "(LPartFormulas$Text;ILPartFormulas$Cells;)V"⟩ ∈ wsAll := wa_of 737 (by decide +kernel) (by decide +kernel)
theorem im_Reckoner_workOut : Cond.instanceMethod ⟨"PartFormulas$Reckoner", "workOut", "(LPartFormulas$Text;ILPartFormulas$Cells;)V"⟩ ∈ wsAll := wa_of 739 (by decide +kernel) (by decide +kernel)
theorem se_Reckoner_workOut : Cond.selects "PartFormulas$Reckoner" ⟨"PartFormulas$Reckoner", "workOut", "(LPartFormulas$Text;ILPartFormulas$Cells;)V"⟩ ⟨"PartFormulas$Reckoner", "workOut", "(LPartFormulas$Text;ILPartFormulas$Cells;)V"⟩ ∈ wsAll := wa_of 22 (by decide +kernel) (by decide +kernel)
theorem ml_Reckoner_35 : Cond.methodLink "PartFormulas$Reckoner" 35 ⟨"PartFormulas$Text", "isRing", "(I)Z"⟩ ∈ wsAll := wa_of 793 (by decide +kernel) (by decide +kernel)
theorem ml_Reckoner_94 : Cond.methodLink "PartFormulas$Reckoner" 94 ⟨"PartFormulas$Text", "isLimit", "(I)Z"⟩ ∈ wsAll := wa_of 862 (by decide +kernel) (by decide +kernel)
theorem fl_Reckoner_87 : Cond.fieldLink "PartFormulas$Reckoner" 87 "PartFormulas$Text" "statements" "I" ∈ wsAll := wa_of 164 (by decide +kernel) (by decide +kernel)
theorem cd_Reckoner_whyBroken : Cond.code ⟨"PartFormulas$Reckoner", "whyBroken", "(LPartFormulas$Text;ILPartFormulas$Cells;)I"⟩ prog_4_method_7_code 4 (some .int) ∈ wsAll := wa_of 861 (by decide +kernel) (by decide +kernel)
theorem ml_Reckoner_90 : Cond.methodLink "PartFormulas$Reckoner" 90 ⟨"PartFormulas$Reckoner", "whyBroken", "(LPartFormulas$Text;ILPartFormulas$Cells;)I"⟩ ∈ wsAll := wa_of 882 (by decide +kernel) (by decide +kernel)
theorem im_Reckoner_whyBroken : Cond.instanceMethod ⟨"PartFormulas$Reckoner", "whyBroken", "(LPartFormulas$Text;ILPartFormulas$Cells;)I"⟩ ∈ wsAll := wa_of 859 (by decide +kernel) (by decide +kernel)
theorem se_Reckoner_whyBroken : Cond.selects "PartFormulas$Reckoner" ⟨"PartFormulas$Reckoner", "whyBroken", "(LPartFormulas$Text;ILPartFormulas$Cells;)I"⟩ ⟨"PartFormulas$Reckoner", "whyBroken", "(LPartFormulas$Text;ILPartFormulas$Cells;)I"⟩ ∈ wsAll := wa_of 860 (by decide +kernel) (by decide +kernel)
theorem d_Reckoner_changeOption_0 : decode b_Reckoner_changeOption 0 = .ok (.lload_n 2, 1) := by decide +kernel
theorem d_Reckoner_changeOption_1 : decode b_Reckoner_changeOption 1 = .ok (.lload 4, 2) := by decide +kernel
theorem d_Reckoner_changeOption_3 : decode b_Reckoner_changeOption 3 = .ok (.invokestatic 31, 3) := by decide +kernel
theorem d_Reckoner_changeOption_6 : decode b_Reckoner_changeOption 6 = .ok (.lstore 6, 2) := by decide +kernel
theorem d_Reckoner_changeOption_8 : decode b_Reckoner_changeOption 8 = .ok (.lload 6, 2) := by decide +kernel
theorem d_Reckoner_changeOption_10 : decode b_Reckoner_changeOption 10 = .ok (.lconst 1, 1) := by decide +kernel
theorem d_Reckoner_changeOption_11 : decode b_Reckoner_changeOption 11 = .ok (.lcmp, 1) := by decide +kernel
theorem d_Reckoner_changeOption_12 : decode b_Reckoner_changeOption 12 = .ok (.ifCond .ge 5, 3) := by decide +kernel
theorem d_Reckoner_changeOption_15 : decode b_Reckoner_changeOption 15 = .ok (.iconst 0, 1) := by decide +kernel
theorem d_Reckoner_changeOption_16 : decode b_Reckoner_changeOption 16 = .ok (.ireturn, 1) := by decide +kernel
theorem d_Reckoner_changeOption_17 : decode b_Reckoner_changeOption 17 = .ok (.lload_n 2, 1) := by decide +kernel
theorem d_Reckoner_changeOption_18 : decode b_Reckoner_changeOption 18 = .ok (.lload 6, 2) := by decide +kernel
theorem d_Reckoner_changeOption_20 : decode b_Reckoner_changeOption 20 = .ok (.ldiv, 1) := by decide +kernel
theorem d_Reckoner_changeOption_21 : decode b_Reckoner_changeOption 21 = .ok (.lstore 8, 2) := by decide +kernel
theorem d_Reckoner_changeOption_23 : decode b_Reckoner_changeOption 23 = .ok (.lload 4, 2) := by decide +kernel
theorem d_Reckoner_changeOption_25 : decode b_Reckoner_changeOption 25 = .ok (.lload 6, 2) := by decide +kernel
theorem d_Reckoner_changeOption_27 : decode b_Reckoner_changeOption 27 = .ok (.ldiv, 1) := by decide +kernel
theorem d_Reckoner_changeOption_28 : decode b_Reckoner_changeOption 28 = .ok (.lstore 10, 2) := by decide +kernel
theorem d_Reckoner_changeOption_30 : decode b_Reckoner_changeOption 30 = .ok (.aload_n 0, 1) := by decide +kernel
theorem d_Reckoner_changeOption_31 : decode b_Reckoner_changeOption 31 = .ok (.getfield 9, 3) := by decide +kernel
theorem d_Reckoner_changeOption_34 : decode b_Reckoner_changeOption 34 = .ok (.iload_n 1, 1) := by decide +kernel
theorem d_Reckoner_changeOption_35 : decode b_Reckoner_changeOption 35 = .ok (.laload, 1) := by decide +kernel
theorem d_Reckoner_changeOption_36 : decode b_Reckoner_changeOption 36 = .ok (.lload 8, 2) := by decide +kernel
theorem d_Reckoner_changeOption_38 : decode b_Reckoner_changeOption 38 = .ok (.lcmp, 1) := by decide +kernel
theorem d_Reckoner_changeOption_39 : decode b_Reckoner_changeOption 39 = .ok (.ifCond .ne 15, 3) := by decide +kernel
theorem d_Reckoner_changeOption_42 : decode b_Reckoner_changeOption 42 = .ok (.aload_n 0, 1) := by decide +kernel
theorem d_Reckoner_changeOption_43 : decode b_Reckoner_changeOption 43 = .ok (.getfield 15, 3) := by decide +kernel
theorem d_Reckoner_changeOption_46 : decode b_Reckoner_changeOption 46 = .ok (.iload_n 1, 1) := by decide +kernel
theorem d_Reckoner_changeOption_47 : decode b_Reckoner_changeOption 47 = .ok (.laload, 1) := by decide +kernel
theorem d_Reckoner_changeOption_48 : decode b_Reckoner_changeOption 48 = .ok (.lload 10, 2) := by decide +kernel
theorem d_Reckoner_changeOption_50 : decode b_Reckoner_changeOption 50 = .ok (.lcmp, 1) := by decide +kernel
theorem d_Reckoner_changeOption_51 : decode b_Reckoner_changeOption 51 = .ok (.ifCond .eq 7, 3) := by decide +kernel
theorem d_Reckoner_changeOption_54 : decode b_Reckoner_changeOption 54 = .ok (.iconst 1, 1) := by decide +kernel
theorem d_Reckoner_changeOption_55 : decode b_Reckoner_changeOption 55 = .ok (.goto 4, 3) := by decide +kernel
theorem d_Reckoner_changeOption_58 : decode b_Reckoner_changeOption 58 = .ok (.iconst 0, 1) := by decide +kernel
theorem d_Reckoner_changeOption_59 : decode b_Reckoner_changeOption 59 = .ok (.istore 12, 2) := by decide +kernel
theorem d_Reckoner_changeOption_61 : decode b_Reckoner_changeOption 61 = .ok (.aload_n 0, 1) := by decide +kernel
theorem d_Reckoner_changeOption_62 : decode b_Reckoner_changeOption 62 = .ok (.getfield 9, 3) := by decide +kernel
theorem d_Reckoner_changeOption_65 : decode b_Reckoner_changeOption 65 = .ok (.iload_n 1, 1) := by decide +kernel
theorem d_Reckoner_changeOption_66 : decode b_Reckoner_changeOption 66 = .ok (.lload 8, 2) := by decide +kernel
theorem d_Reckoner_changeOption_68 : decode b_Reckoner_changeOption 68 = .ok (.lastore, 1) := by decide +kernel
theorem d_Reckoner_changeOption_69 : decode b_Reckoner_changeOption 69 = .ok (.aload_n 0, 1) := by decide +kernel
theorem d_Reckoner_changeOption_70 : decode b_Reckoner_changeOption 70 = .ok (.getfield 15, 3) := by decide +kernel
theorem d_Reckoner_changeOption_73 : decode b_Reckoner_changeOption 73 = .ok (.iload_n 1, 1) := by decide +kernel
theorem d_Reckoner_changeOption_74 : decode b_Reckoner_changeOption 74 = .ok (.lload 10, 2) := by decide +kernel
theorem d_Reckoner_changeOption_76 : decode b_Reckoner_changeOption 76 = .ok (.lastore, 1) := by decide +kernel
theorem d_Reckoner_changeOption_77 : decode b_Reckoner_changeOption 77 = .ok (.iload 12, 2) := by decide +kernel
theorem d_Reckoner_changeOption_79 : decode b_Reckoner_changeOption 79 = .ok (.ireturn, 1) := by decide +kernel
theorem d_Reckoner_isAnyBroken_0 : decode b_Reckoner_isAnyBroken 0 = .ok (.iconst 0, 1) := by decide +kernel
theorem d_Reckoner_isAnyBroken_1 : decode b_Reckoner_isAnyBroken 1 = .ok (.istore_n 3, 1) := by decide +kernel
theorem d_Reckoner_isAnyBroken_2 : decode b_Reckoner_isAnyBroken 2 = .ok (.iload_n 3, 1) := by decide +kernel
theorem d_Reckoner_isAnyBroken_3 : decode b_Reckoner_isAnyBroken 3 = .ok (.aload_n 1, 1) := by decide +kernel
theorem d_Reckoner_isAnyBroken_4 : decode b_Reckoner_isAnyBroken 4 = .ok (.getfield 87, 3) := by decide +kernel
theorem d_Reckoner_isAnyBroken_7 : decode b_Reckoner_isAnyBroken 7 = .ok (.if_icmp .ge 21, 3) := by decide +kernel
theorem d_Reckoner_isAnyBroken_10 : decode b_Reckoner_isAnyBroken 10 = .ok (.aload_n 0, 1) := by decide +kernel
theorem d_Reckoner_isAnyBroken_11 : decode b_Reckoner_isAnyBroken 11 = .ok (.aload_n 1, 1) := by decide +kernel
theorem d_Reckoner_isAnyBroken_12 : decode b_Reckoner_isAnyBroken 12 = .ok (.iload_n 3, 1) := by decide +kernel
theorem d_Reckoner_isAnyBroken_13 : decode b_Reckoner_isAnyBroken 13 = .ok (.aload_n 2, 1) := by decide +kernel
theorem d_Reckoner_isAnyBroken_14 : decode b_Reckoner_isAnyBroken 14 = .ok (.invokevirtual 90, 3) := by decide +kernel
theorem d_Reckoner_isAnyBroken_17 : decode b_Reckoner_isAnyBroken 17 = .ok (.ifCond .eq 5, 3) := by decide +kernel
theorem d_Reckoner_isAnyBroken_20 : decode b_Reckoner_isAnyBroken 20 = .ok (.iconst 1, 1) := by decide +kernel
theorem d_Reckoner_isAnyBroken_21 : decode b_Reckoner_isAnyBroken 21 = .ok (.ireturn, 1) := by decide +kernel
theorem d_Reckoner_isAnyBroken_22 : decode b_Reckoner_isAnyBroken 22 = .ok (.iinc 3 1, 3) := by decide +kernel
theorem d_Reckoner_isAnyBroken_25 : decode b_Reckoner_isAnyBroken 25 = .ok (.goto (-23), 3) := by decide +kernel
theorem d_Reckoner_isAnyBroken_28 : decode b_Reckoner_isAnyBroken 28 = .ok (.iconst 0, 1) := by decide +kernel
theorem d_Reckoner_isAnyBroken_29 : decode b_Reckoner_isAnyBroken 29 = .ok (.ireturn, 1) := by decide +kernel
theorem d_Reckoner_join_0 : decode b_Reckoner_join 0 = .ok (.aload_n 0, 1) := by decide +kernel
theorem d_Reckoner_join_1 : decode b_Reckoner_join 1 = .ok (.getfield 24, 3) := by decide +kernel
theorem d_Reckoner_join_4 : decode b_Reckoner_join 4 = .ok (.iconst 2, 1) := by decide +kernel
theorem d_Reckoner_join_5 : decode b_Reckoner_join 5 = .ok (.if_icmp .ge 4, 3) := by decide +kernel
theorem d_Reckoner_join_8 : decode b_Reckoner_join 8 = .ok (.return_, 1) := by decide +kernel
theorem d_Reckoner_join_9 : decode b_Reckoner_join 9 = .ok (.aload_n 0, 1) := by decide +kernel
theorem d_Reckoner_join_10 : decode b_Reckoner_join 10 = .ok (.dup, 1) := by decide +kernel
theorem d_Reckoner_join_11 : decode b_Reckoner_join 11 = .ok (.getfield 24, 3) := by decide +kernel
theorem d_Reckoner_join_14 : decode b_Reckoner_join 14 = .ok (.iconst 2, 1) := by decide +kernel
theorem d_Reckoner_join_15 : decode b_Reckoner_join 15 = .ok (.isub, 1) := by decide +kernel
theorem d_Reckoner_join_16 : decode b_Reckoner_join 16 = .ok (.putfield 24, 3) := by decide +kernel
theorem d_Reckoner_join_19 : decode b_Reckoner_join 19 = .ok (.aload_n 0, 1) := by decide +kernel
theorem d_Reckoner_join_20 : decode b_Reckoner_join 20 = .ok (.getfield 18, 3) := by decide +kernel
theorem d_Reckoner_join_23 : decode b_Reckoner_join 23 = .ok (.aload_n 0, 1) := by decide +kernel
theorem d_Reckoner_join_24 : decode b_Reckoner_join 24 = .ok (.getfield 24, 3) := by decide +kernel
theorem d_Reckoner_join_27 : decode b_Reckoner_join 27 = .ok (.laload, 1) := by decide +kernel
theorem d_Reckoner_join_28 : decode b_Reckoner_join 28 = .ok (.lstore_n 2, 1) := by decide +kernel
theorem d_Reckoner_join_29 : decode b_Reckoner_join 29 = .ok (.aload_n 0, 1) := by decide +kernel
theorem d_Reckoner_join_30 : decode b_Reckoner_join 30 = .ok (.getfield 21, 3) := by decide +kernel
theorem d_Reckoner_join_33 : decode b_Reckoner_join 33 = .ok (.aload_n 0, 1) := by decide +kernel
theorem d_Reckoner_join_34 : decode b_Reckoner_join 34 = .ok (.getfield 24, 3) := by decide +kernel
theorem d_Reckoner_join_37 : decode b_Reckoner_join 37 = .ok (.laload, 1) := by decide +kernel
theorem d_Reckoner_join_38 : decode b_Reckoner_join 38 = .ok (.lstore 4, 2) := by decide +kernel
theorem d_Reckoner_join_40 : decode b_Reckoner_join 40 = .ok (.aload_n 0, 1) := by decide +kernel
theorem d_Reckoner_join_41 : decode b_Reckoner_join 41 = .ok (.getfield 18, 3) := by decide +kernel
theorem d_Reckoner_join_44 : decode b_Reckoner_join 44 = .ok (.aload_n 0, 1) := by decide +kernel
theorem d_Reckoner_join_45 : decode b_Reckoner_join 45 = .ok (.getfield 24, 3) := by decide +kernel
theorem d_Reckoner_join_48 : decode b_Reckoner_join 48 = .ok (.iconst 1, 1) := by decide +kernel
theorem d_Reckoner_join_49 : decode b_Reckoner_join 49 = .ok (.iadd, 1) := by decide +kernel
theorem d_Reckoner_join_50 : decode b_Reckoner_join 50 = .ok (.laload, 1) := by decide +kernel
theorem d_Reckoner_join_51 : decode b_Reckoner_join 51 = .ok (.lstore 6, 2) := by decide +kernel
theorem d_Reckoner_join_53 : decode b_Reckoner_join 53 = .ok (.aload_n 0, 1) := by decide +kernel
theorem d_Reckoner_join_54 : decode b_Reckoner_join 54 = .ok (.getfield 21, 3) := by decide +kernel
theorem d_Reckoner_join_57 : decode b_Reckoner_join 57 = .ok (.aload_n 0, 1) := by decide +kernel
theorem d_Reckoner_join_58 : decode b_Reckoner_join 58 = .ok (.getfield 24, 3) := by decide +kernel
theorem d_Reckoner_join_61 : decode b_Reckoner_join 61 = .ok (.iconst 1, 1) := by decide +kernel
theorem d_Reckoner_join_62 : decode b_Reckoner_join 62 = .ok (.iadd, 1) := by decide +kernel
theorem d_Reckoner_join_63 : decode b_Reckoner_join 63 = .ok (.laload, 1) := by decide +kernel
theorem d_Reckoner_join_64 : decode b_Reckoner_join 64 = .ok (.lstore 8, 2) := by decide +kernel
theorem d_Reckoner_join_66 : decode b_Reckoner_join 66 = .ok (.iload_n 1, 1) := by decide +kernel
theorem d_Reckoner_join_67 : decode b_Reckoner_join 67 = .ok (.tableswitch 85 5 7 #[25, 47, 69], 25) := by decide +kernel
theorem d_Reckoner_join_92 : decode b_Reckoner_join 92 = .ok (.aload_n 0, 1) := by decide +kernel
theorem d_Reckoner_join_93 : decode b_Reckoner_join 93 = .ok (.lload_n 2, 1) := by decide +kernel
theorem d_Reckoner_join_94 : decode b_Reckoner_join 94 = .ok (.lload 8, 2) := by decide +kernel
theorem d_Reckoner_join_96 : decode b_Reckoner_join 96 = .ok (.lmul, 1) := by decide +kernel
theorem d_Reckoner_join_97 : decode b_Reckoner_join 97 = .ok (.lload 6, 2) := by decide +kernel
theorem d_Reckoner_join_99 : decode b_Reckoner_join 99 = .ok (.lload 4, 2) := by decide +kernel
theorem d_Reckoner_join_101 : decode b_Reckoner_join 101 = .ok (.lmul, 1) := by decide +kernel
theorem d_Reckoner_join_102 : decode b_Reckoner_join 102 = .ok (.ladd, 1) := by decide +kernel
theorem d_Reckoner_join_103 : decode b_Reckoner_join 103 = .ok (.lload 4, 2) := by decide +kernel
theorem d_Reckoner_join_105 : decode b_Reckoner_join 105 = .ok (.lload 8, 2) := by decide +kernel
theorem d_Reckoner_join_107 : decode b_Reckoner_join 107 = .ok (.lmul, 1) := by decide +kernel
theorem d_Reckoner_join_108 : decode b_Reckoner_join 108 = .ok (.invokevirtual 124, 3) := by decide +kernel
theorem d_Reckoner_join_111 : decode b_Reckoner_join 111 = .ok (.goto 94, 3) := by decide +kernel
theorem d_Reckoner_join_114 : decode b_Reckoner_join 114 = .ok (.aload_n 0, 1) := by decide +kernel
theorem d_Reckoner_join_115 : decode b_Reckoner_join 115 = .ok (.lload_n 2, 1) := by decide +kernel
theorem d_Reckoner_join_116 : decode b_Reckoner_join 116 = .ok (.lload 8, 2) := by decide +kernel
theorem d_Reckoner_join_118 : decode b_Reckoner_join 118 = .ok (.lmul, 1) := by decide +kernel
theorem d_Reckoner_join_119 : decode b_Reckoner_join 119 = .ok (.lload 6, 2) := by decide +kernel
theorem d_Reckoner_join_121 : decode b_Reckoner_join 121 = .ok (.lload 4, 2) := by decide +kernel
theorem d_Reckoner_join_123 : decode b_Reckoner_join 123 = .ok (.lmul, 1) := by decide +kernel
theorem d_Reckoner_join_124 : decode b_Reckoner_join 124 = .ok (.lsub, 1) := by decide +kernel
theorem d_Reckoner_join_125 : decode b_Reckoner_join 125 = .ok (.lload 4, 2) := by decide +kernel
theorem d_Reckoner_join_127 : decode b_Reckoner_join 127 = .ok (.lload 8, 2) := by decide +kernel
theorem d_Reckoner_join_129 : decode b_Reckoner_join 129 = .ok (.lmul, 1) := by decide +kernel
theorem d_Reckoner_join_130 : decode b_Reckoner_join 130 = .ok (.invokevirtual 124, 3) := by decide +kernel
theorem d_Reckoner_join_133 : decode b_Reckoner_join 133 = .ok (.goto 72, 3) := by decide +kernel
theorem d_Reckoner_join_136 : decode b_Reckoner_join 136 = .ok (.aload_n 0, 1) := by decide +kernel
theorem d_Reckoner_join_137 : decode b_Reckoner_join 137 = .ok (.lload_n 2, 1) := by decide +kernel
theorem d_Reckoner_join_138 : decode b_Reckoner_join 138 = .ok (.lload 6, 2) := by decide +kernel
theorem d_Reckoner_join_140 : decode b_Reckoner_join 140 = .ok (.lmul, 1) := by decide +kernel
theorem d_Reckoner_join_141 : decode b_Reckoner_join 141 = .ok (.lload 4, 2) := by decide +kernel
theorem d_Reckoner_join_143 : decode b_Reckoner_join 143 = .ok (.lload 8, 2) := by decide +kernel
theorem d_Reckoner_join_145 : decode b_Reckoner_join 145 = .ok (.lmul, 1) := by decide +kernel
theorem d_Reckoner_join_146 : decode b_Reckoner_join 146 = .ok (.invokevirtual 124, 3) := by decide +kernel
theorem d_Reckoner_join_149 : decode b_Reckoner_join 149 = .ok (.goto 56, 3) := by decide +kernel
theorem d_Reckoner_join_152 : decode b_Reckoner_join 152 = .ok (.lload 6, 2) := by decide +kernel
theorem d_Reckoner_join_154 : decode b_Reckoner_join 154 = .ok (.lconst 0, 1) := by decide +kernel
theorem d_Reckoner_join_155 : decode b_Reckoner_join 155 = .ok (.lcmp, 1) := by decide +kernel
theorem d_Reckoner_join_156 : decode b_Reckoner_join 156 = .ok (.ifCond .ne 11, 3) := by decide +kernel
theorem d_Reckoner_join_159 : decode b_Reckoner_join 159 = .ok (.aload_n 0, 1) := by decide +kernel
theorem d_Reckoner_join_160 : decode b_Reckoner_join 160 = .ok (.iconst 2, 1) := by decide +kernel
theorem d_Reckoner_join_161 : decode b_Reckoner_join 161 = .ok (.putfield 28, 3) := by decide +kernel
theorem d_Reckoner_join_164 : decode b_Reckoner_join 164 = .ok (.goto 41, 3) := by decide +kernel
theorem d_Reckoner_join_167 : decode b_Reckoner_join 167 = .ok (.lload 6, 2) := by decide +kernel
theorem d_Reckoner_join_169 : decode b_Reckoner_join 169 = .ok (.lconst 0, 1) := by decide +kernel
theorem d_Reckoner_join_170 : decode b_Reckoner_join 170 = .ok (.lcmp, 1) := by decide +kernel
theorem d_Reckoner_join_171 : decode b_Reckoner_join 171 = .ok (.ifCond .le 19, 3) := by decide +kernel
theorem d_Reckoner_join_174 : decode b_Reckoner_join 174 = .ok (.aload_n 0, 1) := by decide +kernel
theorem d_Reckoner_join_175 : decode b_Reckoner_join 175 = .ok (.lload_n 2, 1) := by decide +kernel
theorem d_Reckoner_join_176 : decode b_Reckoner_join 176 = .ok (.lload 8, 2) := by decide +kernel
theorem d_Reckoner_join_178 : decode b_Reckoner_join 178 = .ok (.lmul, 1) := by decide +kernel
theorem d_Reckoner_join_179 : decode b_Reckoner_join 179 = .ok (.lload 4, 2) := by decide +kernel
theorem d_Reckoner_join_181 : decode b_Reckoner_join 181 = .ok (.lload 6, 2) := by decide +kernel
theorem d_Reckoner_join_183 : decode b_Reckoner_join 183 = .ok (.lmul, 1) := by decide +kernel
theorem d_Reckoner_join_184 : decode b_Reckoner_join 184 = .ok (.invokevirtual 124, 3) := by decide +kernel
theorem d_Reckoner_join_187 : decode b_Reckoner_join 187 = .ok (.goto 18, 3) := by decide +kernel
theorem d_Reckoner_join_190 : decode b_Reckoner_join 190 = .ok (.aload_n 0, 1) := by decide +kernel
theorem d_Reckoner_join_191 : decode b_Reckoner_join 191 = .ok (.lload_n 2, 1) := by decide +kernel
theorem d_Reckoner_join_192 : decode b_Reckoner_join 192 = .ok (.lneg, 1) := by decide +kernel
theorem d_Reckoner_join_193 : decode b_Reckoner_join 193 = .ok (.lload 8, 2) := by decide +kernel
theorem d_Reckoner_join_195 : decode b_Reckoner_join 195 = .ok (.lmul, 1) := by decide +kernel
theorem d_Reckoner_join_196 : decode b_Reckoner_join 196 = .ok (.lload 4, 2) := by decide +kernel
theorem d_Reckoner_join_198 : decode b_Reckoner_join 198 = .ok (.lload 6, 2) := by decide +kernel
theorem d_Reckoner_join_200 : decode b_Reckoner_join 200 = .ok (.lneg, 1) := by decide +kernel
theorem d_Reckoner_join_201 : decode b_Reckoner_join 201 = .ok (.lmul, 1) := by decide +kernel
theorem d_Reckoner_join_202 : decode b_Reckoner_join 202 = .ok (.invokevirtual 124, 3) := by decide +kernel
theorem d_Reckoner_join_205 : decode b_Reckoner_join 205 = .ok (.return_, 1) := by decide +kernel
theorem d_Reckoner_judge_0 : decode b_Reckoner_judge 0 = .ok (.aload_n 0, 1) := by decide +kernel
theorem d_Reckoner_judge_1 : decode b_Reckoner_judge 1 = .ok (.aload_n 1, 1) := by decide +kernel
theorem d_Reckoner_judge_2 : decode b_Reckoner_judge 2 = .ok (.iload_n 2, 1) := by decide +kernel
theorem d_Reckoner_judge_3 : decode b_Reckoner_judge 3 = .ok (.aload_n 3, 1) := by decide +kernel
theorem d_Reckoner_judge_4 : decode b_Reckoner_judge 4 = .ok (.invokevirtual 79, 3) := by decide +kernel
theorem d_Reckoner_judge_7 : decode b_Reckoner_judge 7 = .ok (.ifCond .ne 8, 3) := by decide +kernel
theorem d_Reckoner_judge_10 : decode b_Reckoner_judge 10 = .ok (.aload_n 0, 1) := by decide +kernel
theorem d_Reckoner_judge_11 : decode b_Reckoner_judge 11 = .ok (.getfield 28, 3) := by decide +kernel
theorem d_Reckoner_judge_14 : decode b_Reckoner_judge 14 = .ok (.ireturn, 1) := by decide +kernel
theorem d_Reckoner_judge_15 : decode b_Reckoner_judge 15 = .ok (.aload_n 0, 1) := by decide +kernel
theorem d_Reckoner_judge_16 : decode b_Reckoner_judge 16 = .ok (.getfield 18, 3) := by decide +kernel
theorem d_Reckoner_judge_19 : decode b_Reckoner_judge 19 = .ok (.iconst 0, 1) := by decide +kernel
theorem d_Reckoner_judge_20 : decode b_Reckoner_judge 20 = .ok (.laload, 1) := by decide +kernel
theorem d_Reckoner_judge_21 : decode b_Reckoner_judge 21 = .ok (.lstore 4, 2) := by decide +kernel
theorem d_Reckoner_judge_23 : decode b_Reckoner_judge 23 = .ok (.aload_n 0, 1) := by decide +kernel
theorem d_Reckoner_judge_24 : decode b_Reckoner_judge 24 = .ok (.getfield 21, 3) := by decide +kernel
theorem d_Reckoner_judge_27 : decode b_Reckoner_judge 27 = .ok (.iconst 0, 1) := by decide +kernel
theorem d_Reckoner_judge_28 : decode b_Reckoner_judge 28 = .ok (.laload, 1) := by decide +kernel
theorem d_Reckoner_judge_29 : decode b_Reckoner_judge 29 = .ok (.lstore 6, 2) := by decide +kernel
theorem d_Reckoner_judge_31 : decode b_Reckoner_judge 31 = .ok (.aload_n 0, 1) := by decide +kernel
theorem d_Reckoner_judge_32 : decode b_Reckoner_judge 32 = .ok (.aload_n 1, 1) := by decide +kernel
theorem d_Reckoner_judge_33 : decode b_Reckoner_judge 33 = .ok (.iload_n 2, 1) := by decide +kernel
theorem d_Reckoner_judge_34 : decode b_Reckoner_judge 34 = .ok (.iconst 1, 1) := by decide +kernel
theorem d_Reckoner_judge_35 : decode b_Reckoner_judge 35 = .ok (.iadd, 1) := by decide +kernel
theorem d_Reckoner_judge_36 : decode b_Reckoner_judge 36 = .ok (.aload_n 3, 1) := by decide +kernel
theorem d_Reckoner_judge_37 : decode b_Reckoner_judge 37 = .ok (.invokevirtual 79, 3) := by decide +kernel
theorem d_Reckoner_judge_40 : decode b_Reckoner_judge 40 = .ok (.ifCond .ne 8, 3) := by decide +kernel
theorem d_Reckoner_judge_43 : decode b_Reckoner_judge 43 = .ok (.aload_n 0, 1) := by decide +kernel
theorem d_Reckoner_judge_44 : decode b_Reckoner_judge 44 = .ok (.getfield 28, 3) := by decide +kernel
theorem d_Reckoner_judge_47 : decode b_Reckoner_judge 47 = .ok (.ireturn, 1) := by decide +kernel
theorem d_Reckoner_judge_48 : decode b_Reckoner_judge 48 = .ok (.lload 4, 2) := by decide +kernel
theorem d_Reckoner_judge_50 : decode b_Reckoner_judge 50 = .ok (.aload_n 0, 1) := by decide +kernel
theorem d_Reckoner_judge_51 : decode b_Reckoner_judge 51 = .ok (.getfield 21, 3) := by decide +kernel
theorem d_Reckoner_judge_54 : decode b_Reckoner_judge 54 = .ok (.iconst 0, 1) := by decide +kernel
theorem d_Reckoner_judge_55 : decode b_Reckoner_judge 55 = .ok (.laload, 1) := by decide +kernel
theorem d_Reckoner_judge_56 : decode b_Reckoner_judge 56 = .ok (.lmul, 1) := by decide +kernel
theorem d_Reckoner_judge_57 : decode b_Reckoner_judge 57 = .ok (.aload_n 0, 1) := by decide +kernel
theorem d_Reckoner_judge_58 : decode b_Reckoner_judge 58 = .ok (.getfield 18, 3) := by decide +kernel
theorem d_Reckoner_judge_61 : decode b_Reckoner_judge 61 = .ok (.iconst 0, 1) := by decide +kernel
theorem d_Reckoner_judge_62 : decode b_Reckoner_judge 62 = .ok (.laload, 1) := by decide +kernel
theorem d_Reckoner_judge_63 : decode b_Reckoner_judge 63 = .ok (.lload 6, 2) := by decide +kernel
theorem d_Reckoner_judge_65 : decode b_Reckoner_judge 65 = .ok (.lmul, 1) := by decide +kernel
theorem d_Reckoner_judge_66 : decode b_Reckoner_judge 66 = .ok (.invokestatic 97, 3) := by decide +kernel
theorem d_Reckoner_judge_69 : decode b_Reckoner_judge 69 = .ok (.istore 8, 2) := by decide +kernel
theorem d_Reckoner_judge_71 : decode b_Reckoner_judge 71 = .ok (.aload_n 1, 1) := by decide +kernel
theorem d_Reckoner_judge_72 : decode b_Reckoner_judge 72 = .ok (.getfield 103, 3) := by decide +kernel
theorem d_Reckoner_judge_75 : decode b_Reckoner_judge 75 = .ok (.iload_n 2, 1) := by decide +kernel
theorem d_Reckoner_judge_76 : decode b_Reckoner_judge 76 = .ok (.caload, 1) := by decide +kernel
theorem d_Reckoner_judge_77 : decode b_Reckoner_judge 77 = .ok (.istore 9, 2) := by decide +kernel
theorem d_Reckoner_judge_79 : decode b_Reckoner_judge 79 = .ok (.iload 9, 2) := by decide +kernel
theorem d_Reckoner_judge_81 : decode b_Reckoner_judge 81 = .ok (.bipush 60, 2) := by decide +kernel
theorem d_Reckoner_judge_83 : decode b_Reckoner_judge 83 = .ok (.if_icmp .ne 16, 3) := by decide +kernel
theorem d_Reckoner_judge_86 : decode b_Reckoner_judge 86 = .ok (.iload 8, 2) := by decide +kernel
theorem d_Reckoner_judge_88 : decode b_Reckoner_judge 88 = .ok (.ifCond .ge 7, 3) := by decide +kernel
theorem d_Reckoner_judge_91 : decode b_Reckoner_judge 91 = .ok (.iconst 1, 1) := by decide +kernel
theorem d_Reckoner_judge_92 : decode b_Reckoner_judge 92 = .ok (.goto 37, 3) := by decide +kernel
theorem d_Reckoner_judge_95 : decode b_Reckoner_judge 95 = .ok (.iconst 0, 1) := by decide +kernel
theorem d_Reckoner_judge_96 : decode b_Reckoner_judge 96 = .ok (.goto 33, 3) := by decide +kernel
theorem d_Reckoner_judge_99 : decode b_Reckoner_judge 99 = .ok (.iload 9, 2) := by decide +kernel
theorem d_Reckoner_judge_101 : decode b_Reckoner_judge 101 = .ok (.bipush 62, 2) := by decide +kernel
theorem d_Reckoner_judge_103 : decode b_Reckoner_judge 103 = .ok (.if_icmp .ne 16, 3) := by decide +kernel
theorem d_Reckoner_judge_106 : decode b_Reckoner_judge 106 = .ok (.iload 8, 2) := by decide +kernel
theorem d_Reckoner_judge_108 : decode b_Reckoner_judge 108 = .ok (.ifCond .le 7, 3) := by decide +kernel
theorem d_Reckoner_judge_111 : decode b_Reckoner_judge 111 = .ok (.iconst 1, 1) := by decide +kernel
theorem d_Reckoner_judge_112 : decode b_Reckoner_judge 112 = .ok (.goto 17, 3) := by decide +kernel
theorem d_Reckoner_judge_115 : decode b_Reckoner_judge 115 = .ok (.iconst 0, 1) := by decide +kernel
theorem d_Reckoner_judge_116 : decode b_Reckoner_judge 116 = .ok (.goto 13, 3) := by decide +kernel
theorem d_Reckoner_judge_119 : decode b_Reckoner_judge 119 = .ok (.iload 8, 2) := by decide +kernel
theorem d_Reckoner_judge_121 : decode b_Reckoner_judge 121 = .ok (.ifCond .ne 7, 3) := by decide +kernel
theorem d_Reckoner_judge_124 : decode b_Reckoner_judge 124 = .ok (.iconst 1, 1) := by decide +kernel
theorem d_Reckoner_judge_125 : decode b_Reckoner_judge 125 = .ok (.goto 4, 3) := by decide +kernel
theorem d_Reckoner_judge_128 : decode b_Reckoner_judge 128 = .ok (.iconst 0, 1) := by decide +kernel
theorem d_Reckoner_judge_129 : decode b_Reckoner_judge 129 = .ok (.istore 10, 2) := by decide +kernel
theorem d_Reckoner_judge_131 : decode b_Reckoner_judge 131 = .ok (.iload 10, 2) := by decide +kernel
theorem d_Reckoner_judge_133 : decode b_Reckoner_judge 133 = .ok (.ifCond .eq 7, 3) := by decide +kernel
theorem d_Reckoner_judge_136 : decode b_Reckoner_judge 136 = .ok (.iconst 0, 1) := by decide +kernel
theorem d_Reckoner_judge_137 : decode b_Reckoner_judge 137 = .ok (.goto 4, 3) := by decide +kernel
theorem d_Reckoner_judge_140 : decode b_Reckoner_judge 140 = .ok (.iconst 1, 1) := by decide +kernel
theorem d_Reckoner_judge_141 : decode b_Reckoner_judge 141 = .ok (.ireturn, 1) := by decide +kernel
theorem d_Reckoner_negate_0 : decode b_Reckoner_negate 0 = .ok (.aload_n 0, 1) := by decide +kernel
theorem d_Reckoner_negate_1 : decode b_Reckoner_negate 1 = .ok (.getfield 24, 3) := by decide +kernel
theorem d_Reckoner_negate_4 : decode b_Reckoner_negate 4 = .ok (.ifCond .le 26, 3) := by decide +kernel
theorem d_Reckoner_negate_7 : decode b_Reckoner_negate 7 = .ok (.aload_n 0, 1) := by decide +kernel
theorem d_Reckoner_negate_8 : decode b_Reckoner_negate 8 = .ok (.getfield 18, 3) := by decide +kernel
theorem d_Reckoner_negate_11 : decode b_Reckoner_negate 11 = .ok (.aload_n 0, 1) := by decide +kernel
theorem d_Reckoner_negate_12 : decode b_Reckoner_negate 12 = .ok (.getfield 24, 3) := by decide +kernel
theorem d_Reckoner_negate_15 : decode b_Reckoner_negate 15 = .ok (.iconst 1, 1) := by decide +kernel
theorem d_Reckoner_negate_16 : decode b_Reckoner_negate 16 = .ok (.isub, 1) := by decide +kernel
theorem d_Reckoner_negate_17 : decode b_Reckoner_negate 17 = .ok (.aload_n 0, 1) := by decide +kernel
theorem d_Reckoner_negate_18 : decode b_Reckoner_negate 18 = .ok (.getfield 18, 3) := by decide +kernel
theorem d_Reckoner_negate_21 : decode b_Reckoner_negate 21 = .ok (.aload_n 0, 1) := by decide +kernel
theorem d_Reckoner_negate_22 : decode b_Reckoner_negate 22 = .ok (.getfield 24, 3) := by decide +kernel
theorem d_Reckoner_negate_25 : decode b_Reckoner_negate 25 = .ok (.iconst 1, 1) := by decide +kernel
theorem d_Reckoner_negate_26 : decode b_Reckoner_negate 26 = .ok (.isub, 1) := by decide +kernel
theorem d_Reckoner_negate_27 : decode b_Reckoner_negate 27 = .ok (.laload, 1) := by decide +kernel
theorem d_Reckoner_negate_28 : decode b_Reckoner_negate 28 = .ok (.lneg, 1) := by decide +kernel
theorem d_Reckoner_negate_29 : decode b_Reckoner_negate 29 = .ok (.lastore, 1) := by decide +kernel
theorem d_Reckoner_negate_30 : decode b_Reckoner_negate 30 = .ok (.return_, 1) := by decide +kernel
theorem d_Reckoner_push_0 : decode b_Reckoner_push 0 = .ok (.aload_n 0, 1) := by decide +kernel
theorem d_Reckoner_push_1 : decode b_Reckoner_push 1 = .ok (.getfield 24, 3) := by decide +kernel
theorem d_Reckoner_push_4 : decode b_Reckoner_push 4 = .ok (.bipush 19, 2) := by decide +kernel
theorem d_Reckoner_push_6 : decode b_Reckoner_push 6 = .ok (.if_icmp .ge 33, 3) := by decide +kernel
theorem d_Reckoner_push_9 : decode b_Reckoner_push 9 = .ok (.aload_n 0, 1) := by decide +kernel
theorem d_Reckoner_push_10 : decode b_Reckoner_push 10 = .ok (.getfield 18, 3) := by decide +kernel
theorem d_Reckoner_push_13 : decode b_Reckoner_push 13 = .ok (.aload_n 0, 1) := by decide +kernel
theorem d_Reckoner_push_14 : decode b_Reckoner_push 14 = .ok (.getfield 24, 3) := by decide +kernel
theorem d_Reckoner_push_17 : decode b_Reckoner_push 17 = .ok (.lload_n 1, 1) := by decide +kernel
theorem d_Reckoner_push_18 : decode b_Reckoner_push 18 = .ok (.lastore, 1) := by decide +kernel
theorem d_Reckoner_push_19 : decode b_Reckoner_push 19 = .ok (.aload_n 0, 1) := by decide +kernel
theorem d_Reckoner_push_20 : decode b_Reckoner_push 20 = .ok (.getfield 21, 3) := by decide +kernel
theorem d_Reckoner_push_23 : decode b_Reckoner_push 23 = .ok (.aload_n 0, 1) := by decide +kernel
theorem d_Reckoner_push_24 : decode b_Reckoner_push 24 = .ok (.getfield 24, 3) := by decide +kernel
theorem d_Reckoner_push_27 : decode b_Reckoner_push 27 = .ok (.lload_n 3, 1) := by decide +kernel
theorem d_Reckoner_push_28 : decode b_Reckoner_push 28 = .ok (.lastore, 1) := by decide +kernel
theorem d_Reckoner_push_29 : decode b_Reckoner_push 29 = .ok (.aload_n 0, 1) := by decide +kernel
theorem d_Reckoner_push_30 : decode b_Reckoner_push 30 = .ok (.dup, 1) := by decide +kernel
theorem d_Reckoner_push_31 : decode b_Reckoner_push 31 = .ok (.getfield 24, 3) := by decide +kernel
theorem d_Reckoner_push_34 : decode b_Reckoner_push 34 = .ok (.iconst 1, 1) := by decide +kernel
theorem d_Reckoner_push_35 : decode b_Reckoner_push 35 = .ok (.iadd, 1) := by decide +kernel
theorem d_Reckoner_push_36 : decode b_Reckoner_push 36 = .ok (.putfield 24, 3) := by decide +kernel
theorem d_Reckoner_push_39 : decode b_Reckoner_push 39 = .ok (.return_, 1) := by decide +kernel
theorem d_Reckoner_pushCell_0 : decode b_Reckoner_pushCell 0 = .ok (.aload_n 2, 1) := by decide +kernel
theorem d_Reckoner_pushCell_1 : decode b_Reckoner_pushCell 1 = .ok (.getfield 142, 3) := by decide +kernel
theorem d_Reckoner_pushCell_4 : decode b_Reckoner_pushCell 4 = .ok (.iload_n 1, 1) := by decide +kernel
theorem d_Reckoner_pushCell_5 : decode b_Reckoner_pushCell 5 = .ok (.iaload, 1) := by decide +kernel
theorem d_Reckoner_pushCell_6 : decode b_Reckoner_pushCell 6 = .ok (.iconst 1, 1) := by decide +kernel
theorem d_Reckoner_pushCell_7 : decode b_Reckoner_pushCell 7 = .ok (.if_icmp .ne 22, 3) := by decide +kernel
theorem d_Reckoner_pushCell_10 : decode b_Reckoner_pushCell 10 = .ok (.aload_n 0, 1) := by decide +kernel
theorem d_Reckoner_pushCell_11 : decode b_Reckoner_pushCell 11 = .ok (.aload_n 2, 1) := by decide +kernel
theorem d_Reckoner_pushCell_12 : decode b_Reckoner_pushCell 12 = .ok (.getfield 145, 3) := by decide +kernel
theorem d_Reckoner_pushCell_15 : decode b_Reckoner_pushCell 15 = .ok (.iload_n 1, 1) := by decide +kernel
theorem d_Reckoner_pushCell_16 : decode b_Reckoner_pushCell 16 = .ok (.laload, 1) := by decide +kernel
theorem d_Reckoner_pushCell_17 : decode b_Reckoner_pushCell 17 = .ok (.aload_n 2, 1) := by decide +kernel
theorem d_Reckoner_pushCell_18 : decode b_Reckoner_pushCell 18 = .ok (.getfield 146, 3) := by decide +kernel
theorem d_Reckoner_pushCell_21 : decode b_Reckoner_pushCell 21 = .ok (.iload_n 1, 1) := by decide +kernel
theorem d_Reckoner_pushCell_22 : decode b_Reckoner_pushCell 22 = .ok (.laload, 1) := by decide +kernel
theorem d_Reckoner_pushCell_23 : decode b_Reckoner_pushCell 23 = .ok (.invokevirtual 128, 3) := by decide +kernel
theorem d_Reckoner_pushCell_26 : decode b_Reckoner_pushCell 26 = .ok (.goto 8, 3) := by decide +kernel
theorem d_Reckoner_pushCell_29 : decode b_Reckoner_pushCell 29 = .ok (.aload_n 0, 1) := by decide +kernel
theorem d_Reckoner_pushCell_30 : decode b_Reckoner_pushCell 30 = .ok (.iconst 5, 1) := by decide +kernel
theorem d_Reckoner_pushCell_31 : decode b_Reckoner_pushCell 31 = .ok (.putfield 28, 3) := by decide +kernel
theorem d_Reckoner_pushCell_34 : decode b_Reckoner_pushCell 34 = .ok (.return_, 1) := by decide +kernel
theorem d_Reckoner_reckon_0 : decode b_Reckoner_reckon 0 = .ok (.aload_n 0, 1) := by decide +kernel
theorem d_Reckoner_reckon_1 : decode b_Reckoner_reckon 1 = .ok (.iconst 0, 1) := by decide +kernel
theorem d_Reckoner_reckon_2 : decode b_Reckoner_reckon 2 = .ok (.putfield 24, 3) := by decide +kernel
theorem d_Reckoner_reckon_5 : decode b_Reckoner_reckon 5 = .ok (.aload_n 0, 1) := by decide +kernel
theorem d_Reckoner_reckon_6 : decode b_Reckoner_reckon 6 = .ok (.iconst 1, 1) := by decide +kernel
theorem d_Reckoner_reckon_7 : decode b_Reckoner_reckon 7 = .ok (.putfield 28, 3) := by decide +kernel
theorem d_Reckoner_reckon_10 : decode b_Reckoner_reckon 10 = .ok (.iload_n 2, 1) := by decide +kernel
theorem d_Reckoner_reckon_11 : decode b_Reckoner_reckon 11 = .ok (.ifCond .lt 11, 3) := by decide +kernel
theorem d_Reckoner_reckon_14 : decode b_Reckoner_reckon 14 = .ok (.iload_n 2, 1) := by decide +kernel
theorem d_Reckoner_reckon_15 : decode b_Reckoner_reckon 15 = .ok (.aload_n 1, 1) := by decide +kernel
theorem d_Reckoner_reckon_16 : decode b_Reckoner_reckon 16 = .ok (.getfield 109, 3) := by decide +kernel
theorem d_Reckoner_reckon_19 : decode b_Reckoner_reckon 19 = .ok (.if_icmp .lt 5, 3) := by decide +kernel
theorem d_Reckoner_reckon_22 : decode b_Reckoner_reckon 22 = .ok (.iconst 0, 1) := by decide +kernel
theorem d_Reckoner_reckon_23 : decode b_Reckoner_reckon 23 = .ok (.ireturn, 1) := by decide +kernel
theorem d_Reckoner_reckon_24 : decode b_Reckoner_reckon 24 = .ok (.aload_n 1, 1) := by decide +kernel
theorem d_Reckoner_reckon_25 : decode b_Reckoner_reckon 25 = .ok (.getfield 112, 3) := by decide +kernel
theorem d_Reckoner_reckon_28 : decode b_Reckoner_reckon 28 = .ok (.iload_n 2, 1) := by decide +kernel
theorem d_Reckoner_reckon_29 : decode b_Reckoner_reckon 29 = .ok (.iaload, 1) := by decide +kernel
theorem d_Reckoner_reckon_30 : decode b_Reckoner_reckon 30 = .ok (.istore 4, 2) := by decide +kernel
theorem d_Reckoner_reckon_32 : decode b_Reckoner_reckon 32 = .ok (.iload 4, 2) := by decide +kernel
theorem d_Reckoner_reckon_34 : decode b_Reckoner_reckon 34 = .ok (.aload_n 1, 1) := by decide +kernel
theorem d_Reckoner_reckon_35 : decode b_Reckoner_reckon 35 = .ok (.getfield 112, 3) := by decide +kernel
theorem d_Reckoner_reckon_38 : decode b_Reckoner_reckon 38 = .ok (.iload_n 2, 1) := by decide +kernel
theorem d_Reckoner_reckon_39 : decode b_Reckoner_reckon 39 = .ok (.iconst 1, 1) := by decide +kernel
theorem d_Reckoner_reckon_40 : decode b_Reckoner_reckon 40 = .ok (.iadd, 1) := by decide +kernel
theorem d_Reckoner_reckon_41 : decode b_Reckoner_reckon 41 = .ok (.iaload, 1) := by decide +kernel
theorem d_Reckoner_reckon_42 : decode b_Reckoner_reckon 42 = .ok (.if_icmp .ge 131, 3) := by decide +kernel
theorem d_Reckoner_reckon_45 : decode b_Reckoner_reckon 45 = .ok (.aload_n 0, 1) := by decide +kernel
theorem d_Reckoner_reckon_46 : decode b_Reckoner_reckon 46 = .ok (.getfield 28, 3) := by decide +kernel
theorem d_Reckoner_reckon_49 : decode b_Reckoner_reckon 49 = .ok (.iconst 1, 1) := by decide +kernel
theorem d_Reckoner_reckon_50 : decode b_Reckoner_reckon 50 = .ok (.if_icmp .ne 123, 3) := by decide +kernel
theorem d_Reckoner_reckon_53 : decode b_Reckoner_reckon 53 = .ok (.aload_n 1, 1) := by decide +kernel
theorem d_Reckoner_reckon_54 : decode b_Reckoner_reckon 54 = .ok (.getfield 115, 3) := by decide +kernel
theorem d_Reckoner_reckon_57 : decode b_Reckoner_reckon 57 = .ok (.iload 4, 2) := by decide +kernel
theorem d_Reckoner_reckon_59 : decode b_Reckoner_reckon 59 = .ok (.iaload, 1) := by decide +kernel
theorem d_Reckoner_reckon_60 : decode b_Reckoner_reckon 60 = .ok (.istore 5, 2) := by decide +kernel
theorem d_Reckoner_reckon_62 : decode b_Reckoner_reckon 62 = .ok (.aload_n 1, 1) := by decide +kernel
theorem d_Reckoner_reckon_63 : decode b_Reckoner_reckon 63 = .ok (.getfield 118, 3) := by decide +kernel
theorem d_Reckoner_reckon_66 : decode b_Reckoner_reckon 66 = .ok (.iload 4, 2) := by decide +kernel
theorem d_Reckoner_reckon_68 : decode b_Reckoner_reckon 68 = .ok (.iaload, 1) := by decide +kernel
theorem d_Reckoner_reckon_69 : decode b_Reckoner_reckon 69 = .ok (.tableswitch 87 1 4 #[31, 49, 70, 80], 31) := by decide +kernel
theorem d_Reckoner_reckon_100 : decode b_Reckoner_reckon 100 = .ok (.aload_n 0, 1) := by decide +kernel
theorem d_Reckoner_reckon_101 : decode b_Reckoner_reckon 101 = .ok (.iload 5, 2) := by decide +kernel
theorem d_Reckoner_reckon_103 : decode b_Reckoner_reckon 103 = .ok (.i2l, 1) := by decide +kernel
theorem d_Reckoner_reckon_104 : decode b_Reckoner_reckon 104 = .ok (.aload_n 1, 1) := by decide +kernel
theorem d_Reckoner_reckon_105 : decode b_Reckoner_reckon 105 = .ok (.getfield 121, 3) := by decide +kernel
theorem d_Reckoner_reckon_108 : decode b_Reckoner_reckon 108 = .ok (.iload 4, 2) := by decide +kernel
theorem d_Reckoner_reckon_110 : decode b_Reckoner_reckon 110 = .ok (.iaload, 1) := by decide +kernel
theorem d_Reckoner_reckon_111 : decode b_Reckoner_reckon 111 = .ok (.i2l, 1) := by decide +kernel
theorem d_Reckoner_reckon_112 : decode b_Reckoner_reckon 112 = .ok (.invokevirtual 124, 3) := by decide +kernel
theorem d_Reckoner_reckon_115 : decode b_Reckoner_reckon 115 = .ok (.goto 52, 3) := by decide +kernel
theorem d_Reckoner_reckon_118 : decode b_Reckoner_reckon 118 = .ok (.aload_n 0, 1) := by decide +kernel
theorem d_Reckoner_reckon_119 : decode b_Reckoner_reckon 119 = .ok (.aload_n 0, 1) := by decide +kernel
theorem d_Reckoner_reckon_120 : decode b_Reckoner_reckon 120 = .ok (.getfield 9, 3) := by decide +kernel
theorem d_Reckoner_reckon_123 : decode b_Reckoner_reckon 123 = .ok (.iload 5, 2) := by decide +kernel
theorem d_Reckoner_reckon_125 : decode b_Reckoner_reckon 125 = .ok (.laload, 1) := by decide +kernel
theorem d_Reckoner_reckon_126 : decode b_Reckoner_reckon 126 = .ok (.aload_n 0, 1) := by decide +kernel
theorem d_Reckoner_reckon_127 : decode b_Reckoner_reckon 127 = .ok (.getfield 15, 3) := by decide +kernel
theorem d_Reckoner_reckon_130 : decode b_Reckoner_reckon 130 = .ok (.iload 5, 2) := by decide +kernel
theorem d_Reckoner_reckon_132 : decode b_Reckoner_reckon 132 = .ok (.laload, 1) := by decide +kernel
theorem d_Reckoner_reckon_133 : decode b_Reckoner_reckon 133 = .ok (.invokevirtual 128, 3) := by decide +kernel
theorem d_Reckoner_reckon_136 : decode b_Reckoner_reckon 136 = .ok (.goto 31, 3) := by decide +kernel
theorem d_Reckoner_reckon_139 : decode b_Reckoner_reckon 139 = .ok (.aload_n 0, 1) := by decide +kernel
theorem d_Reckoner_reckon_140 : decode b_Reckoner_reckon 140 = .ok (.iload 5, 2) := by decide +kernel
theorem d_Reckoner_reckon_142 : decode b_Reckoner_reckon 142 = .ok (.aload_n 3, 1) := by decide +kernel
theorem d_Reckoner_reckon_143 : decode b_Reckoner_reckon 143 = .ok (.invokevirtual 131, 3) := by decide +kernel
theorem d_Reckoner_reckon_146 : decode b_Reckoner_reckon 146 = .ok (.goto 21, 3) := by decide +kernel
theorem d_Reckoner_reckon_149 : decode b_Reckoner_reckon 149 = .ok (.aload_n 0, 1) := by decide +kernel
theorem d_Reckoner_reckon_150 : decode b_Reckoner_reckon 150 = .ok (.invokevirtual 135, 3) := by decide +kernel
theorem d_Reckoner_reckon_153 : decode b_Reckoner_reckon 153 = .ok (.goto 14, 3) := by decide +kernel
theorem d_Reckoner_reckon_156 : decode b_Reckoner_reckon 156 = .ok (.aload_n 0, 1) := by decide +kernel
theorem d_Reckoner_reckon_157 : decode b_Reckoner_reckon 157 = .ok (.aload_n 1, 1) := by decide +kernel
theorem d_Reckoner_reckon_158 : decode b_Reckoner_reckon 158 = .ok (.getfield 118, 3) := by decide +kernel
theorem d_Reckoner_reckon_161 : decode b_Reckoner_reckon 161 = .ok (.iload 4, 2) := by decide +kernel
theorem d_Reckoner_reckon_163 : decode b_Reckoner_reckon 163 = .ok (.iaload, 1) := by decide +kernel
theorem d_Reckoner_reckon_164 : decode b_Reckoner_reckon 164 = .ok (.invokevirtual 138, 3) := by decide +kernel
theorem d_Reckoner_reckon_167 : decode b_Reckoner_reckon 167 = .ok (.iinc 4 1, 3) := by decide +kernel
theorem d_Reckoner_reckon_170 : decode b_Reckoner_reckon 170 = .ok (.goto (-138), 3) := by decide +kernel
theorem d_Reckoner_reckon_173 : decode b_Reckoner_reckon 173 = .ok (.aload_n 0, 1) := by decide +kernel
theorem d_Reckoner_reckon_174 : decode b_Reckoner_reckon 174 = .ok (.getfield 28, 3) := by decide +kernel
theorem d_Reckoner_reckon_177 : decode b_Reckoner_reckon 177 = .ok (.iconst 1, 1) := by decide +kernel
theorem d_Reckoner_reckon_178 : decode b_Reckoner_reckon 178 = .ok (.if_icmp .ne 7, 3) := by decide +kernel
theorem d_Reckoner_reckon_181 : decode b_Reckoner_reckon 181 = .ok (.iconst 1, 1) := by decide +kernel
theorem d_Reckoner_reckon_182 : decode b_Reckoner_reckon 182 = .ok (.goto 4, 3) := by decide +kernel
theorem d_Reckoner_reckon_185 : decode b_Reckoner_reckon 185 = .ok (.iconst 0, 1) := by decide +kernel
theorem d_Reckoner_reckon_186 : decode b_Reckoner_reckon 186 = .ok (.ireturn, 1) := by decide +kernel
theorem d_Reckoner_settle_0 : decode b_Reckoner_settle 0 = .ok (.lload_n 1, 1) := by decide +kernel
theorem d_Reckoner_settle_1 : decode b_Reckoner_settle 1 = .ok (.lload_n 3, 1) := by decide +kernel
theorem d_Reckoner_settle_2 : decode b_Reckoner_settle 2 = .ok (.invokestatic 31, 3) := by decide +kernel
theorem d_Reckoner_settle_5 : decode b_Reckoner_settle 5 = .ok (.lstore 5, 2) := by decide +kernel
theorem d_Reckoner_settle_7 : decode b_Reckoner_settle 7 = .ok (.lload 5, 2) := by decide +kernel
theorem d_Reckoner_settle_9 : decode b_Reckoner_settle 9 = .ok (.lconst 1, 1) := by decide +kernel
theorem d_Reckoner_settle_10 : decode b_Reckoner_settle 10 = .ok (.lcmp, 1) := by decide +kernel
theorem d_Reckoner_settle_11 : decode b_Reckoner_settle 11 = .ok (.ifCond .ge 4, 3) := by decide +kernel
theorem d_Reckoner_settle_14 : decode b_Reckoner_settle 14 = .ok (.return_, 1) := by decide +kernel
theorem d_Reckoner_settle_15 : decode b_Reckoner_settle 15 = .ok (.lload_n 1, 1) := by decide +kernel
theorem d_Reckoner_settle_16 : decode b_Reckoner_settle 16 = .ok (.lload 5, 2) := by decide +kernel
theorem d_Reckoner_settle_18 : decode b_Reckoner_settle 18 = .ok (.ldiv, 1) := by decide +kernel
theorem d_Reckoner_settle_19 : decode b_Reckoner_settle 19 = .ok (.lstore 7, 2) := by decide +kernel
theorem d_Reckoner_settle_21 : decode b_Reckoner_settle 21 = .ok (.lload_n 3, 1) := by decide +kernel
theorem d_Reckoner_settle_22 : decode b_Reckoner_settle 22 = .ok (.lload 5, 2) := by decide +kernel
theorem d_Reckoner_settle_24 : decode b_Reckoner_settle 24 = .ok (.ldiv, 1) := by decide +kernel
theorem d_Reckoner_settle_25 : decode b_Reckoner_settle 25 = .ok (.lstore 9, 2) := by decide +kernel
theorem d_Reckoner_settle_27 : decode b_Reckoner_settle 27 = .ok (.lload 7, 2) := by decide +kernel
theorem d_Reckoner_settle_29 : decode b_Reckoner_settle 29 = .ok (.ldc2_w 147, 3) := by decide +kernel
theorem d_Reckoner_settle_32 : decode b_Reckoner_settle 32 = .ok (.lcmp, 1) := by decide +kernel
theorem d_Reckoner_settle_33 : decode b_Reckoner_settle 33 = .ok (.ifCond .gt 21, 3) := by decide +kernel
theorem d_Reckoner_settle_36 : decode b_Reckoner_settle 36 = .ok (.lload 7, 2) := by decide +kernel
theorem d_Reckoner_settle_38 : decode b_Reckoner_settle 38 = .ok (.ldc2_w 149, 3) := by decide +kernel
theorem d_Reckoner_settle_41 : decode b_Reckoner_settle 41 = .ok (.lcmp, 1) := by decide +kernel
theorem d_Reckoner_settle_42 : decode b_Reckoner_settle 42 = .ok (.ifCond .lt 12, 3) := by decide +kernel
theorem d_Reckoner_settle_45 : decode b_Reckoner_settle 45 = .ok (.lload 9, 2) := by decide +kernel
theorem d_Reckoner_settle_47 : decode b_Reckoner_settle 47 = .ok (.ldc2_w 147, 3) := by decide +kernel
theorem d_Reckoner_settle_50 : decode b_Reckoner_settle 50 = .ok (.lcmp, 1) := by decide +kernel
theorem d_Reckoner_settle_51 : decode b_Reckoner_settle 51 = .ok (.ifCond .le 11, 3) := by decide +kernel
theorem d_Reckoner_settle_54 : decode b_Reckoner_settle 54 = .ok (.aload_n 0, 1) := by decide +kernel
theorem d_Reckoner_settle_55 : decode b_Reckoner_settle 55 = .ok (.iconst 3, 1) := by decide +kernel
theorem d_Reckoner_settle_56 : decode b_Reckoner_settle 56 = .ok (.putfield 28, 3) := by decide +kernel
theorem d_Reckoner_settle_59 : decode b_Reckoner_settle 59 = .ok (.goto 11, 3) := by decide +kernel
theorem d_Reckoner_settle_62 : decode b_Reckoner_settle 62 = .ok (.aload_n 0, 1) := by decide +kernel
theorem d_Reckoner_settle_63 : decode b_Reckoner_settle 63 = .ok (.lload 7, 2) := by decide +kernel
theorem d_Reckoner_settle_65 : decode b_Reckoner_settle 65 = .ok (.lload 9, 2) := by decide +kernel
theorem d_Reckoner_settle_67 : decode b_Reckoner_settle 67 = .ok (.invokevirtual 128, 3) := by decide +kernel
theorem d_Reckoner_settle_70 : decode b_Reckoner_settle 70 = .ok (.return_, 1) := by decide +kernel
theorem d_Reckoner_whyBroken_0 : decode b_Reckoner_whyBroken 0 = .ok (.aload_n 1, 1) := by decide +kernel
theorem d_Reckoner_whyBroken_1 : decode b_Reckoner_whyBroken 1 = .ok (.iload_n 2, 1) := by decide +kernel
theorem d_Reckoner_whyBroken_2 : decode b_Reckoner_whyBroken 2 = .ok (.invokevirtual 94, 3) := by decide +kernel
theorem d_Reckoner_whyBroken_5 : decode b_Reckoner_whyBroken 5 = .ok (.ifCond .eq 21, 3) := by decide +kernel
theorem d_Reckoner_whyBroken_8 : decode b_Reckoner_whyBroken 8 = .ok (.aload_n 0, 1) := by decide +kernel
theorem d_Reckoner_whyBroken_9 : decode b_Reckoner_whyBroken 9 = .ok (.aload_n 1, 1) := by decide +kernel
theorem d_Reckoner_whyBroken_10 : decode b_Reckoner_whyBroken 10 = .ok (.getfield 71, 3) := by decide +kernel
theorem d_Reckoner_whyBroken_13 : decode b_Reckoner_whyBroken 13 = .ok (.aload_n 1, 1) := by decide +kernel
theorem d_Reckoner_whyBroken_14 : decode b_Reckoner_whyBroken 14 = .ok (.getfield 65, 3) := by decide +kernel
theorem d_Reckoner_whyBroken_17 : decode b_Reckoner_whyBroken 17 = .ok (.iload_n 2, 1) := by decide +kernel
theorem d_Reckoner_whyBroken_18 : decode b_Reckoner_whyBroken 18 = .ok (.iaload, 1) := by decide +kernel
theorem d_Reckoner_whyBroken_19 : decode b_Reckoner_whyBroken 19 = .ok (.aload_n 3, 1) := by decide +kernel
theorem d_Reckoner_whyBroken_20 : decode b_Reckoner_whyBroken 20 = .ok (.invokevirtual 75, 3) := by decide +kernel
theorem d_Reckoner_whyBroken_23 : decode b_Reckoner_whyBroken 23 = .ok (.goto 4, 3) := by decide +kernel
theorem d_Reckoner_whyBroken_26 : decode b_Reckoner_whyBroken 26 = .ok (.iconst 0, 1) := by decide +kernel
theorem d_Reckoner_whyBroken_27 : decode b_Reckoner_whyBroken 27 = .ok (.ireturn, 1) := by decide +kernel
theorem d_Reckoner_workOut_0 : decode b_Reckoner_workOut 0 = .ok (.aload_n 1, 1) := by decide +kernel
theorem d_Reckoner_workOut_1 : decode b_Reckoner_workOut 1 = .ok (.getfield 58, 3) := by decide +kernel
theorem d_Reckoner_workOut_4 : decode b_Reckoner_workOut 4 = .ok (.iload_n 2, 1) := by decide +kernel
theorem d_Reckoner_workOut_5 : decode b_Reckoner_workOut 5 = .ok (.iaload, 1) := by decide +kernel
theorem d_Reckoner_workOut_6 : decode b_Reckoner_workOut 6 = .ok (.istore 4, 2) := by decide +kernel
theorem d_Reckoner_workOut_8 : decode b_Reckoner_workOut 8 = .ok (.aload_n 1, 1) := by decide +kernel
theorem d_Reckoner_workOut_9 : decode b_Reckoner_workOut 9 = .ok (.getfield 65, 3) := by decide +kernel
theorem d_Reckoner_workOut_12 : decode b_Reckoner_workOut 12 = .ok (.iload_n 2, 1) := by decide +kernel
theorem d_Reckoner_workOut_13 : decode b_Reckoner_workOut 13 = .ok (.iaload, 1) := by decide +kernel
theorem d_Reckoner_workOut_14 : decode b_Reckoner_workOut 14 = .ok (.istore 5, 2) := by decide +kernel
theorem d_Reckoner_workOut_16 : decode b_Reckoner_workOut 16 = .ok (.iconst 0, 1) := by decide +kernel
theorem d_Reckoner_workOut_17 : decode b_Reckoner_workOut 17 = .ok (.istore 6, 2) := by decide +kernel
theorem d_Reckoner_workOut_19 : decode b_Reckoner_workOut 19 = .ok (.iload 6, 2) := by decide +kernel
theorem d_Reckoner_workOut_21 : decode b_Reckoner_workOut 21 = .ok (.aload_n 1, 1) := by decide +kernel
theorem d_Reckoner_workOut_22 : decode b_Reckoner_workOut 22 = .ok (.getfield 68, 3) := by decide +kernel
theorem d_Reckoner_workOut_25 : decode b_Reckoner_workOut 25 = .ok (.iload_n 2, 1) := by decide +kernel
theorem d_Reckoner_workOut_26 : decode b_Reckoner_workOut 26 = .ok (.iaload, 1) := by decide +kernel
theorem d_Reckoner_workOut_27 : decode b_Reckoner_workOut 27 = .ok (.if_icmp .ge 51, 3) := by decide +kernel
theorem d_Reckoner_workOut_30 : decode b_Reckoner_workOut 30 = .ok (.aload_n 0, 1) := by decide +kernel
theorem d_Reckoner_workOut_31 : decode b_Reckoner_workOut 31 = .ok (.aload_n 1, 1) := by decide +kernel
theorem d_Reckoner_workOut_32 : decode b_Reckoner_workOut 32 = .ok (.getfield 71, 3) := by decide +kernel
theorem d_Reckoner_workOut_35 : decode b_Reckoner_workOut 35 = .ok (.iload 5, 2) := by decide +kernel
theorem d_Reckoner_workOut_37 : decode b_Reckoner_workOut 37 = .ok (.aload_n 3, 1) := by decide +kernel
theorem d_Reckoner_workOut_38 : decode b_Reckoner_workOut 38 = .ok (.invokevirtual 75, 3) := by decide +kernel
theorem d_Reckoner_workOut_41 : decode b_Reckoner_workOut 41 = .ok (.istore 7, 2) := by decide +kernel
theorem d_Reckoner_workOut_43 : decode b_Reckoner_workOut 43 = .ok (.iload 7, 2) := by decide +kernel
theorem d_Reckoner_workOut_45 : decode b_Reckoner_workOut 45 = .ok (.ifCond .ne 9, 3) := by decide +kernel
theorem d_Reckoner_workOut_48 : decode b_Reckoner_workOut 48 = .ok (.iinc 5 2, 3) := by decide +kernel
theorem d_Reckoner_workOut_51 : decode b_Reckoner_workOut 51 = .ok (.goto 27, 3) := by decide +kernel
theorem d_Reckoner_workOut_54 : decode b_Reckoner_workOut 54 = .ok (.iload 7, 2) := by decide +kernel
theorem d_Reckoner_workOut_56 : decode b_Reckoner_workOut 56 = .ok (.iconst 1, 1) := by decide +kernel
theorem d_Reckoner_workOut_57 : decode b_Reckoner_workOut 57 = .ok (.if_icmp .eq 12, 3) := by decide +kernel
theorem d_Reckoner_workOut_60 : decode b_Reckoner_workOut 60 = .ok (.aload_n 3, 1) := by decide +kernel
theorem d_Reckoner_workOut_61 : decode b_Reckoner_workOut 61 = .ok (.iload 4, 2) := by decide +kernel
theorem d_Reckoner_workOut_63 : decode b_Reckoner_workOut 63 = .ok (.iload 7, 2) := by decide +kernel
theorem d_Reckoner_workOut_65 : decode b_Reckoner_workOut 65 = .ok (.invokevirtual 41, 3) := by decide +kernel
theorem d_Reckoner_workOut_68 : decode b_Reckoner_workOut 68 = .ok (.return_, 1) := by decide +kernel
theorem d_Reckoner_workOut_69 : decode b_Reckoner_workOut 69 = .ok (.iinc 5 3, 3) := by decide +kernel
theorem d_Reckoner_workOut_72 : decode b_Reckoner_workOut 72 = .ok (.iinc 6 1, 3) := by decide +kernel
theorem d_Reckoner_workOut_75 : decode b_Reckoner_workOut 75 = .ok (.goto (-56), 3) := by decide +kernel
theorem d_Reckoner_workOut_78 : decode b_Reckoner_workOut 78 = .ok (.aload_n 0, 1) := by decide +kernel
theorem d_Reckoner_workOut_79 : decode b_Reckoner_workOut 79 = .ok (.aload_n 1, 1) := by decide +kernel
theorem d_Reckoner_workOut_80 : decode b_Reckoner_workOut 80 = .ok (.getfield 71, 3) := by decide +kernel
theorem d_Reckoner_workOut_83 : decode b_Reckoner_workOut 83 = .ok (.iload 5, 2) := by decide +kernel
theorem d_Reckoner_workOut_85 : decode b_Reckoner_workOut 85 = .ok (.aload_n 3, 1) := by decide +kernel
theorem d_Reckoner_workOut_86 : decode b_Reckoner_workOut 86 = .ok (.invokevirtual 79, 3) := by decide +kernel
theorem d_Reckoner_workOut_89 : decode b_Reckoner_workOut 89 = .ok (.ifCond .eq 26, 3) := by decide +kernel
theorem d_Reckoner_workOut_92 : decode b_Reckoner_workOut 92 = .ok (.aload_n 3, 1) := by decide +kernel
theorem d_Reckoner_workOut_93 : decode b_Reckoner_workOut 93 = .ok (.iload 4, 2) := by decide +kernel
theorem d_Reckoner_workOut_95 : decode b_Reckoner_workOut 95 = .ok (.aload_n 0, 1) := by decide +kernel
theorem d_Reckoner_workOut_96 : decode b_Reckoner_workOut 96 = .ok (.getfield 18, 3) := by decide +kernel
theorem d_Reckoner_workOut_99 : decode b_Reckoner_workOut 99 = .ok (.iconst 0, 1) := by decide +kernel
theorem d_Reckoner_workOut_100 : decode b_Reckoner_workOut 100 = .ok (.laload, 1) := by decide +kernel
theorem d_Reckoner_workOut_101 : decode b_Reckoner_workOut 101 = .ok (.aload_n 0, 1) := by decide +kernel
theorem d_Reckoner_workOut_102 : decode b_Reckoner_workOut 102 = .ok (.getfield 21, 3) := by decide +kernel
theorem d_Reckoner_workOut_105 : decode b_Reckoner_workOut 105 = .ok (.iconst 0, 1) := by decide +kernel
theorem d_Reckoner_workOut_106 : decode b_Reckoner_workOut 106 = .ok (.laload, 1) := by decide +kernel
theorem d_Reckoner_workOut_107 : decode b_Reckoner_workOut 107 = .ok (.iload 6, 2) := by decide +kernel
theorem d_Reckoner_workOut_109 : decode b_Reckoner_workOut 109 = .ok (.invokevirtual 83, 3) := by decide +kernel
theorem d_Reckoner_workOut_112 : decode b_Reckoner_workOut 112 = .ok (.goto 13, 3) := by decide +kernel
theorem d_Reckoner_workOut_115 : decode b_Reckoner_workOut 115 = .ok (.aload_n 3, 1) := by decide +kernel
theorem d_Reckoner_workOut_116 : decode b_Reckoner_workOut 116 = .ok (.iload 4, 2) := by decide +kernel
theorem d_Reckoner_workOut_118 : decode b_Reckoner_workOut 118 = .ok (.aload_n 0, 1) := by decide +kernel
theorem d_Reckoner_workOut_119 : decode b_Reckoner_workOut 119 = .ok (.getfield 28, 3) := by decide +kernel
theorem d_Reckoner_workOut_122 : decode b_Reckoner_workOut 122 = .ok (.invokevirtual 41, 3) := by decide +kernel
theorem d_Reckoner_workOut_125 : decode b_Reckoner_workOut 125 = .ok (.return_, 1) := by decide +kernel
theorem d_Reckoner_workOutAll_0 : decode b_Reckoner_workOutAll 0 = .ok (.iconst 0, 1) := by decide +kernel
theorem d_Reckoner_workOutAll_1 : decode b_Reckoner_workOutAll 1 = .ok (.istore_n 3, 1) := by decide +kernel
theorem d_Reckoner_workOutAll_2 : decode b_Reckoner_workOutAll 2 = .ok (.iload_n 3, 1) := by decide +kernel
theorem d_Reckoner_workOutAll_3 : decode b_Reckoner_workOutAll 3 = .ok (.bipush 60, 2) := by decide +kernel
theorem d_Reckoner_workOutAll_5 : decode b_Reckoner_workOutAll 5 = .ok (.if_icmp .ge 27, 3) := by decide +kernel
theorem d_Reckoner_workOutAll_8 : decode b_Reckoner_workOutAll 8 = .ok (.aload_n 2, 1) := by decide +kernel
theorem d_Reckoner_workOutAll_9 : decode b_Reckoner_workOutAll 9 = .ok (.iload_n 3, 1) := by decide +kernel
theorem d_Reckoner_workOutAll_10 : decode b_Reckoner_workOutAll 10 = .ok (.aload_n 1, 1) := by decide +kernel
theorem d_Reckoner_workOutAll_11 : decode b_Reckoner_workOutAll 11 = .ok (.iload_n 3, 1) := by decide +kernel
theorem d_Reckoner_workOutAll_12 : decode b_Reckoner_workOutAll 12 = .ok (.invokevirtual 35, 3) := by decide +kernel
theorem d_Reckoner_workOutAll_15 : decode b_Reckoner_workOutAll 15 = .ok (.ifCond .eq 7, 3) := by decide +kernel
theorem d_Reckoner_workOutAll_18 : decode b_Reckoner_workOutAll 18 = .ok (.iconst 4, 1) := by decide +kernel
theorem d_Reckoner_workOutAll_19 : decode b_Reckoner_workOutAll 19 = .ok (.goto 4, 3) := by decide +kernel
theorem d_Reckoner_workOutAll_22 : decode b_Reckoner_workOutAll 22 = .ok (.iconst 0, 1) := by decide +kernel
theorem d_Reckoner_workOutAll_23 : decode b_Reckoner_workOutAll 23 = .ok (.invokevirtual 41, 3) := by decide +kernel
theorem d_Reckoner_workOutAll_26 : decode b_Reckoner_workOutAll 26 = .ok (.iinc 3 1, 3) := by decide +kernel
theorem d_Reckoner_workOutAll_29 : decode b_Reckoner_workOutAll 29 = .ok (.goto (-27), 3) := by decide +kernel
theorem d_Reckoner_workOutAll_32 : decode b_Reckoner_workOutAll 32 = .ok (.iconst 0, 1) := by decide +kernel
theorem d_Reckoner_workOutAll_33 : decode b_Reckoner_workOutAll 33 = .ok (.istore_n 3, 1) := by decide +kernel
theorem d_Reckoner_workOutAll_34 : decode b_Reckoner_workOutAll 34 = .ok (.iload_n 3, 1) := by decide +kernel
theorem d_Reckoner_workOutAll_35 : decode b_Reckoner_workOutAll 35 = .ok (.aload_n 1, 1) := by decide +kernel
theorem d_Reckoner_workOutAll_36 : decode b_Reckoner_workOutAll 36 = .ok (.getfield 47, 3) := by decide +kernel
theorem d_Reckoner_workOutAll_39 : decode b_Reckoner_workOutAll 39 = .ok (.if_icmp .ge 21, 3) := by decide +kernel
theorem d_Reckoner_workOutAll_42 : decode b_Reckoner_workOutAll 42 = .ok (.aload_n 0, 1) := by decide +kernel
theorem d_Reckoner_workOutAll_43 : decode b_Reckoner_workOutAll 43 = .ok (.aload_n 1, 1) := by decide +kernel
theorem d_Reckoner_workOutAll_44 : decode b_Reckoner_workOutAll 44 = .ok (.aload_n 1, 1) := by decide +kernel
theorem d_Reckoner_workOutAll_45 : decode b_Reckoner_workOutAll 45 = .ok (.getfield 50, 3) := by decide +kernel
theorem d_Reckoner_workOutAll_48 : decode b_Reckoner_workOutAll 48 = .ok (.iload_n 3, 1) := by decide +kernel
theorem d_Reckoner_workOutAll_49 : decode b_Reckoner_workOutAll 49 = .ok (.iaload, 1) := by decide +kernel
theorem d_Reckoner_workOutAll_50 : decode b_Reckoner_workOutAll 50 = .ok (.aload_n 2, 1) := by decide +kernel
theorem d_Reckoner_workOutAll_51 : decode b_Reckoner_workOutAll 51 = .ok (.invokevirtual 54, 3) := by decide +kernel
theorem d_Reckoner_workOutAll_54 : decode b_Reckoner_workOutAll 54 = .ok (.iinc 3 1, 3) := by decide +kernel
theorem d_Reckoner_workOutAll_57 : decode b_Reckoner_workOutAll 57 = .ok (.goto (-23), 3) := by decide +kernel
theorem d_Reckoner_workOutAll_60 : decode b_Reckoner_workOutAll 60 = .ok (.return_, 1) := by decide +kernel
theorem d_Reckoner_workOutHanging_0 : decode b_Reckoner_workOutHanging 0 = .ok (.iconst 0, 1) := by decide +kernel
theorem d_Reckoner_workOutHanging_1 : decode b_Reckoner_workOutHanging 1 = .ok (.istore 4, 2) := by decide +kernel
theorem d_Reckoner_workOutHanging_3 : decode b_Reckoner_workOutHanging 3 = .ok (.iconst 0, 1) := by decide +kernel
theorem d_Reckoner_workOutHanging_4 : decode b_Reckoner_workOutHanging 4 = .ok (.istore 5, 2) := by decide +kernel
theorem d_Reckoner_workOutHanging_6 : decode b_Reckoner_workOutHanging 6 = .ok (.iload 5, 2) := by decide +kernel
theorem d_Reckoner_workOutHanging_8 : decode b_Reckoner_workOutHanging 8 = .ok (.aload_n 1, 1) := by decide +kernel
theorem d_Reckoner_workOutHanging_9 : decode b_Reckoner_workOutHanging 9 = .ok (.getfield 47, 3) := by decide +kernel
theorem d_Reckoner_workOutHanging_12 : decode b_Reckoner_workOutHanging 12 = .ok (.if_icmp .ge 44, 3) := by decide +kernel
theorem d_Reckoner_workOutHanging_15 : decode b_Reckoner_workOutHanging 15 = .ok (.aload_n 1, 1) := by decide +kernel
theorem d_Reckoner_workOutHanging_16 : decode b_Reckoner_workOutHanging 16 = .ok (.getfield 50, 3) := by decide +kernel
theorem d_Reckoner_workOutHanging_19 : decode b_Reckoner_workOutHanging 19 = .ok (.iload 5, 2) := by decide +kernel
theorem d_Reckoner_workOutHanging_21 : decode b_Reckoner_workOutHanging 21 = .ok (.iaload, 1) := by decide +kernel
theorem d_Reckoner_workOutHanging_22 : decode b_Reckoner_workOutHanging 22 = .ok (.istore 6, 2) := by decide +kernel
theorem d_Reckoner_workOutHanging_24 : decode b_Reckoner_workOutHanging 24 = .ok (.aload_n 1, 1) := by decide +kernel
theorem d_Reckoner_workOutHanging_25 : decode b_Reckoner_workOutHanging 25 = .ok (.aload_n 1, 1) := by decide +kernel
theorem d_Reckoner_workOutHanging_26 : decode b_Reckoner_workOutHanging 26 = .ok (.getfield 58, 3) := by decide +kernel
theorem d_Reckoner_workOutHanging_29 : decode b_Reckoner_workOutHanging 29 = .ok (.iload 6, 2) := by decide +kernel
theorem d_Reckoner_workOutHanging_31 : decode b_Reckoner_workOutHanging 31 = .ok (.iaload, 1) := by decide +kernel
theorem d_Reckoner_workOutHanging_32 : decode b_Reckoner_workOutHanging 32 = .ok (.iload_n 2, 1) := by decide +kernel
theorem d_Reckoner_workOutHanging_33 : decode b_Reckoner_workOutHanging 33 = .ok (.invokevirtual 61, 3) := by decide +kernel
theorem d_Reckoner_workOutHanging_36 : decode b_Reckoner_workOutHanging 36 = .ok (.ifCond .eq 14, 3) := by decide +kernel
theorem d_Reckoner_workOutHanging_39 : decode b_Reckoner_workOutHanging 39 = .ok (.aload_n 0, 1) := by decide +kernel
theorem d_Reckoner_workOutHanging_40 : decode b_Reckoner_workOutHanging 40 = .ok (.aload_n 1, 1) := by decide +kernel
theorem d_Reckoner_workOutHanging_41 : decode b_Reckoner_workOutHanging 41 = .ok (.iload 6, 2) := by decide +kernel
theorem d_Reckoner_workOutHanging_43 : decode b_Reckoner_workOutHanging 43 = .ok (.aload_n 3, 1) := by decide +kernel
theorem d_Reckoner_workOutHanging_44 : decode b_Reckoner_workOutHanging 44 = .ok (.invokevirtual 54, 3) := by decide +kernel
theorem d_Reckoner_workOutHanging_47 : decode b_Reckoner_workOutHanging 47 = .ok (.iinc 4 1, 3) := by decide +kernel
theorem d_Reckoner_workOutHanging_50 : decode b_Reckoner_workOutHanging 50 = .ok (.iinc 5 1, 3) := by decide +kernel
theorem d_Reckoner_workOutHanging_53 : decode b_Reckoner_workOutHanging 53 = .ok (.goto (-47), 3) := by decide +kernel
theorem d_Reckoner_workOutHanging_56 : decode b_Reckoner_workOutHanging 56 = .ok (.iload 4, 2) := by decide +kernel
theorem d_Reckoner_workOutHanging_58 : decode b_Reckoner_workOutHanging 58 = .ok (.ireturn, 1) := by decide +kernel
def F_Reckoner_changeOption_54  (x1 : Int32) (x8 : Int64) (x10 : Int64) (o0 : Ob) : Option (Bool × Ob) :=
  chk (inb x1 8) (some (true, (s64 (s64 o0 0 (Int32.toNatClampNeg x1) x8) 1 (Int32.toNatClampNeg x1) x10)))
def F_Reckoner_changeOption (x1 : Int32) (x2 : Int64) (x4 : Int64) (o0 : Ob) : Option (Bool × Ob) :=
  bind1 (F_PF_commonDivisor x2 x4) (fun v2 => if 0 ≤ (lg_cmp v2 (1 : Int64)) then (chk (decide (¬ v2 = 0)) (chk (inb x1 8) (if (lg_cmp (g64 o0 0 (Int32.toNatClampNeg x1)) (x2 / v2)) = 0 then (if (lg_cmp (g64 o0 1 (Int32.toNatClampNeg x1)) (x4 / v2)) = 0 then (some (false, (s64 (s64 o0 0 (Int32.toNatClampNeg x1) (x2 / v2)) 1 (Int32.toNatClampNeg x1) (x4 / v2)))) else (F_Reckoner_changeOption_54 x1 (x2 / v2) (x4 / v2) o0)) else (F_Reckoner_changeOption_54 x1 (x2 / v2) (x4 / v2) o0)))) else (some (false, o0)))
abbrev ws_Reckoner_changeOption : List Cond := Cond.code y_Reckoner_changeOption b_Reckoner_changeOption 13 (some .boolean) :: wsAll
abbrev rm_Reckoner_changeOption : Room := { frames := 1, cells := 0, slots := 0, locals := 30 }
set_option maxHeartbeats 4000000 in
set_option maxRecDepth 100000 in
theorem k_Reckoner_changeOption_54 {p : Program} {l : Launch} {e : Env} {s : State} {m : MethodId} {args : Array Value} {below : List Frame} {meth : Method} {c : Code} {A : Nat → Prop} {ct dC : Nat → ClassId} {dI : Nat → Nat → Nat} {a0 : Nat → Nat}  {r : Bool} {n0 : Ob}   (C0 : cx wsAll vwCl nx p s m args meth c (dC, dI) (tyA ct) b_Reckoner_changeOption 13 (some .boolean) R_Reckoner A [adReckoner a0])  : ∀ (x1 : Int32) (x8 : Int64) (x10 : Int64) (o0 : Ob) (H : Heap) (locs : List Loc) (ls : Array Slot), bw_P (dC, dI) vwCl [wReckoner ct a0 o0] H → va_S A s.heap H locs → lv_has ls 13 [(0, .ref (a0 0)), (1, .int x1), (8, .long x8), (10, .long x10)] → F_Reckoner_changeOption_54 x1 x8 x10 o0 = some (r, n0) → W p l e (headSpec ws_Reckoner_changeOption rm_Reckoner_changeOption).room s m args below meth c H locs 0 0 (MQ below (bw_Q (dC, dI) vwCl (some (.int (b2i r))) [wReckoner ct a0 n0] A) args s 0 0 A) (F0 m 54 ls []) := by
  obtain ⟨hx, hb, hr, hml, hown, hlocks, hts, hK, hN, hA, hnx⟩ := id C0
  intro x1 x8 x10 o0 H locs ls hP hS hl h
  rw [F_Reckoner_changeOption_54] at h
  refine lv_iconst (v := 1) hx hb d_Reckoner_changeOption_54 (by decide) ?_
  refine lv_goto (tgt := 59) hx hb d_Reckoner_changeOption_55 (by decide) ?_
  refine lv_istore (lv' := [(12, .int (1 : Int32)), (0, .ref (a0 0)), (1, .int x1), (8, .long x8), (10, .long x10)]) hx hb d_Reckoner_changeOption_59 hl (by decide) rfl (fun ls hl => ?_)
  refine lv_aload_n hx hb d_Reckoner_changeOption_61 rfl (lv_at hl 1 rfl) ?_
  refine va_get (D := (dC, dI)) (ci := 4) (v := .ref (a0 1)) (C := R_Reckoner) (T := T_Reckoner) (N := 6) hx hb hts in_Reckoner hown hK (hP 0 _ rfl) 0 rfl rfl 0 (by decide) (hts _ fl_Reckoner_9) (fun _ h9 => h9) rfl d_Reckoner_changeOption_62 ?_
  refine lv_iload_n hx hb d_Reckoner_changeOption_65 rfl (lv_at hl 2 rfl) ?_
  refine lv_lload hx hb d_Reckoner_changeOption_66 (lv_at hl 3 rfl) ?_
  obtain ⟨hi12, h⟩ := chk_some h
  refine st_Reckoner_0 hx hb hK hP hN hS 0 rfl (inb_in hi12) d_Reckoner_changeOption_68 (fun H locs hP hS => ?_)
  have hP : bw_P (dC, dI) vwCl [wReckoner ct a0 (s64 o0 0 (Int32.toNatClampNeg x1) x8)] H := hP
  refine lv_aload_n hx hb d_Reckoner_changeOption_69 rfl (lv_at hl 1 rfl) ?_
  refine va_get (D := (dC, dI)) (ci := 4) (v := .ref (a0 2)) (C := R_Reckoner) (T := T_Reckoner) (N := 6) hx hb hts in_Reckoner hown hK (hP 0 _ rfl) 0 rfl rfl 1 (by decide) (hts _ fl_Reckoner_15) (fun _ h9 => h9) rfl d_Reckoner_changeOption_70 ?_
  refine lv_iload_n hx hb d_Reckoner_changeOption_73 rfl (lv_at hl 2 rfl) ?_
  refine lv_lload hx hb d_Reckoner_changeOption_74 (lv_at hl 4 rfl) ?_
  refine st_Reckoner_1 hx hb hK hP hN hS 0 rfl (inb_in hi12) d_Reckoner_changeOption_76 (fun H locs hP hS => ?_)
  have hP : bw_P (dC, dI) vwCl [wReckoner ct a0 (s64 (s64 o0 0 (Int32.toNatClampNeg x1) x8) 1 (Int32.toNatClampNeg x1) x10)] H := hP
  refine lv_iload hx hb d_Reckoner_changeOption_77 (lv_at hl 0 rfl) ?_
  obtain ⟨rfl, rfl⟩ := res2 h
  exact W.zret hx hb hr rfl (fun t ht hW => ⟨rfl, by rw [ht]; exact hP, hS.F ht⟩) hS.2.2 d_Reckoner_changeOption_79
set_option maxHeartbeats 4000000 in
set_option maxRecDepth 100000 in
theorem c_Reckoner_changeOption (l : Launch) (ct dC : Nat → ClassId) (dI : Nat → Nat → Nat) (a0 : Nat → Nat)  (sz : Nat) (x1 : Int32) (x2 : Int64) (x4 : Int64) (o0 : Ob) (r : Bool) (n0 : Ob) (hF : F_Reckoner_changeOption x1 x2 x4 o0 = some (r, n0)) : Met l y_Reckoner_changeOption ws_Reckoner_changeOption rm_Reckoner_changeOption (bw_Pc [.ref (a0 0), .int x1, .long x2, .long x4] (dC, dI) vwCl (tyA ct) [wReckoner ct a0 o0] sz nx) (bw_Q (dC, dI) vwCl (some (.int (b2i r))) [wReckoner ct a0 n0] (bw_A [adReckoner a0] sz)) 0 0 (bw_A [adReckoner a0] sz) := by
  refine Met.ofW (cc := b_Reckoner_changeOption) (maxL := 13) (ret := (some .boolean)) (by decide) rfl ?_
  intro p e s m args below meth c s₁ B hml hv
  obtain ⟨rfl, hsz, hP, hK, hN0, hnx⟩ := hv
  have hx := B.exec
  have hb := B.bytes
  have hr := B.returns
  have hts : ∀ w ∈ wsAll, w.before [.ref (a0 0), .int x1, .long x2, .long x4].toArray s = true := fun w h9 => atoms_spec (ws := ws_Reckoner_changeOption) B.pre w (List.mem_cons_of_mem _ h9)
  have hown : s.vm.findClass R_Reckoner = some m.cls := findClass_of_methodNamed B.named
  have hlocks := B.notSynchronized
  subst hsz
  have hN : bw_N (bw_A [adReckoner a0] s.heap.size) [adReckoner a0] := hN0.self s.heap.size
  generalize hAe : bw_A [adReckoner a0] s.heap.size = A at hN ⊢
  have hA : ∀ q : Nat, s.heap.size ≤ q → A q := fun q h => by rw [← hAe]; exact Or.inr h
  have hS : va_S A s.heap s.heap [] := va_S.rf
  have hl := lv_entry ([.ref (a0 0), .int x1, .long x2, .long x4]) (n := 13) (Nat.le_of_ble_eq_true rfl)
  rw [lg_entry_eq]
  generalize (lg_sl ([.ref (a0 0), .int x1, .long x2, .long x4]) ++ List.replicate (13 - (lg_sl ([.ref (a0 0), .int x1, .long x2, .long x4])).length) Slot.unset).toArray = ls at hl ⊢
  have hl : lv_has ls 13 [(0, .ref (a0 0)), (1, .int x1), (2, .long x2), (4, .long x4)] := hl
  have C0 : cx wsAll vwCl nx p s m [.ref (a0 0), .int x1, .long x2, .long x4].toArray meth c (dC, dI) (tyA ct) b_Reckoner_changeOption 13 (some .boolean) R_Reckoner A [adReckoner a0] := ⟨hx, hb, hr, hml, hown, hlocks, hts, hK, hN, hA, hnx⟩
  have h := hF
  rw [F_Reckoner_changeOption] at h
  refine lv_lload_n hx hb d_Reckoner_changeOption_0 rfl (lv_at hl 2 rfl) ?_
  refine lv_lload hx hb d_Reckoner_changeOption_1 (lv_at hl 3 rfl) ?_
  obtain ⟨v2, hG1, h⟩ := bind1_some h
  refine bw_callR (va_runSN (As := [.long x2, .long x4]) (rest := []) ⟨hx, hb, hml, hown, hts⟩ (c_PF_commonDivisor l ct dC dI _ x2 x4 v2 hG1) (⟨va_cnB 2 hts (gd_C cd_PF_commonDivisor) rfl rfl rfl hnx.2.2.2.2.2 (hts _ ini_PF) (by decide +kernel) ⟨Nat.le_of_ble_eq_true rfl, Nat.le_of_ble_eq_true rfl⟩, hts _ st_PF_commonDivisor, trivial⟩) ⟨bw_blind nx_call, fun U hU hW => ⟨rfl, by rw [hU], by rw [hU]; exact hP.sub [] rfl, va_K.moved hW.alike hK, (hN.sub [] (by decide) rfl).weaken (fun _ _ => trivial), nx_warm hW hnx⟩⟩ rfl rfl hl.1 rfl (Nat.le_of_ble_eq_true rfl) d_Reckoner_changeOption_3 ⟨Nat.le_of_ble_eq_true rfl, Nat.le_of_ble_eq_true rfl⟩) ?_
  refine lv_lstore (lv' := [(6, .long v2), (0, .ref (a0 0)), (1, .int x1), (2, .long x2), (4, .long x4)]) hx hb d_Reckoner_changeOption_6 hl (by decide) rfl (fun ls hl => ?_)
  refine lv_lload hx hb d_Reckoner_changeOption_8 (lv_at hl 0 rfl) ?_
  refine lv_lconst (v := 1) hx hb d_Reckoner_changeOption_10 (by decide) ?_
  refine W.lcmp hx hb d_Reckoner_changeOption_11 ?_
  refine lv_if_ge (tgt := 17) hx hb d_Reckoner_changeOption_12 (by decide) (fun c3 => ?_) (fun c3 => ?_)
  · have h := ite_t c3 h
    refine lv_lload_n hx hb d_Reckoner_changeOption_17 rfl (lv_at hl 3 rfl) ?_
    refine lv_lload hx hb d_Reckoner_changeOption_18 (lv_at hl 0 rfl) ?_
    obtain ⟨hz4, h⟩ := chk_some h
    refine lv_ldiv hx hb d_Reckoner_changeOption_20 (of_decide_eq_true hz4) ?_
    refine lv_lstore (lv' := [(8, .long (x2 / v2)), (6, .long v2), (0, .ref (a0 0)), (1, .int x1), (2, .long x2), (4, .long x4)]) hx hb d_Reckoner_changeOption_21 hl (by decide) rfl (fun ls hl => ?_)
    refine lv_lload hx hb d_Reckoner_changeOption_23 (lv_at hl 5 rfl) ?_
    refine lv_lload hx hb d_Reckoner_changeOption_25 (lv_at hl 1 rfl) ?_
    refine lv_ldiv hx hb d_Reckoner_changeOption_27 (of_decide_eq_true hz4) ?_
    refine lv_lstore (lv' := [(10, .long (x4 / v2)), (8, .long (x2 / v2)), (6, .long v2), (0, .ref (a0 0)), (1, .int x1), (2, .long x2), (4, .long x4)]) hx hb d_Reckoner_changeOption_28 hl (by decide) rfl (fun ls hl => ?_)
    refine lv_aload_n hx hb d_Reckoner_changeOption_30 rfl (lv_at hl 3 rfl) ?_
    refine va_get (D := (dC, dI)) (ci := 4) (v := .ref (a0 1)) (C := R_Reckoner) (T := T_Reckoner) (N := 6) hx hb hts in_Reckoner hown hK (hP 0 _ rfl) 0 rfl rfl 0 (by decide) (hts _ fl_Reckoner_9) (fun _ h9 => h9) rfl d_Reckoner_changeOption_31 ?_
    refine lv_iload_n hx hb d_Reckoner_changeOption_34 rfl (lv_at hl 4 rfl) ?_
    obtain ⟨hi6, h⟩ := chk_some h
    refine va_lald (f := g64 o0 0) hx hb hK (hP 0 _ rfl) 1 1 rfl rfl (inb_in hi6) d_Reckoner_changeOption_35 ?_
    refine lv_lload hx hb d_Reckoner_changeOption_36 (lv_at hl 1 rfl) ?_
    refine W.lcmp hx hb d_Reckoner_changeOption_38 ?_
    refine lv_if_ne (tgt := 54) hx hb d_Reckoner_changeOption_39 (by decide) (fun c7 => ?_) (fun c7 => ?_)
    · have h := ite_f c7 h
      exact k_Reckoner_changeOption_54 C0 x1 (x2 / v2) (x4 / v2) o0 _ _ _ hP hS (lv_sub hl [3, 4, 1, 0] rfl) h
    · have h := ite_t c7 h
      refine lv_aload_n hx hb d_Reckoner_changeOption_42 rfl (lv_at hl 3 rfl) ?_
      refine va_get (D := (dC, dI)) (ci := 4) (v := .ref (a0 2)) (C := R_Reckoner) (T := T_Reckoner) (N := 6) hx hb hts in_Reckoner hown hK (hP 0 _ rfl) 0 rfl rfl 1 (by decide) (hts _ fl_Reckoner_15) (fun _ h9 => h9) rfl d_Reckoner_changeOption_43 ?_
      refine lv_iload_n hx hb d_Reckoner_changeOption_46 rfl (lv_at hl 4 rfl) ?_
      refine va_lald (f := g64 o0 1) hx hb hK (hP 0 _ rfl) 2 1 rfl rfl (inb_in hi6) d_Reckoner_changeOption_47 ?_
      refine lv_lload hx hb d_Reckoner_changeOption_48 (lv_at hl 0 rfl) ?_
      refine W.lcmp hx hb d_Reckoner_changeOption_50 ?_
      refine lv_if_eq (tgt := 58) hx hb d_Reckoner_changeOption_51 (by decide) (fun c9 => ?_) (fun c9 => ?_)
      · have h := ite_t c9 h
        refine lv_iconst (v := 0) hx hb d_Reckoner_changeOption_58 (by decide) ?_
        refine lv_istore (lv' := [(12, .int (0 : Int32)), (10, .long (x4 / v2)), (8, .long (x2 / v2)), (6, .long v2), (0, .ref (a0 0)), (1, .int x1), (2, .long x2), (4, .long x4)]) hx hb d_Reckoner_changeOption_59 hl (by decide) rfl (fun ls hl => ?_)
        refine lv_aload_n hx hb d_Reckoner_changeOption_61 rfl (lv_at hl 4 rfl) ?_
        refine va_get (D := (dC, dI)) (ci := 4) (v := .ref (a0 1)) (C := R_Reckoner) (T := T_Reckoner) (N := 6) hx hb hts in_Reckoner hown hK (hP 0 _ rfl) 0 rfl rfl 0 (by decide) (hts _ fl_Reckoner_9) (fun _ h9 => h9) rfl d_Reckoner_changeOption_62 ?_
        refine lv_iload_n hx hb d_Reckoner_changeOption_65 rfl (lv_at hl 5 rfl) ?_
        refine lv_lload hx hb d_Reckoner_changeOption_66 (lv_at hl 2 rfl) ?_
        refine st_Reckoner_0 hx hb hK hP hN hS 0 rfl (inb_in hi6) d_Reckoner_changeOption_68 (fun H locs hP hS => ?_)
        have hP : bw_P (dC, dI) vwCl [wReckoner ct a0 (s64 o0 0 (Int32.toNatClampNeg x1) (x2 / v2))] H := hP
        refine lv_aload_n hx hb d_Reckoner_changeOption_69 rfl (lv_at hl 4 rfl) ?_
        refine va_get (D := (dC, dI)) (ci := 4) (v := .ref (a0 2)) (C := R_Reckoner) (T := T_Reckoner) (N := 6) hx hb hts in_Reckoner hown hK (hP 0 _ rfl) 0 rfl rfl 1 (by decide) (hts _ fl_Reckoner_15) (fun _ h9 => h9) rfl d_Reckoner_changeOption_70 ?_
        refine lv_iload_n hx hb d_Reckoner_changeOption_73 rfl (lv_at hl 5 rfl) ?_
        refine lv_lload hx hb d_Reckoner_changeOption_74 (lv_at hl 1 rfl) ?_
        refine st_Reckoner_1 hx hb hK hP hN hS 0 rfl (inb_in hi6) d_Reckoner_changeOption_76 (fun H locs hP hS => ?_)
        have hP : bw_P (dC, dI) vwCl [wReckoner ct a0 (s64 (s64 o0 0 (Int32.toNatClampNeg x1) (x2 / v2)) 1 (Int32.toNatClampNeg x1) (x4 / v2))] H := hP
        refine lv_iload hx hb d_Reckoner_changeOption_77 (lv_at hl 0 rfl) ?_
        obtain ⟨rfl, rfl⟩ := res2 h
        exact W.zret hx hb hr rfl (fun t ht hW => ⟨rfl, by rw [ht]; exact hP, hS.F ht⟩) hS.2.2 d_Reckoner_changeOption_79
      · have h := ite_f c9 h
        exact k_Reckoner_changeOption_54 C0 x1 (x2 / v2) (x4 / v2) o0 _ _ _ hP hS (lv_sub hl [3, 4, 1, 0] rfl) h
  · have h := ite_f c3 h
    refine lv_iconst (v := 0) hx hb d_Reckoner_changeOption_15 (by decide) ?_
    obtain ⟨rfl, rfl⟩ := res2 h
    exact W.zret hx hb hr rfl (fun t ht hW => ⟨rfl, by rw [ht]; exact hP, hS.F ht⟩) hS.2.2 d_Reckoner_changeOption_16
def F_Reckoner_push (x1 : Int64) (x3 : Int64) (o0 : Ob) : Option (Ob) :=
  if (19 : Int32) ≤ (g32 o0 4 0) then (some o0) else (chk (inb (g32 o0 4 0) 19) (some (s32 (s64 (s64 o0 2 (Int32.toNatClampNeg (g32 o0 4 0)) x1) 3 (Int32.toNatClampNeg (g32 o0 4 0)) x3) 4 0 ((g32 o0 4 0) + (1 : Int32)))))
abbrev ws_Reckoner_push : List Cond := Cond.code y_Reckoner_push b_Reckoner_push 5 (none : Option Jvm.ClassFile.FieldType) :: wsAll
abbrev rm_Reckoner_push : Room := { frames := 0, cells := 0, slots := 0, locals := 0 }
set_option maxHeartbeats 4000000 in
set_option maxRecDepth 100000 in
theorem c_Reckoner_push (l : Launch) (ct dC : Nat → ClassId) (dI : Nat → Nat → Nat) (a0 : Nat → Nat)  (sz : Nat) (x1 : Int64) (x3 : Int64) (o0 : Ob) (n0 : Ob) (hF : F_Reckoner_push x1 x3 o0 = some n0) : Met l y_Reckoner_push ws_Reckoner_push rm_Reckoner_push (bw_Pc [.ref (a0 0), .long x1, .long x3] (dC, dI) vwCl (tyA ct) [wReckoner ct a0 o0] sz nx) (bw_Q (dC, dI) vwCl none [wReckoner ct a0 n0] (bw_A [adReckoner a0] sz)) 0 0 (bw_A [adReckoner a0] sz) := by
  refine Met.ofW (cc := b_Reckoner_push) (maxL := 5) (ret := (none : Option Jvm.ClassFile.FieldType)) (by decide) rfl ?_
  intro p e s m args below meth c s₁ B hml hv
  obtain ⟨rfl, hsz, hP, hK, hN0, hnx⟩ := hv
  have hx := B.exec
  have hb := B.bytes
  have hr := B.returns
  have hts : ∀ w ∈ wsAll, w.before [.ref (a0 0), .long x1, .long x3].toArray s = true := fun w h9 => atoms_spec (ws := ws_Reckoner_push) B.pre w (List.mem_cons_of_mem _ h9)
  have hown : s.vm.findClass R_Reckoner = some m.cls := findClass_of_methodNamed B.named
  have hlocks := B.notSynchronized
  subst hsz
  have hN : bw_N (bw_A [adReckoner a0] s.heap.size) [adReckoner a0] := hN0.self s.heap.size
  generalize hAe : bw_A [adReckoner a0] s.heap.size = A at hN ⊢
  have hA : ∀ q : Nat, s.heap.size ≤ q → A q := fun q h => by rw [← hAe]; exact Or.inr h
  have hS : va_S A s.heap s.heap [] := va_S.rf
  have hl := lv_entry ([.ref (a0 0), .long x1, .long x3]) (n := 5) (Nat.le_of_ble_eq_true rfl)
  rw [lg_entry_eq]
  generalize (lg_sl ([.ref (a0 0), .long x1, .long x3]) ++ List.replicate (5 - (lg_sl ([.ref (a0 0), .long x1, .long x3])).length) Slot.unset).toArray = ls at hl ⊢
  have hl : lv_has ls 5 [(0, .ref (a0 0)), (1, .long x1), (3, .long x3)] := hl
  have C0 : cx wsAll vwCl nx p s m [.ref (a0 0), .long x1, .long x3].toArray meth c (dC, dI) (tyA ct) b_Reckoner_push 5 (none : Option Jvm.ClassFile.FieldType) R_Reckoner A [adReckoner a0] := ⟨hx, hb, hr, hml, hown, hlocks, hts, hK, hN, hA, hnx⟩
  have h := hF
  rw [F_Reckoner_push] at h
  refine lv_aload_n hx hb d_Reckoner_push_0 rfl (lv_at hl 0 rfl) ?_
  refine va_get (D := (dC, dI)) (ci := 4) (v := .int (g32 o0 4 0)) (C := R_Reckoner) (T := T_Reckoner) (N := 6) hx hb hts in_Reckoner hown hK (hP 0 _ rfl) 0 rfl rfl 4 (by decide) (hts _ fl_Reckoner_24) (fun _ h9 => h9) rfl d_Reckoner_push_1 ?_
  refine lv_bipush (v := 19) hx hb d_Reckoner_push_4 (by decide) ?_
  refine lv_icmp_ge (tgt := 39) hx hb d_Reckoner_push_6 (by decide) (fun c1 => ?_) (fun c1 => ?_)
  · have h := ite_t c1 h
    obtain rfl := res1 h
    exact W.vret hx hb hr (fun t ht hW => ⟨rfl, by rw [ht]; exact hP, hS.F ht⟩) hS.2.2 d_Reckoner_push_39
  · have h := ite_f c1 h
    refine lv_aload_n hx hb d_Reckoner_push_9 rfl (lv_at hl 0 rfl) ?_
    refine va_get (D := (dC, dI)) (ci := 4) (v := .ref (a0 3)) (C := R_Reckoner) (T := T_Reckoner) (N := 6) hx hb hts in_Reckoner hown hK (hP 0 _ rfl) 0 rfl rfl 2 (by decide) (hts _ fl_Reckoner_18) (fun _ h9 => h9) rfl d_Reckoner_push_10 ?_
    refine lv_aload_n hx hb d_Reckoner_push_13 rfl (lv_at hl 0 rfl) ?_
    refine va_get (D := (dC, dI)) (ci := 4) (v := .int (g32 o0 4 0)) (C := R_Reckoner) (T := T_Reckoner) (N := 6) hx hb hts in_Reckoner hown hK (hP 0 _ rfl) 0 rfl rfl 4 (by decide) (hts _ fl_Reckoner_24) (fun _ h9 => h9) rfl d_Reckoner_push_14 ?_
    refine lv_lload_n hx hb d_Reckoner_push_17 rfl (lv_at hl 1 rfl) ?_
    obtain ⟨hi2, h⟩ := chk_some h
    refine st_Reckoner_2 hx hb hK hP hN hS 0 rfl (inb_in hi2) d_Reckoner_push_18 (fun H locs hP hS => ?_)
    have hP : bw_P (dC, dI) vwCl [wReckoner ct a0 (s64 o0 2 (Int32.toNatClampNeg (g32 o0 4 0)) x1)] H := hP
    refine lv_aload_n hx hb d_Reckoner_push_19 rfl (lv_at hl 0 rfl) ?_
    refine va_get (D := (dC, dI)) (ci := 4) (v := .ref (a0 4)) (C := R_Reckoner) (T := T_Reckoner) (N := 6) hx hb hts in_Reckoner hown hK (hP 0 _ rfl) 0 rfl rfl 3 (by decide) (hts _ fl_Reckoner_21) (fun _ h9 => h9) rfl d_Reckoner_push_20 ?_
    refine lv_aload_n hx hb d_Reckoner_push_23 rfl (lv_at hl 0 rfl) ?_
    refine va_get (D := (dC, dI)) (ci := 4) (v := .int (g32 o0 4 0)) (C := R_Reckoner) (T := T_Reckoner) (N := 6) hx hb hts in_Reckoner hown hK (hP 0 _ rfl) 0 rfl rfl 4 (by decide) (hts _ fl_Reckoner_24) (fun _ h9 => h9) rfl d_Reckoner_push_24 ?_
    refine lv_lload_n hx hb d_Reckoner_push_27 rfl (lv_at hl 2 rfl) ?_
    refine st_Reckoner_3 hx hb hK hP hN hS 0 rfl (inb_in hi2) d_Reckoner_push_28 (fun H locs hP hS => ?_)
    have hP : bw_P (dC, dI) vwCl [wReckoner ct a0 (s64 (s64 o0 2 (Int32.toNatClampNeg (g32 o0 4 0)) x1) 3 (Int32.toNatClampNeg (g32 o0 4 0)) x3)] H := hP
    refine lv_aload_n hx hb d_Reckoner_push_29 rfl (lv_at hl 0 rfl) ?_
    refine lv_dup hx hb d_Reckoner_push_30 rfl ?_
    refine va_get (D := (dC, dI)) (ci := 4) (v := .int (g32 o0 4 0)) (C := R_Reckoner) (T := T_Reckoner) (N := 6) hx hb hts in_Reckoner hown hK (hP 0 _ rfl) 0 rfl rfl 4 (by decide) (hts _ fl_Reckoner_24) (fun _ h9 => h9) rfl d_Reckoner_push_31 ?_
    refine lv_iconst (v := 1) hx hb d_Reckoner_push_34 (by decide) ?_
    refine lv_iadd hx hb d_Reckoner_push_35 ?_
    refine pt_Reckoner_4 hx hb hts hown hK hP hN hS 0 rfl (hts _ fl_Reckoner_24) d_Reckoner_push_36 (fun H locs hP hS => ?_)
    have hP : bw_P (dC, dI) vwCl [wReckoner ct a0 (s32 (s64 (s64 o0 2 (Int32.toNatClampNeg (g32 o0 4 0)) x1) 3 (Int32.toNatClampNeg (g32 o0 4 0)) x3) 4 0 ((g32 o0 4 0) + (1 : Int32)))] H := hP
    obtain rfl := res1 h
    exact W.vret hx hb hr (fun t ht hW => ⟨rfl, by rw [ht]; exact hP, hS.F ht⟩) hS.2.2 d_Reckoner_push_39
theorem g_Reckoner_128 : GoodIn wsAll (wsV R_Reckoner 128 R_Reckoner y_Reckoner_push ws_Reckoner_push) := gd_V ml_Reckoner_128 im_Reckoner_push se_Reckoner_push ini_Reckoner cd_Reckoner_push
def F_Reckoner_settle (x1 : Int64) (x3 : Int64) (o0 : Ob) : Option (Ob) :=
  bind1 (F_PF_commonDivisor x1 x3) (fun v2 => if 0 ≤ (lg_cmp v2 (1 : Int64)) then (chk (decide (¬ v2 = 0)) (if 0 < (lg_cmp (x1 / v2) (1000000000 : Int64)) then (some (s32 o0 5 0 (3 : Int32))) else (if (lg_cmp (x1 / v2) (-1000000000 : Int64)) < 0 then (some (s32 o0 5 0 (3 : Int32))) else (if (lg_cmp (x3 / v2) (1000000000 : Int64)) ≤ 0 then (bind1 (F_Reckoner_push (x1 / v2) (x3 / v2) o0) (fun o_10 => some o_10)) else (some (s32 o0 5 0 (3 : Int32))))))) else (some o0))
abbrev ws_Reckoner_settle : List Cond := Cond.code y_Reckoner_settle b_Reckoner_settle 11 (none : Option Jvm.ClassFile.FieldType) :: wsAll
abbrev rm_Reckoner_settle : Room := { frames := 1, cells := 0, slots := 0, locals := 30 }
set_option maxHeartbeats 4000000 in
set_option maxRecDepth 100000 in
theorem c_Reckoner_settle (l : Launch) (ct dC : Nat → ClassId) (dI : Nat → Nat → Nat) (a0 : Nat → Nat)  (sz : Nat) (x1 : Int64) (x3 : Int64) (o0 : Ob) (n0 : Ob) (hF : F_Reckoner_settle x1 x3 o0 = some n0) : Met l y_Reckoner_settle ws_Reckoner_settle rm_Reckoner_settle (bw_Pc [.ref (a0 0), .long x1, .long x3] (dC, dI) vwCl (tyA ct) [wReckoner ct a0 o0] sz nx) (bw_Q (dC, dI) vwCl none [wReckoner ct a0 n0] (bw_A [adReckoner a0] sz)) 0 0 (bw_A [adReckoner a0] sz) := by
  refine Met.ofW (cc := b_Reckoner_settle) (maxL := 11) (ret := (none : Option Jvm.ClassFile.FieldType)) (by decide) rfl ?_
  intro p e s m args below meth c s₁ B hml hv
  obtain ⟨rfl, hsz, hP, hK, hN0, hnx⟩ := hv
  have hx := B.exec
  have hb := B.bytes
  have hr := B.returns
  have hts : ∀ w ∈ wsAll, w.before [.ref (a0 0), .long x1, .long x3].toArray s = true := fun w h9 => atoms_spec (ws := ws_Reckoner_settle) B.pre w (List.mem_cons_of_mem _ h9)
  have hown : s.vm.findClass R_Reckoner = some m.cls := findClass_of_methodNamed B.named
  have hlocks := B.notSynchronized
  subst hsz
  have hN : bw_N (bw_A [adReckoner a0] s.heap.size) [adReckoner a0] := hN0.self s.heap.size
  generalize hAe : bw_A [adReckoner a0] s.heap.size = A at hN ⊢
  have hA : ∀ q : Nat, s.heap.size ≤ q → A q := fun q h => by rw [← hAe]; exact Or.inr h
  have hS : va_S A s.heap s.heap [] := va_S.rf
  have hl := lv_entry ([.ref (a0 0), .long x1, .long x3]) (n := 11) (Nat.le_of_ble_eq_true rfl)
  rw [lg_entry_eq]
  generalize (lg_sl ([.ref (a0 0), .long x1, .long x3]) ++ List.replicate (11 - (lg_sl ([.ref (a0 0), .long x1, .long x3])).length) Slot.unset).toArray = ls at hl ⊢
  have hl : lv_has ls 11 [(0, .ref (a0 0)), (1, .long x1), (3, .long x3)] := hl
  have C0 : cx wsAll vwCl nx p s m [.ref (a0 0), .long x1, .long x3].toArray meth c (dC, dI) (tyA ct) b_Reckoner_settle 11 (none : Option Jvm.ClassFile.FieldType) R_Reckoner A [adReckoner a0] := ⟨hx, hb, hr, hml, hown, hlocks, hts, hK, hN, hA, hnx⟩
  have h := hF
  rw [F_Reckoner_settle] at h
  refine lv_lload_n hx hb d_Reckoner_settle_0 rfl (lv_at hl 1 rfl) ?_
  refine lv_lload_n hx hb d_Reckoner_settle_1 rfl (lv_at hl 2 rfl) ?_
  obtain ⟨v2, hG1, h⟩ := bind1_some h
  refine bw_callR (va_runSN (As := [.long x1, .long x3]) (rest := []) ⟨hx, hb, hml, hown, hts⟩ (c_PF_commonDivisor l ct dC dI _ x1 x3 v2 hG1) (⟨va_cnB 2 hts (gd_C cd_PF_commonDivisor) rfl rfl rfl hnx.2.2.2.2.2 (hts _ ini_PF) (by decide +kernel) ⟨Nat.le_of_ble_eq_true rfl, Nat.le_of_ble_eq_true rfl⟩, hts _ st_PF_commonDivisor, trivial⟩) ⟨bw_blind nx_call, fun U hU hW => ⟨rfl, by rw [hU], by rw [hU]; exact hP.sub [] rfl, va_K.moved hW.alike hK, (hN.sub [] (by decide) rfl).weaken (fun _ _ => trivial), nx_warm hW hnx⟩⟩ rfl rfl hl.1 rfl (Nat.le_of_ble_eq_true rfl) d_Reckoner_settle_2 ⟨Nat.le_of_ble_eq_true rfl, Nat.le_of_ble_eq_true rfl⟩) ?_
  refine lv_lstore (lv' := [(5, .long v2), (0, .ref (a0 0)), (1, .long x1), (3, .long x3)]) hx hb d_Reckoner_settle_5 hl (by decide) rfl (fun ls hl => ?_)
  refine lv_lload hx hb d_Reckoner_settle_7 (lv_at hl 0 rfl) ?_
  refine lv_lconst (v := 1) hx hb d_Reckoner_settle_9 (by decide) ?_
  refine W.lcmp hx hb d_Reckoner_settle_10 ?_
  refine lv_if_ge (tgt := 15) hx hb d_Reckoner_settle_11 (by decide) (fun c3 => ?_) (fun c3 => ?_)
  · have h := ite_t c3 h
    refine lv_lload_n hx hb d_Reckoner_settle_15 rfl (lv_at hl 2 rfl) ?_
    refine lv_lload hx hb d_Reckoner_settle_16 (lv_at hl 0 rfl) ?_
    obtain ⟨hz4, h⟩ := chk_some h
    refine lv_ldiv hx hb d_Reckoner_settle_18 (of_decide_eq_true hz4) ?_
    refine lv_lstore (lv' := [(7, .long (x1 / v2)), (5, .long v2), (0, .ref (a0 0)), (1, .long x1), (3, .long x3)]) hx hb d_Reckoner_settle_19 hl (by decide) rfl (fun ls hl => ?_)
    refine lv_lload_n hx hb d_Reckoner_settle_21 rfl (lv_at hl 4 rfl) ?_
    refine lv_lload hx hb d_Reckoner_settle_22 (lv_at hl 1 rfl) ?_
    refine lv_ldiv hx hb d_Reckoner_settle_24 (of_decide_eq_true hz4) ?_
    refine lv_lstore (lv' := [(9, .long (x3 / v2)), (7, .long (x1 / v2)), (5, .long v2), (0, .ref (a0 0)), (1, .long x1), (3, .long x3)]) hx hb d_Reckoner_settle_25 hl (by decide) rfl (fun ls hl => ?_)
    refine lv_lload hx hb d_Reckoner_settle_27 (lv_at hl 1 rfl) ?_
    refine lv_ldc2 (v := 1000000000) hx hb hown (hts _ cn_Reckoner_147) d_Reckoner_settle_29 ?_
    refine W.lcmp hx hb d_Reckoner_settle_32 ?_
    refine lv_if_gt (tgt := 54) hx hb d_Reckoner_settle_33 (by decide) (fun c6 => ?_) (fun c6 => ?_)
    · have h := ite_t c6 h
      refine lv_aload_n hx hb d_Reckoner_settle_54 rfl (lv_at hl 3 rfl) ?_
      refine lv_iconst (v := 3) hx hb d_Reckoner_settle_55 (by decide) ?_
      refine pt_Reckoner_5 hx hb hts hown hK hP hN hS 0 rfl (hts _ fl_Reckoner_28) d_Reckoner_settle_56 (fun H locs hP hS => ?_)
      have hP : bw_P (dC, dI) vwCl [wReckoner ct a0 (s32 o0 5 0 (3 : Int32))] H := hP
      refine lv_goto (tgt := 70) hx hb d_Reckoner_settle_59 (by decide) ?_
      obtain rfl := res1 h
      exact W.vret hx hb hr (fun t ht hW => ⟨rfl, by rw [ht]; exact hP, hS.F ht⟩) hS.2.2 d_Reckoner_settle_70
    · have h := ite_f c6 h
      refine lv_lload hx hb d_Reckoner_settle_36 (lv_at hl 1 rfl) ?_
      refine lv_ldc2 (v := -1000000000) hx hb hown (hts _ cn_Reckoner_149) d_Reckoner_settle_38 ?_
      refine W.lcmp hx hb d_Reckoner_settle_41 ?_
      refine lv_if_lt (tgt := 54) hx hb d_Reckoner_settle_42 (by decide) (fun c7 => ?_) (fun c7 => ?_)
      · have h := ite_t c7 h
        refine lv_aload_n hx hb d_Reckoner_settle_54 rfl (lv_at hl 3 rfl) ?_
        refine lv_iconst (v := 3) hx hb d_Reckoner_settle_55 (by decide) ?_
        refine pt_Reckoner_5 hx hb hts hown hK hP hN hS 0 rfl (hts _ fl_Reckoner_28) d_Reckoner_settle_56 (fun H locs hP hS => ?_)
        have hP : bw_P (dC, dI) vwCl [wReckoner ct a0 (s32 o0 5 0 (3 : Int32))] H := hP
        refine lv_goto (tgt := 70) hx hb d_Reckoner_settle_59 (by decide) ?_
        obtain rfl := res1 h
        exact W.vret hx hb hr (fun t ht hW => ⟨rfl, by rw [ht]; exact hP, hS.F ht⟩) hS.2.2 d_Reckoner_settle_70
      · have h := ite_f c7 h
        refine lv_lload hx hb d_Reckoner_settle_45 (lv_at hl 0 rfl) ?_
        refine lv_ldc2 (v := 1000000000) hx hb hown (hts _ cn_Reckoner_147) d_Reckoner_settle_47 ?_
        refine W.lcmp hx hb d_Reckoner_settle_50 ?_
        refine lv_if_le (tgt := 62) hx hb d_Reckoner_settle_51 (by decide) (fun c8 => ?_) (fun c8 => ?_)
        · have h := ite_t c8 h
          refine lv_aload_n hx hb d_Reckoner_settle_62 rfl (lv_at hl 3 rfl) ?_
          refine lv_lload hx hb d_Reckoner_settle_63 (lv_at hl 1 rfl) ?_
          refine lv_lload hx hb d_Reckoner_settle_65 (lv_at hl 0 rfl) ?_
          obtain ⟨o_10, hG9, h⟩ := bind1_some h
          refine bw_call (Lc := [wReckoner ct a0 o0]) (Lc' := [wReckoner ct a0 o_10]) (L' := [wReckoner ct a0 o_10]) [0] (va_runV (As := [.long (x1 / v2), .long (x3 / v2)]) (rest := []) ⟨hx, hb, hml, hown, hts⟩ (c_Reckoner_push l ct dC dI a0 _ (x1 / v2) (x3 / v2) o0 o_10 hG9) (cwV 2 hts g_Reckoner_128 rfl rfl rfl (by decide +kernel) ⟨Nat.le_of_ble_eq_true rfl, Nat.le_of_ble_eq_true rfl⟩) ⟨bw_blind nx_call, va_recv hK (hP 0 _ rfl) (ci := 4) (q0 := 0) rfl rfl, fun U hU hW => ⟨rfl, by rw [hU], by rw [hU]; exact hP.sub [0] rfl, va_K.moved hW.alike hK, (hN.sub [0] (by decide) rfl).weaken (fun _ _ => trivial), nx_warm hW hnx⟩⟩ rfl rfl hl.1 rfl (Nat.le_of_ble_eq_true rfl) d_Reckoner_settle_67 ⟨Nat.le_of_ble_eq_true rfl, Nat.le_of_ble_eq_true rfl⟩) hP hN hS hA rfl rfl rfl (fun H locs hP hS => ?_)
          obtain rfl := res1 h
          exact W.vret hx hb hr (fun t ht hW => ⟨rfl, by rw [ht]; exact hP, hS.F ht⟩) hS.2.2 d_Reckoner_settle_70
        · have h := ite_f c8 h
          refine lv_aload_n hx hb d_Reckoner_settle_54 rfl (lv_at hl 3 rfl) ?_
          refine lv_iconst (v := 3) hx hb d_Reckoner_settle_55 (by decide) ?_
          refine pt_Reckoner_5 hx hb hts hown hK hP hN hS 0 rfl (hts _ fl_Reckoner_28) d_Reckoner_settle_56 (fun H locs hP hS => ?_)
          have hP : bw_P (dC, dI) vwCl [wReckoner ct a0 (s32 o0 5 0 (3 : Int32))] H := hP
          refine lv_goto (tgt := 70) hx hb d_Reckoner_settle_59 (by decide) ?_
          obtain rfl := res1 h
          exact W.vret hx hb hr (fun t ht hW => ⟨rfl, by rw [ht]; exact hP, hS.F ht⟩) hS.2.2 d_Reckoner_settle_70
  · have h := ite_f c3 h
    obtain rfl := res1 h
    exact W.vret hx hb hr (fun t ht hW => ⟨rfl, by rw [ht]; exact hP, hS.F ht⟩) hS.2.2 d_Reckoner_settle_14
def F_Reckoner_pushCell (x1 : Int32) (o0 o1 : Ob) : Option (Ob) :=
  chk (inb x1 60) (if (g32 o1 0 (Int32.toNatClampNeg x1)) = (1 : Int32) then (bind1 (F_Reckoner_push (g64 o1 1 (Int32.toNatClampNeg x1)) (g64 o1 2 (Int32.toNatClampNeg x1)) o0) (fun o_6 => some o_6)) else (some (s32 o0 5 0 (5 : Int32))))
abbrev ws_Reckoner_pushCell : List Cond := Cond.code y_Reckoner_pushCell b_Reckoner_pushCell 3 (none : Option Jvm.ClassFile.FieldType) :: wsAll
abbrev rm_Reckoner_pushCell : Room := { frames := 1, cells := 0, slots := 0, locals := 24 }
set_option maxHeartbeats 4000000 in
set_option maxRecDepth 100000 in
theorem c_Reckoner_pushCell (l : Launch) (ct dC : Nat → ClassId) (dI : Nat → Nat → Nat) (a0 a1 : Nat → Nat)  (sz : Nat) (x1 : Int32) (o0 o1 : Ob) (n0 : Ob) (hF : F_Reckoner_pushCell x1 o0 o1 = some n0) : Met l y_Reckoner_pushCell ws_Reckoner_pushCell rm_Reckoner_pushCell (bw_Pc [.ref (a0 0), .int x1, .ref (a1 0)] (dC, dI) vwCl (tyA ct) [wReckoner ct a0 o0, wCells ct a1 o1] sz nx) (bw_Q (dC, dI) vwCl none [wReckoner ct a0 n0, wCells ct a1 o1] (bw_A [adReckoner a0, adCells a1] sz)) 0 0 (bw_A [adReckoner a0, adCells a1] sz) := by
  refine Met.ofW (cc := b_Reckoner_pushCell) (maxL := 3) (ret := (none : Option Jvm.ClassFile.FieldType)) (by decide) rfl ?_
  intro p e s m args below meth c s₁ B hml hv
  obtain ⟨rfl, hsz, hP, hK, hN0, hnx⟩ := hv
  have hx := B.exec
  have hb := B.bytes
  have hr := B.returns
  have hts : ∀ w ∈ wsAll, w.before [.ref (a0 0), .int x1, .ref (a1 0)].toArray s = true := fun w h9 => atoms_spec (ws := ws_Reckoner_pushCell) B.pre w (List.mem_cons_of_mem _ h9)
  have hown : s.vm.findClass R_Reckoner = some m.cls := findClass_of_methodNamed B.named
  have hlocks := B.notSynchronized
  subst hsz
  have hN : bw_N (bw_A [adReckoner a0, adCells a1] s.heap.size) [adReckoner a0, adCells a1] := hN0.self s.heap.size
  generalize hAe : bw_A [adReckoner a0, adCells a1] s.heap.size = A at hN ⊢
  have hA : ∀ q : Nat, s.heap.size ≤ q → A q := fun q h => by rw [← hAe]; exact Or.inr h
  have hS : va_S A s.heap s.heap [] := va_S.rf
  have hl := lv_entry ([.ref (a0 0), .int x1, .ref (a1 0)]) (n := 3) (Nat.le_of_ble_eq_true rfl)
  rw [lg_entry_eq]
  generalize (lg_sl ([.ref (a0 0), .int x1, .ref (a1 0)]) ++ List.replicate (3 - (lg_sl ([.ref (a0 0), .int x1, .ref (a1 0)])).length) Slot.unset).toArray = ls at hl ⊢
  have hl : lv_has ls 3 [(0, .ref (a0 0)), (1, .int x1), (2, .ref (a1 0))] := hl
  have C0 : cx wsAll vwCl nx p s m [.ref (a0 0), .int x1, .ref (a1 0)].toArray meth c (dC, dI) (tyA ct) b_Reckoner_pushCell 3 (none : Option Jvm.ClassFile.FieldType) R_Reckoner A [adReckoner a0, adCells a1] := ⟨hx, hb, hr, hml, hown, hlocks, hts, hK, hN, hA, hnx⟩
  have h := hF
  rw [F_Reckoner_pushCell] at h
  refine lv_aload_n hx hb d_Reckoner_pushCell_0 rfl (lv_at hl 2 rfl) ?_
  refine va_get (D := (dC, dI)) (ci := 1) (v := .ref (a1 1)) (C := R_Cells) (T := T_Cells) (N := 4) hx hb hts in_Cells hown hK (hP 1 _ rfl) 0 rfl rfl 0 (by decide) (hts _ fl_Reckoner_142) (fun _ h9 => h9) rfl d_Reckoner_pushCell_1 ?_
  refine lv_iload_n hx hb d_Reckoner_pushCell_4 rfl (lv_at hl 1 rfl) ?_
  obtain ⟨hi1, h⟩ := chk_some h
  refine va_iald (f := g32 o1 0) hx hb hK (hP 1 _ rfl) 1 0 rfl rfl (inb_in hi1) d_Reckoner_pushCell_5 ?_
  refine lv_iconst (v := 1) hx hb d_Reckoner_pushCell_6 (by decide) ?_
  refine lv_icmp_ne (tgt := 29) hx hb d_Reckoner_pushCell_7 (by decide) (fun c2 => ?_) (fun c2 => ?_)
  · have h := ite_f c2 h
    refine lv_aload_n hx hb d_Reckoner_pushCell_29 rfl (lv_at hl 0 rfl) ?_
    refine lv_iconst (v := 5) hx hb d_Reckoner_pushCell_30 (by decide) ?_
    refine pt_Reckoner_5 hx hb hts hown hK hP hN hS 0 rfl (hts _ fl_Reckoner_28) d_Reckoner_pushCell_31 (fun H locs hP hS => ?_)
    have hP : bw_P (dC, dI) vwCl [wReckoner ct a0 (s32 o0 5 0 (5 : Int32)), wCells ct a1 o1] H := hP
    obtain rfl := res1 h
    exact W.vret hx hb hr (fun t ht hW => ⟨rfl, by rw [ht]; exact hP, hS.F ht⟩) hS.2.2 d_Reckoner_pushCell_34
  · have h := ite_t c2 h
    refine lv_aload_n hx hb d_Reckoner_pushCell_10 rfl (lv_at hl 0 rfl) ?_
    refine lv_aload_n hx hb d_Reckoner_pushCell_11 rfl (lv_at hl 2 rfl) ?_
    refine va_get (D := (dC, dI)) (ci := 1) (v := .ref (a1 2)) (C := R_Cells) (T := T_Cells) (N := 4) hx hb hts in_Cells hown hK (hP 1 _ rfl) 0 rfl rfl 1 (by decide) (hts _ fl_Reckoner_145) (fun _ h9 => h9) rfl d_Reckoner_pushCell_12 ?_
    refine lv_iload_n hx hb d_Reckoner_pushCell_15 rfl (lv_at hl 1 rfl) ?_
    refine va_lald (f := g64 o1 1) hx hb hK (hP 1 _ rfl) 2 1 rfl rfl (inb_in hi1) d_Reckoner_pushCell_16 ?_
    refine lv_aload_n hx hb d_Reckoner_pushCell_17 rfl (lv_at hl 2 rfl) ?_
    refine va_get (D := (dC, dI)) (ci := 1) (v := .ref (a1 3)) (C := R_Cells) (T := T_Cells) (N := 4) hx hb hts in_Cells hown hK (hP 1 _ rfl) 0 rfl rfl 2 (by decide) (hts _ fl_Reckoner_146) (fun _ h9 => h9) rfl d_Reckoner_pushCell_18 ?_
    refine lv_iload_n hx hb d_Reckoner_pushCell_21 rfl (lv_at hl 1 rfl) ?_
    refine va_lald (f := g64 o1 2) hx hb hK (hP 1 _ rfl) 3 1 rfl rfl (inb_in hi1) d_Reckoner_pushCell_22 ?_
    obtain ⟨o_6, hG5, h⟩ := bind1_some h
    refine bw_call (Lc := [wReckoner ct a0 o0]) (Lc' := [wReckoner ct a0 o_6]) (L' := [wReckoner ct a0 o_6, wCells ct a1 o1]) [0] (va_runV (As := [.long (g64 o1 1 (Int32.toNatClampNeg x1)), .long (g64 o1 2 (Int32.toNatClampNeg x1))]) (rest := []) ⟨hx, hb, hml, hown, hts⟩ (c_Reckoner_push l ct dC dI a0 _ (g64 o1 1 (Int32.toNatClampNeg x1)) (g64 o1 2 (Int32.toNatClampNeg x1)) o0 o_6 hG5) (cwV 2 hts g_Reckoner_128 rfl rfl rfl (by decide +kernel) ⟨Nat.le_of_ble_eq_true rfl, Nat.le_of_ble_eq_true rfl⟩) ⟨bw_blind nx_call, va_recv hK (hP 0 _ rfl) (ci := 4) (q0 := 0) rfl rfl, fun U hU hW => ⟨rfl, by rw [hU], by rw [hU]; exact hP.sub [0] rfl, va_K.moved hW.alike hK, (hN.sub [0] (by decide) rfl).weaken (fun _ _ => trivial), nx_warm hW hnx⟩⟩ rfl rfl hl.1 rfl (Nat.le_of_ble_eq_true rfl) d_Reckoner_pushCell_23 ⟨Nat.le_of_ble_eq_true rfl, Nat.le_of_ble_eq_true rfl⟩) hP hN hS hA rfl rfl rfl (fun H locs hP hS => ?_)
    refine lv_goto (tgt := 34) hx hb d_Reckoner_pushCell_26 (by decide) ?_
    obtain rfl := res1 h
    exact W.vret hx hb hr (fun t ht hW => ⟨rfl, by rw [ht]; exact hP, hS.F ht⟩) hS.2.2 d_Reckoner_pushCell_34
def F_Reckoner_negate  (o0 : Ob) : Option (Ob) :=
  if (g32 o0 4 0) ≤ 0 then (some o0) else (chk (inb ((g32 o0 4 0) - (1 : Int32)) 19) (some (s64 o0 2 (Int32.toNatClampNeg ((g32 o0 4 0) - (1 : Int32))) (-(g64 o0 2 (Int32.toNatClampNeg ((g32 o0 4 0) - (1 : Int32))))))))
abbrev ws_Reckoner_negate : List Cond := Cond.code y_Reckoner_negate b_Reckoner_negate 1 (none : Option Jvm.ClassFile.FieldType) :: wsAll
abbrev rm_Reckoner_negate : Room := { frames := 0, cells := 0, slots := 0, locals := 0 }
set_option maxHeartbeats 4000000 in
set_option maxRecDepth 100000 in
theorem c_Reckoner_negate (l : Launch) (ct dC : Nat → ClassId) (dI : Nat → Nat → Nat) (a0 : Nat → Nat)  (sz : Nat)  (o0 : Ob) (n0 : Ob) (hF : F_Reckoner_negate o0 = some n0) : Met l y_Reckoner_negate ws_Reckoner_negate rm_Reckoner_negate (bw_Pc [.ref (a0 0)] (dC, dI) vwCl (tyA ct) [wReckoner ct a0 o0] sz nx) (bw_Q (dC, dI) vwCl none [wReckoner ct a0 n0] (bw_A [adReckoner a0] sz)) 0 0 (bw_A [adReckoner a0] sz) := by
  refine Met.ofW (cc := b_Reckoner_negate) (maxL := 1) (ret := (none : Option Jvm.ClassFile.FieldType)) (by decide) rfl ?_
  intro p e s m args below meth c s₁ B hml hv
  obtain ⟨rfl, hsz, hP, hK, hN0, hnx⟩ := hv
  have hx := B.exec
  have hb := B.bytes
  have hr := B.returns
  have hts : ∀ w ∈ wsAll, w.before [.ref (a0 0)].toArray s = true := fun w h9 => atoms_spec (ws := ws_Reckoner_negate) B.pre w (List.mem_cons_of_mem _ h9)
  have hown : s.vm.findClass R_Reckoner = some m.cls := findClass_of_methodNamed B.named
  have hlocks := B.notSynchronized
  subst hsz
  have hN : bw_N (bw_A [adReckoner a0] s.heap.size) [adReckoner a0] := hN0.self s.heap.size
  generalize hAe : bw_A [adReckoner a0] s.heap.size = A at hN ⊢
  have hA : ∀ q : Nat, s.heap.size ≤ q → A q := fun q h => by rw [← hAe]; exact Or.inr h
  have hS : va_S A s.heap s.heap [] := va_S.rf
  have hl := lv_entry ([.ref (a0 0)]) (n := 1) (Nat.le_of_ble_eq_true rfl)
  rw [lg_entry_eq]
  generalize (lg_sl ([.ref (a0 0)]) ++ List.replicate (1 - (lg_sl ([.ref (a0 0)])).length) Slot.unset).toArray = ls at hl ⊢
  have hl : lv_has ls 1 [(0, .ref (a0 0))] := hl
  have C0 : cx wsAll vwCl nx p s m [.ref (a0 0)].toArray meth c (dC, dI) (tyA ct) b_Reckoner_negate 1 (none : Option Jvm.ClassFile.FieldType) R_Reckoner A [adReckoner a0] := ⟨hx, hb, hr, hml, hown, hlocks, hts, hK, hN, hA, hnx⟩
  have h := hF
  rw [F_Reckoner_negate] at h
  refine lv_aload_n hx hb d_Reckoner_negate_0 rfl (lv_at hl 0 rfl) ?_
  refine va_get (D := (dC, dI)) (ci := 4) (v := .int (g32 o0 4 0)) (C := R_Reckoner) (T := T_Reckoner) (N := 6) hx hb hts in_Reckoner hown hK (hP 0 _ rfl) 0 rfl rfl 4 (by decide) (hts _ fl_Reckoner_24) (fun _ h9 => h9) rfl d_Reckoner_negate_1 ?_
  refine lv_if_le (tgt := 30) hx hb d_Reckoner_negate_4 (by decide) (fun c1 => ?_) (fun c1 => ?_)
  · have h := ite_t c1 h
    obtain rfl := res1 h
    exact W.vret hx hb hr (fun t ht hW => ⟨rfl, by rw [ht]; exact hP, hS.F ht⟩) hS.2.2 d_Reckoner_negate_30
  · have h := ite_f c1 h
    refine lv_aload_n hx hb d_Reckoner_negate_7 rfl (lv_at hl 0 rfl) ?_
    refine va_get (D := (dC, dI)) (ci := 4) (v := .ref (a0 3)) (C := R_Reckoner) (T := T_Reckoner) (N := 6) hx hb hts in_Reckoner hown hK (hP 0 _ rfl) 0 rfl rfl 2 (by decide) (hts _ fl_Reckoner_18) (fun _ h9 => h9) rfl d_Reckoner_negate_8 ?_
    refine lv_aload_n hx hb d_Reckoner_negate_11 rfl (lv_at hl 0 rfl) ?_
    refine va_get (D := (dC, dI)) (ci := 4) (v := .int (g32 o0 4 0)) (C := R_Reckoner) (T := T_Reckoner) (N := 6) hx hb hts in_Reckoner hown hK (hP 0 _ rfl) 0 rfl rfl 4 (by decide) (hts _ fl_Reckoner_24) (fun _ h9 => h9) rfl d_Reckoner_negate_12 ?_
    refine lv_iconst (v := 1) hx hb d_Reckoner_negate_15 (by decide) ?_
    refine lv_isub hx hb d_Reckoner_negate_16 ?_
    refine lv_aload_n hx hb d_Reckoner_negate_17 rfl (lv_at hl 0 rfl) ?_
    refine va_get (D := (dC, dI)) (ci := 4) (v := .ref (a0 3)) (C := R_Reckoner) (T := T_Reckoner) (N := 6) hx hb hts in_Reckoner hown hK (hP 0 _ rfl) 0 rfl rfl 2 (by decide) (hts _ fl_Reckoner_18) (fun _ h9 => h9) rfl d_Reckoner_negate_18 ?_
    refine lv_aload_n hx hb d_Reckoner_negate_21 rfl (lv_at hl 0 rfl) ?_
    refine va_get (D := (dC, dI)) (ci := 4) (v := .int (g32 o0 4 0)) (C := R_Reckoner) (T := T_Reckoner) (N := 6) hx hb hts in_Reckoner hown hK (hP 0 _ rfl) 0 rfl rfl 4 (by decide) (hts _ fl_Reckoner_24) (fun _ h9 => h9) rfl d_Reckoner_negate_22 ?_
    refine lv_iconst (v := 1) hx hb d_Reckoner_negate_25 (by decide) ?_
    refine lv_isub hx hb d_Reckoner_negate_26 ?_
    obtain ⟨hi2, h⟩ := chk_some h
    refine va_lald (f := g64 o0 2) hx hb hK (hP 0 _ rfl) 3 1 rfl rfl (inb_in hi2) d_Reckoner_negate_27 ?_
    refine lv_lneg hx hb d_Reckoner_negate_28 ?_
    refine st_Reckoner_2 hx hb hK hP hN hS 0 rfl (inb_in hi2) d_Reckoner_negate_29 (fun H locs hP hS => ?_)
    have hP : bw_P (dC, dI) vwCl [wReckoner ct a0 (s64 o0 2 (Int32.toNatClampNeg ((g32 o0 4 0) - (1 : Int32))) (-(g64 o0 2 (Int32.toNatClampNeg ((g32 o0 4 0) - (1 : Int32))))))] H := hP
    obtain rfl := res1 h
    exact W.vret hx hb hr (fun t ht hW => ⟨rfl, by rw [ht]; exact hP, hS.F ht⟩) hS.2.2 d_Reckoner_negate_30
theorem g_Reckoner_124 : GoodIn wsAll (wsV R_Reckoner 124 R_Reckoner y_Reckoner_settle ws_Reckoner_settle) := gd_V ml_Reckoner_124 im_Reckoner_settle se_Reckoner_settle ini_Reckoner cd_Reckoner_settle
def F_Reckoner_join (x1 : Int32) (o0 : Ob) : Option (Ob) :=
  if (2 : Int32) ≤ (g32 o0 4 0) then (chk (inb ((g32 o0 4 0) - (2 : Int32)) 19) (chk (inb (((g32 o0 4 0) - (2 : Int32)) + (1 : Int32)) 19) (if x1 = 5 then (bind1 (F_Reckoner_settle (((g64 o0 2 (Int32.toNatClampNeg ((g32 o0 4 0) - (2 : Int32)))) * (g64 o0 3 (Int32.toNatClampNeg (((g32 o0 4 0) - (2 : Int32)) + (1 : Int32))))) + ((g64 o0 2 (Int32.toNatClampNeg (((g32 o0 4 0) - (2 : Int32)) + (1 : Int32)))) * (g64 o0 3 (Int32.toNatClampNeg ((g32 o0 4 0) - (2 : Int32)))))) ((g64 o0 3 (Int32.toNatClampNeg ((g32 o0 4 0) - (2 : Int32)))) * (g64 o0 3 (Int32.toNatClampNeg (((g32 o0 4 0) - (2 : Int32)) + (1 : Int32))))) (s32 o0 4 0 ((g32 o0 4 0) - (2 : Int32)))) (fun o_8 => some o_8)) else (if x1 = 6 then (bind1 (F_Reckoner_settle (((g64 o0 2 (Int32.toNatClampNeg ((g32 o0 4 0) - (2 : Int32)))) * (g64 o0 3 (Int32.toNatClampNeg (((g32 o0 4 0) - (2 : Int32)) + (1 : Int32))))) - ((g64 o0 2 (Int32.toNatClampNeg (((g32 o0 4 0) - (2 : Int32)) + (1 : Int32)))) * (g64 o0 3 (Int32.toNatClampNeg ((g32 o0 4 0) - (2 : Int32)))))) ((g64 o0 3 (Int32.toNatClampNeg ((g32 o0 4 0) - (2 : Int32)))) * (g64 o0 3 (Int32.toNatClampNeg (((g32 o0 4 0) - (2 : Int32)) + (1 : Int32))))) (s32 o0 4 0 ((g32 o0 4 0) - (2 : Int32)))) (fun o_11 => some o_11)) else (if x1 = 7 then (bind1 (F_Reckoner_settle ((g64 o0 2 (Int32.toNatClampNeg ((g32 o0 4 0) - (2 : Int32)))) * (g64 o0 2 (Int32.toNatClampNeg (((g32 o0 4 0) - (2 : Int32)) + (1 : Int32))))) ((g64 o0 3 (Int32.toNatClampNeg ((g32 o0 4 0) - (2 : Int32)))) * (g64 o0 3 (Int32.toNatClampNeg (((g32 o0 4 0) - (2 : Int32)) + (1 : Int32))))) (s32 o0 4 0 ((g32 o0 4 0) - (2 : Int32)))) (fun o_14 => some o_14)) else (if (lg_cmp (g64 o0 2 (Int32.toNatClampNeg (((g32 o0 4 0) - (2 : Int32)) + (1 : Int32)))) (0 : Int64)) = 0 then (some (s32 (s32 o0 4 0 ((g32 o0 4 0) - (2 : Int32))) 5 0 (2 : Int32))) else (if (lg_cmp (g64 o0 2 (Int32.toNatClampNeg (((g32 o0 4 0) - (2 : Int32)) + (1 : Int32)))) (0 : Int64)) ≤ 0 then (bind1 (F_Reckoner_settle ((-(g64 o0 2 (Int32.toNatClampNeg ((g32 o0 4 0) - (2 : Int32))))) * (g64 o0 3 (Int32.toNatClampNeg (((g32 o0 4 0) - (2 : Int32)) + (1 : Int32))))) ((g64 o0 3 (Int32.toNatClampNeg ((g32 o0 4 0) - (2 : Int32)))) * (-(g64 o0 2 (Int32.toNatClampNeg (((g32 o0 4 0) - (2 : Int32)) + (1 : Int32)))))) (s32 o0 4 0 ((g32 o0 4 0) - (2 : Int32)))) (fun o_18 => some o_18)) else (bind1 (F_Reckoner_settle ((g64 o0 2 (Int32.toNatClampNeg ((g32 o0 4 0) - (2 : Int32)))) * (g64 o0 3 (Int32.toNatClampNeg (((g32 o0 4 0) - (2 : Int32)) + (1 : Int32))))) ((g64 o0 3 (Int32.toNatClampNeg ((g32 o0 4 0) - (2 : Int32)))) * (g64 o0 2 (Int32.toNatClampNeg (((g32 o0 4 0) - (2 : Int32)) + (1 : Int32))))) (s32 o0 4 0 ((g32 o0 4 0) - (2 : Int32)))) (fun o_20 => some o_20))))))))) else (some o0)
abbrev ws_Reckoner_join : List Cond := Cond.code y_Reckoner_join b_Reckoner_join 10 (none : Option Jvm.ClassFile.FieldType) :: wsAll
abbrev rm_Reckoner_join : Room := { frames := 2, cells := 0, slots := 0, locals := 60 }
set_option maxHeartbeats 4000000 in
set_option maxRecDepth 100000 in
theorem c_Reckoner_join (l : Launch) (ct dC : Nat → ClassId) (dI : Nat → Nat → Nat) (a0 : Nat → Nat)  (sz : Nat) (x1 : Int32) (o0 : Ob) (n0 : Ob) (hF : F_Reckoner_join x1 o0 = some n0) : Met l y_Reckoner_join ws_Reckoner_join rm_Reckoner_join (bw_Pc [.ref (a0 0), .int x1] (dC, dI) vwCl (tyA ct) [wReckoner ct a0 o0] sz nx) (bw_Q (dC, dI) vwCl none [wReckoner ct a0 n0] (bw_A [adReckoner a0] sz)) 0 0 (bw_A [adReckoner a0] sz) := by
  refine Met.ofW (cc := b_Reckoner_join) (maxL := 10) (ret := (none : Option Jvm.ClassFile.FieldType)) (by decide) rfl ?_
  intro p e s m args below meth c s₁ B hml hv
  obtain ⟨rfl, hsz, hP, hK, hN0, hnx⟩ := hv
  have hx := B.exec
  have hb := B.bytes
  have hr := B.returns
  have hts : ∀ w ∈ wsAll, w.before [.ref (a0 0), .int x1].toArray s = true := fun w h9 => atoms_spec (ws := ws_Reckoner_join) B.pre w (List.mem_cons_of_mem _ h9)
  have hown : s.vm.findClass R_Reckoner = some m.cls := findClass_of_methodNamed B.named
  have hlocks := B.notSynchronized
  subst hsz
  have hN : bw_N (bw_A [adReckoner a0] s.heap.size) [adReckoner a0] := hN0.self s.heap.size
  generalize hAe : bw_A [adReckoner a0] s.heap.size = A at hN ⊢
  have hA : ∀ q : Nat, s.heap.size ≤ q → A q := fun q h => by rw [← hAe]; exact Or.inr h
  have hS : va_S A s.heap s.heap [] := va_S.rf
  have hl := lv_entry ([.ref (a0 0), .int x1]) (n := 10) (Nat.le_of_ble_eq_true rfl)
  rw [lg_entry_eq]
  generalize (lg_sl ([.ref (a0 0), .int x1]) ++ List.replicate (10 - (lg_sl ([.ref (a0 0), .int x1])).length) Slot.unset).toArray = ls at hl ⊢
  have hl : lv_has ls 10 [(0, .ref (a0 0)), (1, .int x1)] := hl
  have C0 : cx wsAll vwCl nx p s m [.ref (a0 0), .int x1].toArray meth c (dC, dI) (tyA ct) b_Reckoner_join 10 (none : Option Jvm.ClassFile.FieldType) R_Reckoner A [adReckoner a0] := ⟨hx, hb, hr, hml, hown, hlocks, hts, hK, hN, hA, hnx⟩
  have h := hF
  rw [F_Reckoner_join] at h
  refine lv_aload_n hx hb d_Reckoner_join_0 rfl (lv_at hl 0 rfl) ?_
  refine va_get (D := (dC, dI)) (ci := 4) (v := .int (g32 o0 4 0)) (C := R_Reckoner) (T := T_Reckoner) (N := 6) hx hb hts in_Reckoner hown hK (hP 0 _ rfl) 0 rfl rfl 4 (by decide) (hts _ fl_Reckoner_24) (fun _ h9 => h9) rfl d_Reckoner_join_1 ?_
  refine lv_iconst (v := 2) hx hb d_Reckoner_join_4 (by decide) ?_
  refine lv_icmp_ge (tgt := 9) hx hb d_Reckoner_join_5 (by decide) (fun c1 => ?_) (fun c1 => ?_)
  · have h := ite_t c1 h
    refine lv_aload_n hx hb d_Reckoner_join_9 rfl (lv_at hl 0 rfl) ?_
    refine lv_dup hx hb d_Reckoner_join_10 rfl ?_
    refine va_get (D := (dC, dI)) (ci := 4) (v := .int (g32 o0 4 0)) (C := R_Reckoner) (T := T_Reckoner) (N := 6) hx hb hts in_Reckoner hown hK (hP 0 _ rfl) 0 rfl rfl 4 (by decide) (hts _ fl_Reckoner_24) (fun _ h9 => h9) rfl d_Reckoner_join_11 ?_
    refine lv_iconst (v := 2) hx hb d_Reckoner_join_14 (by decide) ?_
    refine lv_isub hx hb d_Reckoner_join_15 ?_
    refine pt_Reckoner_4 hx hb hts hown hK hP hN hS 0 rfl (hts _ fl_Reckoner_24) d_Reckoner_join_16 (fun H locs hP hS => ?_)
    have hP : bw_P (dC, dI) vwCl [wReckoner ct a0 (s32 o0 4 0 ((g32 o0 4 0) - (2 : Int32)))] H := hP
    refine lv_aload_n hx hb d_Reckoner_join_19 rfl (lv_at hl 0 rfl) ?_
    refine va_get (D := (dC, dI)) (ci := 4) (v := .ref (a0 3)) (C := R_Reckoner) (T := T_Reckoner) (N := 6) hx hb hts in_Reckoner hown hK (hP 0 _ rfl) 0 rfl rfl 2 (by decide) (hts _ fl_Reckoner_18) (fun _ h9 => h9) rfl d_Reckoner_join_20 ?_
    refine lv_aload_n hx hb d_Reckoner_join_23 rfl (lv_at hl 0 rfl) ?_
    refine va_get (D := (dC, dI)) (ci := 4) (v := .int ((g32 o0 4 0) - (2 : Int32))) (C := R_Reckoner) (T := T_Reckoner) (N := 6) hx hb hts in_Reckoner hown hK (hP 0 _ rfl) 0 rfl rfl 4 (by decide) (hts _ fl_Reckoner_24) (fun _ h9 => h9) rfl d_Reckoner_join_24 ?_
    obtain ⟨hi2, h⟩ := chk_some h
    refine va_lald (f := g64 o0 2) hx hb hK (hP 0 _ rfl) 3 1 rfl rfl (inb_in hi2) d_Reckoner_join_27 ?_
    refine lv_lstore_n (lv' := [(2, .long (g64 o0 2 (Int32.toNatClampNeg ((g32 o0 4 0) - (2 : Int32))))), (0, .ref (a0 0)), (1, .int x1)]) hx hb d_Reckoner_join_28 rfl hl (by decide) rfl (fun ls hl => ?_)
    refine lv_aload_n hx hb d_Reckoner_join_29 rfl (lv_at hl 1 rfl) ?_
    refine va_get (D := (dC, dI)) (ci := 4) (v := .ref (a0 4)) (C := R_Reckoner) (T := T_Reckoner) (N := 6) hx hb hts in_Reckoner hown hK (hP 0 _ rfl) 0 rfl rfl 3 (by decide) (hts _ fl_Reckoner_21) (fun _ h9 => h9) rfl d_Reckoner_join_30 ?_
    refine lv_aload_n hx hb d_Reckoner_join_33 rfl (lv_at hl 1 rfl) ?_
    refine va_get (D := (dC, dI)) (ci := 4) (v := .int ((g32 o0 4 0) - (2 : Int32))) (C := R_Reckoner) (T := T_Reckoner) (N := 6) hx hb hts in_Reckoner hown hK (hP 0 _ rfl) 0 rfl rfl 4 (by decide) (hts _ fl_Reckoner_24) (fun _ h9 => h9) rfl d_Reckoner_join_34 ?_
    refine va_lald (f := g64 o0 3) hx hb hK (hP 0 _ rfl) 4 1 rfl rfl (inb_in hi2) d_Reckoner_join_37 ?_
    refine lv_lstore (lv' := [(4, .long (g64 o0 3 (Int32.toNatClampNeg ((g32 o0 4 0) - (2 : Int32))))), (2, .long (g64 o0 2 (Int32.toNatClampNeg ((g32 o0 4 0) - (2 : Int32))))), (0, .ref (a0 0)), (1, .int x1)]) hx hb d_Reckoner_join_38 hl (by decide) rfl (fun ls hl => ?_)
    refine lv_aload_n hx hb d_Reckoner_join_40 rfl (lv_at hl 2 rfl) ?_
    refine va_get (D := (dC, dI)) (ci := 4) (v := .ref (a0 3)) (C := R_Reckoner) (T := T_Reckoner) (N := 6) hx hb hts in_Reckoner hown hK (hP 0 _ rfl) 0 rfl rfl 2 (by decide) (hts _ fl_Reckoner_18) (fun _ h9 => h9) rfl d_Reckoner_join_41 ?_
    refine lv_aload_n hx hb d_Reckoner_join_44 rfl (lv_at hl 2 rfl) ?_
    refine va_get (D := (dC, dI)) (ci := 4) (v := .int ((g32 o0 4 0) - (2 : Int32))) (C := R_Reckoner) (T := T_Reckoner) (N := 6) hx hb hts in_Reckoner hown hK (hP 0 _ rfl) 0 rfl rfl 4 (by decide) (hts _ fl_Reckoner_24) (fun _ h9 => h9) rfl d_Reckoner_join_45 ?_
    refine lv_iconst (v := 1) hx hb d_Reckoner_join_48 (by decide) ?_
    refine lv_iadd hx hb d_Reckoner_join_49 ?_
    obtain ⟨hi4, h⟩ := chk_some h
    refine va_lald (f := g64 o0 2) hx hb hK (hP 0 _ rfl) 3 1 rfl rfl (inb_in hi4) d_Reckoner_join_50 ?_
    refine lv_lstore (lv' := [(6, .long (g64 o0 2 (Int32.toNatClampNeg (((g32 o0 4 0) - (2 : Int32)) + (1 : Int32))))), (4, .long (g64 o0 3 (Int32.toNatClampNeg ((g32 o0 4 0) - (2 : Int32))))), (2, .long (g64 o0 2 (Int32.toNatClampNeg ((g32 o0 4 0) - (2 : Int32))))), (0, .ref (a0 0)), (1, .int x1)]) hx hb d_Reckoner_join_51 hl (by decide) rfl (fun ls hl => ?_)
    refine lv_aload_n hx hb d_Reckoner_join_53 rfl (lv_at hl 3 rfl) ?_
    refine va_get (D := (dC, dI)) (ci := 4) (v := .ref (a0 4)) (C := R_Reckoner) (T := T_Reckoner) (N := 6) hx hb hts in_Reckoner hown hK (hP 0 _ rfl) 0 rfl rfl 3 (by decide) (hts _ fl_Reckoner_21) (fun _ h9 => h9) rfl d_Reckoner_join_54 ?_
    refine lv_aload_n hx hb d_Reckoner_join_57 rfl (lv_at hl 3 rfl) ?_
    refine va_get (D := (dC, dI)) (ci := 4) (v := .int ((g32 o0 4 0) - (2 : Int32))) (C := R_Reckoner) (T := T_Reckoner) (N := 6) hx hb hts in_Reckoner hown hK (hP 0 _ rfl) 0 rfl rfl 4 (by decide) (hts _ fl_Reckoner_24) (fun _ h9 => h9) rfl d_Reckoner_join_58 ?_
    refine lv_iconst (v := 1) hx hb d_Reckoner_join_61 (by decide) ?_
    refine lv_iadd hx hb d_Reckoner_join_62 ?_
    refine va_lald (f := g64 o0 3) hx hb hK (hP 0 _ rfl) 4 1 rfl rfl (inb_in hi4) d_Reckoner_join_63 ?_
    refine lv_lstore (lv' := [(8, .long (g64 o0 3 (Int32.toNatClampNeg (((g32 o0 4 0) - (2 : Int32)) + (1 : Int32))))), (6, .long (g64 o0 2 (Int32.toNatClampNeg (((g32 o0 4 0) - (2 : Int32)) + (1 : Int32))))), (4, .long (g64 o0 3 (Int32.toNatClampNeg ((g32 o0 4 0) - (2 : Int32))))), (2, .long (g64 o0 2 (Int32.toNatClampNeg ((g32 o0 4 0) - (2 : Int32))))), (0, .ref (a0 0)), (1, .int x1)]) hx hb d_Reckoner_join_64 hl (by decide) rfl (fun ls hl => ?_)
    refine lv_iload_n hx hb d_Reckoner_join_66 rfl (lv_at hl 5 rfl) ?_
    by_cases c6 : x1 = 5
    · have h := ite_t c6 h
      refine lv_tableIn (off := 25) (tgt := 92) hx hb d_Reckoner_join_67 (by rw [c6]; decide) (by rw [c6]; decide) (by rw [c6]; rfl) (by decide) ?_
      refine lv_aload_n hx hb d_Reckoner_join_92 rfl (lv_at hl 4 rfl) ?_
      refine lv_lload_n hx hb d_Reckoner_join_93 rfl (lv_at hl 3 rfl) ?_
      refine lv_lload hx hb d_Reckoner_join_94 (lv_at hl 0 rfl) ?_
      refine lv_lmul hx hb d_Reckoner_join_96 ?_
      refine lv_lload hx hb d_Reckoner_join_97 (lv_at hl 1 rfl) ?_
      refine lv_lload hx hb d_Reckoner_join_99 (lv_at hl 2 rfl) ?_
      refine lv_lmul hx hb d_Reckoner_join_101 ?_
      refine lv_ladd hx hb d_Reckoner_join_102 ?_
      refine lv_lload hx hb d_Reckoner_join_103 (lv_at hl 2 rfl) ?_
      refine lv_lload hx hb d_Reckoner_join_105 (lv_at hl 0 rfl) ?_
      refine lv_lmul hx hb d_Reckoner_join_107 ?_
      obtain ⟨o_8, hG7, h⟩ := bind1_some h
      refine bw_call (Lc := [wReckoner ct a0 (s32 o0 4 0 ((g32 o0 4 0) - (2 : Int32)))]) (Lc' := [wReckoner ct a0 o_8]) (L' := [wReckoner ct a0 o_8]) [0] (va_runV (As := [.long (((g64 o0 2 (Int32.toNatClampNeg ((g32 o0 4 0) - (2 : Int32)))) * (g64 o0 3 (Int32.toNatClampNeg (((g32 o0 4 0) - (2 : Int32)) + (1 : Int32))))) + ((g64 o0 2 (Int32.toNatClampNeg (((g32 o0 4 0) - (2 : Int32)) + (1 : Int32)))) * (g64 o0 3 (Int32.toNatClampNeg ((g32 o0 4 0) - (2 : Int32)))))), .long ((g64 o0 3 (Int32.toNatClampNeg ((g32 o0 4 0) - (2 : Int32)))) * (g64 o0 3 (Int32.toNatClampNeg (((g32 o0 4 0) - (2 : Int32)) + (1 : Int32)))))]) (rest := []) ⟨hx, hb, hml, hown, hts⟩ (c_Reckoner_settle l ct dC dI a0 _ (((g64 o0 2 (Int32.toNatClampNeg ((g32 o0 4 0) - (2 : Int32)))) * (g64 o0 3 (Int32.toNatClampNeg (((g32 o0 4 0) - (2 : Int32)) + (1 : Int32))))) + ((g64 o0 2 (Int32.toNatClampNeg (((g32 o0 4 0) - (2 : Int32)) + (1 : Int32)))) * (g64 o0 3 (Int32.toNatClampNeg ((g32 o0 4 0) - (2 : Int32)))))) ((g64 o0 3 (Int32.toNatClampNeg ((g32 o0 4 0) - (2 : Int32)))) * (g64 o0 3 (Int32.toNatClampNeg (((g32 o0 4 0) - (2 : Int32)) + (1 : Int32))))) (s32 o0 4 0 ((g32 o0 4 0) - (2 : Int32))) o_8 hG7) (cwV 2 hts g_Reckoner_124 rfl rfl rfl (by decide +kernel) ⟨Nat.le_of_ble_eq_true rfl, Nat.le_of_ble_eq_true rfl⟩) ⟨bw_blind nx_call, va_recv hK (hP 0 _ rfl) (ci := 4) (q0 := 0) rfl rfl, fun U hU hW => ⟨rfl, by rw [hU], by rw [hU]; exact hP.sub [0] rfl, va_K.moved hW.alike hK, (hN.sub [0] (by decide) rfl).weaken (fun _ _ => trivial), nx_warm hW hnx⟩⟩ rfl rfl hl.1 rfl (Nat.le_of_ble_eq_true rfl) d_Reckoner_join_108 ⟨Nat.le_of_ble_eq_true rfl, Nat.le_of_ble_eq_true rfl⟩) hP hN hS hA rfl rfl rfl (fun H locs hP hS => ?_)
      refine lv_goto (tgt := 205) hx hb d_Reckoner_join_111 (by decide) ?_
      obtain rfl := res1 h
      exact W.vret hx hb hr (fun t ht hW => ⟨rfl, by rw [ht]; exact hP, hS.F ht⟩) hS.2.2 d_Reckoner_join_205
    · have h := ite_f c6 h
      by_cases c9 : x1 = 6
      · have h := ite_t c9 h
        refine lv_tableIn (off := 47) (tgt := 114) hx hb d_Reckoner_join_67 (by rw [c9]; decide) (by rw [c9]; decide) (by rw [c9]; rfl) (by decide) ?_
        refine lv_aload_n hx hb d_Reckoner_join_114 rfl (lv_at hl 4 rfl) ?_
        refine lv_lload_n hx hb d_Reckoner_join_115 rfl (lv_at hl 3 rfl) ?_
        refine lv_lload hx hb d_Reckoner_join_116 (lv_at hl 0 rfl) ?_
        refine lv_lmul hx hb d_Reckoner_join_118 ?_
        refine lv_lload hx hb d_Reckoner_join_119 (lv_at hl 1 rfl) ?_
        refine lv_lload hx hb d_Reckoner_join_121 (lv_at hl 2 rfl) ?_
        refine lv_lmul hx hb d_Reckoner_join_123 ?_
        refine lv_lsub hx hb d_Reckoner_join_124 ?_
        refine lv_lload hx hb d_Reckoner_join_125 (lv_at hl 2 rfl) ?_
        refine lv_lload hx hb d_Reckoner_join_127 (lv_at hl 0 rfl) ?_
        refine lv_lmul hx hb d_Reckoner_join_129 ?_
        obtain ⟨o_11, hG10, h⟩ := bind1_some h
        refine bw_call (Lc := [wReckoner ct a0 (s32 o0 4 0 ((g32 o0 4 0) - (2 : Int32)))]) (Lc' := [wReckoner ct a0 o_11]) (L' := [wReckoner ct a0 o_11]) [0] (va_runV (As := [.long (((g64 o0 2 (Int32.toNatClampNeg ((g32 o0 4 0) - (2 : Int32)))) * (g64 o0 3 (Int32.toNatClampNeg (((g32 o0 4 0) - (2 : Int32)) + (1 : Int32))))) - ((g64 o0 2 (Int32.toNatClampNeg (((g32 o0 4 0) - (2 : Int32)) + (1 : Int32)))) * (g64 o0 3 (Int32.toNatClampNeg ((g32 o0 4 0) - (2 : Int32)))))), .long ((g64 o0 3 (Int32.toNatClampNeg ((g32 o0 4 0) - (2 : Int32)))) * (g64 o0 3 (Int32.toNatClampNeg (((g32 o0 4 0) - (2 : Int32)) + (1 : Int32)))))]) (rest := []) ⟨hx, hb, hml, hown, hts⟩ (c_Reckoner_settle l ct dC dI a0 _ (((g64 o0 2 (Int32.toNatClampNeg ((g32 o0 4 0) - (2 : Int32)))) * (g64 o0 3 (Int32.toNatClampNeg (((g32 o0 4 0) - (2 : Int32)) + (1 : Int32))))) - ((g64 o0 2 (Int32.toNatClampNeg (((g32 o0 4 0) - (2 : Int32)) + (1 : Int32)))) * (g64 o0 3 (Int32.toNatClampNeg ((g32 o0 4 0) - (2 : Int32)))))) ((g64 o0 3 (Int32.toNatClampNeg ((g32 o0 4 0) - (2 : Int32)))) * (g64 o0 3 (Int32.toNatClampNeg (((g32 o0 4 0) - (2 : Int32)) + (1 : Int32))))) (s32 o0 4 0 ((g32 o0 4 0) - (2 : Int32))) o_11 hG10) (cwV 2 hts g_Reckoner_124 rfl rfl rfl (by decide +kernel) ⟨Nat.le_of_ble_eq_true rfl, Nat.le_of_ble_eq_true rfl⟩) ⟨bw_blind nx_call, va_recv hK (hP 0 _ rfl) (ci := 4) (q0 := 0) rfl rfl, fun U hU hW => ⟨rfl, by rw [hU], by rw [hU]; exact hP.sub [0] rfl, va_K.moved hW.alike hK, (hN.sub [0] (by decide) rfl).weaken (fun _ _ => trivial), nx_warm hW hnx⟩⟩ rfl rfl hl.1 rfl (Nat.le_of_ble_eq_true rfl) d_Reckoner_join_130 ⟨Nat.le_of_ble_eq_true rfl, Nat.le_of_ble_eq_true rfl⟩) hP hN hS hA rfl rfl rfl (fun H locs hP hS => ?_)
        refine lv_goto (tgt := 205) hx hb d_Reckoner_join_133 (by decide) ?_
        obtain rfl := res1 h
        exact W.vret hx hb hr (fun t ht hW => ⟨rfl, by rw [ht]; exact hP, hS.F ht⟩) hS.2.2 d_Reckoner_join_205
      · have h := ite_f c9 h
        by_cases c12 : x1 = 7
        · have h := ite_t c12 h
          refine lv_tableIn (off := 69) (tgt := 136) hx hb d_Reckoner_join_67 (by rw [c12]; decide) (by rw [c12]; decide) (by rw [c12]; rfl) (by decide) ?_
          refine lv_aload_n hx hb d_Reckoner_join_136 rfl (lv_at hl 4 rfl) ?_
          refine lv_lload_n hx hb d_Reckoner_join_137 rfl (lv_at hl 3 rfl) ?_
          refine lv_lload hx hb d_Reckoner_join_138 (lv_at hl 1 rfl) ?_
          refine lv_lmul hx hb d_Reckoner_join_140 ?_
          refine lv_lload hx hb d_Reckoner_join_141 (lv_at hl 2 rfl) ?_
          refine lv_lload hx hb d_Reckoner_join_143 (lv_at hl 0 rfl) ?_
          refine lv_lmul hx hb d_Reckoner_join_145 ?_
          obtain ⟨o_14, hG13, h⟩ := bind1_some h
          refine bw_call (Lc := [wReckoner ct a0 (s32 o0 4 0 ((g32 o0 4 0) - (2 : Int32)))]) (Lc' := [wReckoner ct a0 o_14]) (L' := [wReckoner ct a0 o_14]) [0] (va_runV (As := [.long ((g64 o0 2 (Int32.toNatClampNeg ((g32 o0 4 0) - (2 : Int32)))) * (g64 o0 2 (Int32.toNatClampNeg (((g32 o0 4 0) - (2 : Int32)) + (1 : Int32))))), .long ((g64 o0 3 (Int32.toNatClampNeg ((g32 o0 4 0) - (2 : Int32)))) * (g64 o0 3 (Int32.toNatClampNeg (((g32 o0 4 0) - (2 : Int32)) + (1 : Int32)))))]) (rest := []) ⟨hx, hb, hml, hown, hts⟩ (c_Reckoner_settle l ct dC dI a0 _ ((g64 o0 2 (Int32.toNatClampNeg ((g32 o0 4 0) - (2 : Int32)))) * (g64 o0 2 (Int32.toNatClampNeg (((g32 o0 4 0) - (2 : Int32)) + (1 : Int32))))) ((g64 o0 3 (Int32.toNatClampNeg ((g32 o0 4 0) - (2 : Int32)))) * (g64 o0 3 (Int32.toNatClampNeg (((g32 o0 4 0) - (2 : Int32)) + (1 : Int32))))) (s32 o0 4 0 ((g32 o0 4 0) - (2 : Int32))) o_14 hG13) (cwV 2 hts g_Reckoner_124 rfl rfl rfl (by decide +kernel) ⟨Nat.le_of_ble_eq_true rfl, Nat.le_of_ble_eq_true rfl⟩) ⟨bw_blind nx_call, va_recv hK (hP 0 _ rfl) (ci := 4) (q0 := 0) rfl rfl, fun U hU hW => ⟨rfl, by rw [hU], by rw [hU]; exact hP.sub [0] rfl, va_K.moved hW.alike hK, (hN.sub [0] (by decide) rfl).weaken (fun _ _ => trivial), nx_warm hW hnx⟩⟩ rfl rfl hl.1 rfl (Nat.le_of_ble_eq_true rfl) d_Reckoner_join_146 ⟨Nat.le_of_ble_eq_true rfl, Nat.le_of_ble_eq_true rfl⟩) hP hN hS hA rfl rfl rfl (fun H locs hP hS => ?_)
          refine lv_goto (tgt := 205) hx hb d_Reckoner_join_149 (by decide) ?_
          obtain rfl := res1 h
          exact W.vret hx hb hr (fun t ht hW => ⟨rfl, by rw [ht]; exact hP, hS.F ht⟩) hS.2.2 d_Reckoner_join_205
        · have h := ite_f c12 h
          refine lv_tableOut (tgt := 152) hx hb d_Reckoner_join_67 (sw_out5_7 c6 c9 c12) (by decide) ?_
          refine lv_lload hx hb d_Reckoner_join_152 (lv_at hl 1 rfl) ?_
          refine lv_lconst (v := 0) hx hb d_Reckoner_join_154 (by decide) ?_
          refine W.lcmp hx hb d_Reckoner_join_155 ?_
          refine lv_if_ne (tgt := 167) hx hb d_Reckoner_join_156 (by decide) (fun c15 => ?_) (fun c15 => ?_)
          · have h := ite_f c15 h
            refine lv_lload hx hb d_Reckoner_join_167 (lv_at hl 1 rfl) ?_
            refine lv_lconst (v := 0) hx hb d_Reckoner_join_169 (by decide) ?_
            refine W.lcmp hx hb d_Reckoner_join_170 ?_
            refine lv_if_le (tgt := 190) hx hb d_Reckoner_join_171 (by decide) (fun c16 => ?_) (fun c16 => ?_)
            · have h := ite_t c16 h
              refine lv_aload_n hx hb d_Reckoner_join_190 rfl (lv_at hl 4 rfl) ?_
              refine lv_lload_n hx hb d_Reckoner_join_191 rfl (lv_at hl 3 rfl) ?_
              refine lv_lneg hx hb d_Reckoner_join_192 ?_
              refine lv_lload hx hb d_Reckoner_join_193 (lv_at hl 0 rfl) ?_
              refine lv_lmul hx hb d_Reckoner_join_195 ?_
              refine lv_lload hx hb d_Reckoner_join_196 (lv_at hl 2 rfl) ?_
              refine lv_lload hx hb d_Reckoner_join_198 (lv_at hl 1 rfl) ?_
              refine lv_lneg hx hb d_Reckoner_join_200 ?_
              refine lv_lmul hx hb d_Reckoner_join_201 ?_
              obtain ⟨o_18, hG17, h⟩ := bind1_some h
              refine bw_call (Lc := [wReckoner ct a0 (s32 o0 4 0 ((g32 o0 4 0) - (2 : Int32)))]) (Lc' := [wReckoner ct a0 o_18]) (L' := [wReckoner ct a0 o_18]) [0] (va_runV (As := [.long ((-(g64 o0 2 (Int32.toNatClampNeg ((g32 o0 4 0) - (2 : Int32))))) * (g64 o0 3 (Int32.toNatClampNeg (((g32 o0 4 0) - (2 : Int32)) + (1 : Int32))))), .long ((g64 o0 3 (Int32.toNatClampNeg ((g32 o0 4 0) - (2 : Int32)))) * (-(g64 o0 2 (Int32.toNatClampNeg (((g32 o0 4 0) - (2 : Int32)) + (1 : Int32))))))]) (rest := []) ⟨hx, hb, hml, hown, hts⟩ (c_Reckoner_settle l ct dC dI a0 _ ((-(g64 o0 2 (Int32.toNatClampNeg ((g32 o0 4 0) - (2 : Int32))))) * (g64 o0 3 (Int32.toNatClampNeg (((g32 o0 4 0) - (2 : Int32)) + (1 : Int32))))) ((g64 o0 3 (Int32.toNatClampNeg ((g32 o0 4 0) - (2 : Int32)))) * (-(g64 o0 2 (Int32.toNatClampNeg (((g32 o0 4 0) - (2 : Int32)) + (1 : Int32)))))) (s32 o0 4 0 ((g32 o0 4 0) - (2 : Int32))) o_18 hG17) (cwV 2 hts g_Reckoner_124 rfl rfl rfl (by decide +kernel) ⟨Nat.le_of_ble_eq_true rfl, Nat.le_of_ble_eq_true rfl⟩) ⟨bw_blind nx_call, va_recv hK (hP 0 _ rfl) (ci := 4) (q0 := 0) rfl rfl, fun U hU hW => ⟨rfl, by rw [hU], by rw [hU]; exact hP.sub [0] rfl, va_K.moved hW.alike hK, (hN.sub [0] (by decide) rfl).weaken (fun _ _ => trivial), nx_warm hW hnx⟩⟩ rfl rfl hl.1 rfl (Nat.le_of_ble_eq_true rfl) d_Reckoner_join_202 ⟨Nat.le_of_ble_eq_true rfl, Nat.le_of_ble_eq_true rfl⟩) hP hN hS hA rfl rfl rfl (fun H locs hP hS => ?_)
              obtain rfl := res1 h
              exact W.vret hx hb hr (fun t ht hW => ⟨rfl, by rw [ht]; exact hP, hS.F ht⟩) hS.2.2 d_Reckoner_join_205
            · have h := ite_f c16 h
              refine lv_aload_n hx hb d_Reckoner_join_174 rfl (lv_at hl 4 rfl) ?_
              refine lv_lload_n hx hb d_Reckoner_join_175 rfl (lv_at hl 3 rfl) ?_
              refine lv_lload hx hb d_Reckoner_join_176 (lv_at hl 0 rfl) ?_
              refine lv_lmul hx hb d_Reckoner_join_178 ?_
              refine lv_lload hx hb d_Reckoner_join_179 (lv_at hl 2 rfl) ?_
              refine lv_lload hx hb d_Reckoner_join_181 (lv_at hl 1 rfl) ?_
              refine lv_lmul hx hb d_Reckoner_join_183 ?_
              obtain ⟨o_20, hG19, h⟩ := bind1_some h
              refine bw_call (Lc := [wReckoner ct a0 (s32 o0 4 0 ((g32 o0 4 0) - (2 : Int32)))]) (Lc' := [wReckoner ct a0 o_20]) (L' := [wReckoner ct a0 o_20]) [0] (va_runV (As := [.long ((g64 o0 2 (Int32.toNatClampNeg ((g32 o0 4 0) - (2 : Int32)))) * (g64 o0 3 (Int32.toNatClampNeg (((g32 o0 4 0) - (2 : Int32)) + (1 : Int32))))), .long ((g64 o0 3 (Int32.toNatClampNeg ((g32 o0 4 0) - (2 : Int32)))) * (g64 o0 2 (Int32.toNatClampNeg (((g32 o0 4 0) - (2 : Int32)) + (1 : Int32)))))]) (rest := []) ⟨hx, hb, hml, hown, hts⟩ (c_Reckoner_settle l ct dC dI a0 _ ((g64 o0 2 (Int32.toNatClampNeg ((g32 o0 4 0) - (2 : Int32)))) * (g64 o0 3 (Int32.toNatClampNeg (((g32 o0 4 0) - (2 : Int32)) + (1 : Int32))))) ((g64 o0 3 (Int32.toNatClampNeg ((g32 o0 4 0) - (2 : Int32)))) * (g64 o0 2 (Int32.toNatClampNeg (((g32 o0 4 0) - (2 : Int32)) + (1 : Int32))))) (s32 o0 4 0 ((g32 o0 4 0) - (2 : Int32))) o_20 hG19) (cwV 2 hts g_Reckoner_124 rfl rfl rfl (by decide +kernel) ⟨Nat.le_of_ble_eq_true rfl, Nat.le_of_ble_eq_true rfl⟩) ⟨bw_blind nx_call, va_recv hK (hP 0 _ rfl) (ci := 4) (q0 := 0) rfl rfl, fun U hU hW => ⟨rfl, by rw [hU], by rw [hU]; exact hP.sub [0] rfl, va_K.moved hW.alike hK, (hN.sub [0] (by decide) rfl).weaken (fun _ _ => trivial), nx_warm hW hnx⟩⟩ rfl rfl hl.1 rfl (Nat.le_of_ble_eq_true rfl) d_Reckoner_join_184 ⟨Nat.le_of_ble_eq_true rfl, Nat.le_of_ble_eq_true rfl⟩) hP hN hS hA rfl rfl rfl (fun H locs hP hS => ?_)
              refine lv_goto (tgt := 205) hx hb d_Reckoner_join_187 (by decide) ?_
              obtain rfl := res1 h
              exact W.vret hx hb hr (fun t ht hW => ⟨rfl, by rw [ht]; exact hP, hS.F ht⟩) hS.2.2 d_Reckoner_join_205
          · have h := ite_t c15 h
            refine lv_aload_n hx hb d_Reckoner_join_159 rfl (lv_at hl 4 rfl) ?_
            refine lv_iconst (v := 2) hx hb d_Reckoner_join_160 (by decide) ?_
            refine pt_Reckoner_5 hx hb hts hown hK hP hN hS 0 rfl (hts _ fl_Reckoner_28) d_Reckoner_join_161 (fun H locs hP hS => ?_)
            have hP : bw_P (dC, dI) vwCl [wReckoner ct a0 (s32 (s32 o0 4 0 ((g32 o0 4 0) - (2 : Int32))) 5 0 (2 : Int32))] H := hP
            refine lv_goto (tgt := 205) hx hb d_Reckoner_join_164 (by decide) ?_
            obtain rfl := res1 h
            exact W.vret hx hb hr (fun t ht hW => ⟨rfl, by rw [ht]; exact hP, hS.F ht⟩) hS.2.2 d_Reckoner_join_205
  · have h := ite_f c1 h
    obtain rfl := res1 h
    exact W.vret hx hb hr (fun t ht hW => ⟨rfl, by rw [ht]; exact hP, hS.F ht⟩) hS.2.2 d_Reckoner_join_8
theorem g_Reckoner_131 : GoodIn wsAll (wsV R_Reckoner 131 R_Reckoner y_Reckoner_pushCell ws_Reckoner_pushCell) := gd_V ml_Reckoner_131 im_Reckoner_pushCell se_Reckoner_pushCell ini_Reckoner cd_Reckoner_pushCell
theorem g_Reckoner_135 : GoodIn wsAll (wsV R_Reckoner 135 R_Reckoner y_Reckoner_negate ws_Reckoner_negate) := gd_V ml_Reckoner_135 im_Reckoner_negate se_Reckoner_negate ini_Reckoner cd_Reckoner_negate
theorem g_Reckoner_138 : GoodIn wsAll (wsV R_Reckoner 138 R_Reckoner y_Reckoner_join ws_Reckoner_join) := gd_V ml_Reckoner_138 im_Reckoner_join se_Reckoner_join ini_Reckoner cd_Reckoner_join
def F_Reckoner_reckon_32 (o1 o2 : Ob)  : Nat → Int32 → Int32 → Ob → Option (Bool × Ob)
  | 0, _, _, _ => none
  | n + 1, x2, x4, o0 =>
    chk (inb (x2 + (1 : Int32)) 401) (if (g32 o1 4 (Int32.toNatClampNeg (x2 + (1 : Int32)))) ≤ x4 then (if (g32 o0 5 0) = (1 : Int32) then (some (true, o0)) else (some (false, o0))) else (if (g32 o0 5 0) = (1 : Int32) then (chk (inb x4 400) (if (g32 o1 0 (Int32.toNatClampNeg x4)) = 1 then (bind1 (F_Reckoner_settle (Int32.toInt64 (g32 o1 1 (Int32.toNatClampNeg x4))) (Int32.toInt64 (g32 o1 2 (Int32.toNatClampNeg x4))) o0) (fun o_14 => F_Reckoner_reckon_32 o1 o2 n x2 (x4 + (1 : Int32)) o_14)) else (if (g32 o1 0 (Int32.toNatClampNeg x4)) = 2 then (chk (inb (g32 o1 1 (Int32.toNatClampNeg x4)) 8) (bind1 (F_Reckoner_push (g64 o0 0 (Int32.toNatClampNeg (g32 o1 1 (Int32.toNatClampNeg x4)))) (g64 o0 1 (Int32.toNatClampNeg (g32 o1 1 (Int32.toNatClampNeg x4)))) o0) (fun o_19 => F_Reckoner_reckon_32 o1 o2 n x2 (x4 + (1 : Int32)) o_19))) else (if (g32 o1 0 (Int32.toNatClampNeg x4)) = 3 then (bind1 (F_Reckoner_pushCell (g32 o1 1 (Int32.toNatClampNeg x4)) o0 o2) (fun o_22 => F_Reckoner_reckon_32 o1 o2 n x2 (x4 + (1 : Int32)) o_22)) else (if (g32 o1 0 (Int32.toNatClampNeg x4)) = 4 then (bind1 (F_Reckoner_negate o0) (fun o_25 => F_Reckoner_reckon_32 o1 o2 n x2 (x4 + (1 : Int32)) o_25)) else (bind1 (F_Reckoner_join (g32 o1 0 (Int32.toNatClampNeg x4)) o0) (fun o_28 => F_Reckoner_reckon_32 o1 o2 n x2 (x4 + (1 : Int32)) o_28))))))) else (if (g32 o0 5 0) = (1 : Int32) then (some (true, o0)) else (some (false, o0)))))
def F_Reckoner_reckon (x2 : Int32) (o0 o1 o2 : Ob) : Option (Bool × Ob) :=
  if x2 < 0 then (some (false, (s32 (s32 o0 4 0 (0 : Int32)) 5 0 (1 : Int32)))) else (if x2 < (g32 o1 6 0) then (chk (inb x2 401) (F_Reckoner_reckon_32 o1 o2 fuel x2 (g32 o1 4 (Int32.toNatClampNeg x2)) (s32 (s32 o0 4 0 (0 : Int32)) 5 0 (1 : Int32)))) else (some (false, (s32 (s32 o0 4 0 (0 : Int32)) 5 0 (1 : Int32)))))
abbrev ws_Reckoner_reckon : List Cond := Cond.code y_Reckoner_reckon b_Reckoner_reckon 6 (some .boolean) :: wsAll
abbrev rm_Reckoner_reckon : Room := { frames := 3, cells := 0, slots := 0, locals := 89 }
set_option maxHeartbeats 4000000 in
set_option maxRecDepth 100000 in
theorem k_Reckoner_reckon_32 {p : Program} {l : Launch} {e : Env} {s : State} {m : MethodId} {args : Array Value} {below : List Frame} {meth : Method} {c : Code} {A : Nat → Prop} {ct dC : Nat → ClassId} {dI : Nat → Nat → Nat} {a0 a1 a2 : Nat → Nat}  {r : Bool} {n0 : Ob} {o1 o2 : Ob}  (C0 : cx wsAll vwCl nx p s m args meth c (dC, dI) (tyA ct) b_Reckoner_reckon 6 (some .boolean) R_Reckoner A [adReckoner a0, adSteps a1, adCells a2])  : ∀ (n : Nat) (x2 : Int32) (x4 : Int32) (o0 : Ob) (H : Heap) (locs : List Loc) (ls : Array Slot), bw_P (dC, dI) vwCl [wReckoner ct a0 o0, wSteps ct a1 o1, wCells ct a2 o2] H → va_S A s.heap H locs → lv_has ls 6 [(0, .ref (a0 0)), (1, .ref (a1 0)), (2, .int x2), (3, .ref (a2 0)), (4, .int x4)] → F_Reckoner_reckon_32 o1 o2 n x2 x4 o0 = some (r, n0) → W p l e (headSpec ws_Reckoner_reckon rm_Reckoner_reckon).room s m args below meth c H locs 0 0 (MQ below (bw_Q (dC, dI) vwCl (some (.int (b2i r))) [wReckoner ct a0 n0, wSteps ct a1 o1, wCells ct a2 o2] A) args s 0 0 A) (F0 m 32 ls []) := by
  obtain ⟨hx, hb, hr, hml, hown, hlocks, hts, hK, hN, hA, hnx⟩ := id C0
  intro n
  induction n with
  | zero =>
    intro x2 x4 o0 H locs ls hP hS hl h
    cases h
  | succ n ih =>
    intro x2 x4 o0 H locs ls hP hS hl h
    rw [F_Reckoner_reckon_32] at h
    refine lv_iload hx hb d_Reckoner_reckon_32 (lv_at hl 4 rfl) ?_
    refine lv_aload_n hx hb d_Reckoner_reckon_34 rfl (lv_at hl 1 rfl) ?_
    refine va_get (D := (dC, dI)) (ci := 0) (v := .ref (a1 4)) (C := R_Steps) (T := T_Steps) (N := 7) hx hb hts in_Steps hown hK (hP 1 _ rfl) 0 rfl rfl 4 (by decide) (hts _ fl_Reckoner_112) (fun _ h9 => h9) rfl d_Reckoner_reckon_35 ?_
    refine lv_iload_n hx hb d_Reckoner_reckon_38 rfl (lv_at hl 2 rfl) ?_
    refine lv_iconst (v := 1) hx hb d_Reckoner_reckon_39 (by decide) ?_
    refine lv_iadd hx hb d_Reckoner_reckon_40 ?_
    obtain ⟨hi4, h⟩ := chk_some h
    refine va_iald (f := g32 o1 4) hx hb hK (hP 1 _ rfl) 4 0 rfl rfl (inb_in hi4) d_Reckoner_reckon_41 ?_
    refine lv_icmp_ge (tgt := 173) hx hb d_Reckoner_reckon_42 (by decide) (fun c5 => ?_) (fun c5 => ?_)
    · have h := ite_t c5 h
      refine lv_aload_n hx hb d_Reckoner_reckon_173 rfl (lv_at hl 0 rfl) ?_
      refine va_get (D := (dC, dI)) (ci := 4) (v := .int (g32 o0 5 0)) (C := R_Reckoner) (T := T_Reckoner) (N := 6) hx hb hts in_Reckoner hown hK (hP 0 _ rfl) 0 rfl rfl 5 (by decide) (hts _ fl_Reckoner_28) (fun _ h9 => h9) rfl d_Reckoner_reckon_174 ?_
      refine lv_iconst (v := 1) hx hb d_Reckoner_reckon_177 (by decide) ?_
      refine lv_icmp_ne (tgt := 185) hx hb d_Reckoner_reckon_178 (by decide) (fun c6 => ?_) (fun c6 => ?_)
      · have h := ite_f c6 h
        refine lv_iconst (v := 0) hx hb d_Reckoner_reckon_185 (by decide) ?_
        obtain ⟨rfl, rfl⟩ := res2 h
        exact W.zret hx hb hr rfl (fun t ht hW => ⟨rfl, by rw [ht]; exact hP, hS.F ht⟩) hS.2.2 d_Reckoner_reckon_186
      · have h := ite_t c6 h
        refine lv_iconst (v := 1) hx hb d_Reckoner_reckon_181 (by decide) ?_
        refine lv_goto (tgt := 186) hx hb d_Reckoner_reckon_182 (by decide) ?_
        obtain ⟨rfl, rfl⟩ := res2 h
        exact W.zret hx hb hr rfl (fun t ht hW => ⟨rfl, by rw [ht]; exact hP, hS.F ht⟩) hS.2.2 d_Reckoner_reckon_186
    · have h := ite_f c5 h
      refine lv_aload_n hx hb d_Reckoner_reckon_45 rfl (lv_at hl 0 rfl) ?_
      refine va_get (D := (dC, dI)) (ci := 4) (v := .int (g32 o0 5 0)) (C := R_Reckoner) (T := T_Reckoner) (N := 6) hx hb hts in_Reckoner hown hK (hP 0 _ rfl) 0 rfl rfl 5 (by decide) (hts _ fl_Reckoner_28) (fun _ h9 => h9) rfl d_Reckoner_reckon_46 ?_
      refine lv_iconst (v := 1) hx hb d_Reckoner_reckon_49 (by decide) ?_
      refine lv_icmp_ne (tgt := 173) hx hb d_Reckoner_reckon_50 (by decide) (fun c7 => ?_) (fun c7 => ?_)
      · have h := ite_f c7 h
        refine lv_aload_n hx hb d_Reckoner_reckon_173 rfl (lv_at hl 0 rfl) ?_
        refine va_get (D := (dC, dI)) (ci := 4) (v := .int (g32 o0 5 0)) (C := R_Reckoner) (T := T_Reckoner) (N := 6) hx hb hts in_Reckoner hown hK (hP 0 _ rfl) 0 rfl rfl 5 (by decide) (hts _ fl_Reckoner_28) (fun _ h9 => h9) rfl d_Reckoner_reckon_174 ?_
        refine lv_iconst (v := 1) hx hb d_Reckoner_reckon_177 (by decide) ?_
        refine lv_icmp_ne (tgt := 185) hx hb d_Reckoner_reckon_178 (by decide) (fun c8 => ?_) (fun c8 => ?_)
        · have h := ite_f c8 h
          refine lv_iconst (v := 0) hx hb d_Reckoner_reckon_185 (by decide) ?_
          obtain ⟨rfl, rfl⟩ := res2 h
          exact W.zret hx hb hr rfl (fun t ht hW => ⟨rfl, by rw [ht]; exact hP, hS.F ht⟩) hS.2.2 d_Reckoner_reckon_186
        · have h := ite_t c8 h
          refine lv_iconst (v := 1) hx hb d_Reckoner_reckon_181 (by decide) ?_
          refine lv_goto (tgt := 186) hx hb d_Reckoner_reckon_182 (by decide) ?_
          obtain ⟨rfl, rfl⟩ := res2 h
          exact W.zret hx hb hr rfl (fun t ht hW => ⟨rfl, by rw [ht]; exact hP, hS.F ht⟩) hS.2.2 d_Reckoner_reckon_186
      · have h := ite_t c7 h
        refine lv_aload_n hx hb d_Reckoner_reckon_53 rfl (lv_at hl 1 rfl) ?_
        refine va_get (D := (dC, dI)) (ci := 0) (v := .ref (a1 2)) (C := R_Steps) (T := T_Steps) (N := 7) hx hb hts in_Steps hown hK (hP 1 _ rfl) 0 rfl rfl 1 (by decide) (hts _ fl_Reckoner_115) (fun _ h9 => h9) rfl d_Reckoner_reckon_54 ?_
        refine lv_iload hx hb d_Reckoner_reckon_57 (lv_at hl 4 rfl) ?_
        obtain ⟨hi9, h⟩ := chk_some h
        refine va_iald (f := g32 o1 1) hx hb hK (hP 1 _ rfl) 2 0 rfl rfl (inb_in hi9) d_Reckoner_reckon_59 ?_
        refine lv_istore (lv' := [(5, .int (g32 o1 1 (Int32.toNatClampNeg x4))), (0, .ref (a0 0)), (1, .ref (a1 0)), (2, .int x2), (3, .ref (a2 0)), (4, .int x4)]) hx hb d_Reckoner_reckon_60 hl (by decide) rfl (fun ls hl => ?_)
        refine lv_aload_n hx hb d_Reckoner_reckon_62 rfl (lv_at hl 2 rfl) ?_
        refine va_get (D := (dC, dI)) (ci := 0) (v := .ref (a1 1)) (C := R_Steps) (T := T_Steps) (N := 7) hx hb hts in_Steps hown hK (hP 1 _ rfl) 0 rfl rfl 0 (by decide) (hts _ fl_Reckoner_118) (fun _ h9 => h9) rfl d_Reckoner_reckon_63 ?_
        refine lv_iload hx hb d_Reckoner_reckon_66 (lv_at hl 5 rfl) ?_
        refine va_iald (f := g32 o1 0) hx hb hK (hP 1 _ rfl) 1 0 rfl rfl (inb_in hi9) d_Reckoner_reckon_68 ?_
        by_cases c11 : (g32 o1 0 (Int32.toNatClampNeg x4)) = 1
        · have h := ite_t c11 h
          refine lv_tableIn (off := 31) (tgt := 100) hx hb d_Reckoner_reckon_69 (by rw [c11]; decide) (by rw [c11]; decide) (by rw [c11]; rfl) (by decide) ?_
          refine lv_aload_n hx hb d_Reckoner_reckon_100 rfl (lv_at hl 1 rfl) ?_
          refine lv_iload hx hb d_Reckoner_reckon_101 (lv_at hl 0 rfl) ?_
          refine lv_i2l (v := (Int32.toInt64 (g32 o1 1 (Int32.toNatClampNeg x4)))) hx hb d_Reckoner_reckon_103 rfl ?_
          refine lv_aload_n hx hb d_Reckoner_reckon_104 rfl (lv_at hl 2 rfl) ?_
          refine va_get (D := (dC, dI)) (ci := 0) (v := .ref (a1 3)) (C := R_Steps) (T := T_Steps) (N := 7) hx hb hts in_Steps hown hK (hP 1 _ rfl) 0 rfl rfl 2 (by decide) (hts _ fl_Reckoner_121) (fun _ h9 => h9) rfl d_Reckoner_reckon_105 ?_
          refine lv_iload hx hb d_Reckoner_reckon_108 (lv_at hl 5 rfl) ?_
          refine va_iald (f := g32 o1 2) hx hb hK (hP 1 _ rfl) 3 0 rfl rfl (inb_in hi9) d_Reckoner_reckon_110 ?_
          refine lv_i2l (v := (Int32.toInt64 (g32 o1 2 (Int32.toNatClampNeg x4)))) hx hb d_Reckoner_reckon_111 rfl ?_
          obtain ⟨o_14, hG13, h⟩ := bind1_some h
          refine bw_call (Lc := [wReckoner ct a0 o0]) (Lc' := [wReckoner ct a0 o_14]) (L' := [wReckoner ct a0 o_14, wSteps ct a1 o1, wCells ct a2 o2]) [0] (va_runV (As := [.long (Int32.toInt64 (g32 o1 1 (Int32.toNatClampNeg x4))), .long (Int32.toInt64 (g32 o1 2 (Int32.toNatClampNeg x4)))]) (rest := []) ⟨hx, hb, hml, hown, hts⟩ (c_Reckoner_settle l ct dC dI a0 _ (Int32.toInt64 (g32 o1 1 (Int32.toNatClampNeg x4))) (Int32.toInt64 (g32 o1 2 (Int32.toNatClampNeg x4))) o0 o_14 hG13) (cwV 2 hts g_Reckoner_124 rfl rfl rfl (by decide +kernel) ⟨Nat.le_of_ble_eq_true rfl, Nat.le_of_ble_eq_true rfl⟩) ⟨bw_blind nx_call, va_recv hK (hP 0 _ rfl) (ci := 4) (q0 := 0) rfl rfl, fun U hU hW => ⟨rfl, by rw [hU], by rw [hU]; exact hP.sub [0] rfl, va_K.moved hW.alike hK, (hN.sub [0] (by decide) rfl).weaken (fun _ _ => trivial), nx_warm hW hnx⟩⟩ rfl rfl hl.1 rfl (Nat.le_of_ble_eq_true rfl) d_Reckoner_reckon_112 ⟨Nat.le_of_ble_eq_true rfl, Nat.le_of_ble_eq_true rfl⟩) hP hN hS hA rfl rfl rfl (fun H locs hP hS => ?_)
          refine lv_goto (tgt := 167) hx hb d_Reckoner_reckon_115 (by decide) ?_
          refine lv_iinc (v := (x4 + (1 : Int32))) (lv' := [(4, .int (x4 + (1 : Int32))), (5, .int (g32 o1 1 (Int32.toNatClampNeg x4))), (0, .ref (a0 0)), (1, .ref (a1 0)), (2, .int x2), (3, .ref (a2 0))]) hx hb d_Reckoner_reckon_167 hl (k := 5) rfl rfl (by decide) rfl (fun ls hl => ?_)
          refine lv_goto (tgt := 32) hx hb d_Reckoner_reckon_170 (by decide) ?_
          exact ih x2 (x4 + (1 : Int32)) o_14 _ _ _ hP hS (lv_sub hl [2, 3, 4, 5, 0] rfl) h
        · have h := ite_f c11 h
          by_cases c15 : (g32 o1 0 (Int32.toNatClampNeg x4)) = 2
          · have h := ite_t c15 h
            refine lv_tableIn (off := 49) (tgt := 118) hx hb d_Reckoner_reckon_69 (by rw [c15]; decide) (by rw [c15]; decide) (by rw [c15]; rfl) (by decide) ?_
            refine lv_aload_n hx hb d_Reckoner_reckon_118 rfl (lv_at hl 1 rfl) ?_
            refine lv_aload_n hx hb d_Reckoner_reckon_119 rfl (lv_at hl 1 rfl) ?_
            refine va_get (D := (dC, dI)) (ci := 4) (v := .ref (a0 1)) (C := R_Reckoner) (T := T_Reckoner) (N := 6) hx hb hts in_Reckoner hown hK (hP 0 _ rfl) 0 rfl rfl 0 (by decide) (hts _ fl_Reckoner_9) (fun _ h9 => h9) rfl d_Reckoner_reckon_120 ?_
            refine lv_iload hx hb d_Reckoner_reckon_123 (lv_at hl 0 rfl) ?_
            obtain ⟨hi16, h⟩ := chk_some h
            refine va_lald (f := g64 o0 0) hx hb hK (hP 0 _ rfl) 1 1 rfl rfl (inb_in hi16) d_Reckoner_reckon_125 ?_
            refine lv_aload_n hx hb d_Reckoner_reckon_126 rfl (lv_at hl 1 rfl) ?_
            refine va_get (D := (dC, dI)) (ci := 4) (v := .ref (a0 2)) (C := R_Reckoner) (T := T_Reckoner) (N := 6) hx hb hts in_Reckoner hown hK (hP 0 _ rfl) 0 rfl rfl 1 (by decide) (hts _ fl_Reckoner_15) (fun _ h9 => h9) rfl d_Reckoner_reckon_127 ?_
            refine lv_iload hx hb d_Reckoner_reckon_130 (lv_at hl 0 rfl) ?_
            refine va_lald (f := g64 o0 1) hx hb hK (hP 0 _ rfl) 2 1 rfl rfl (inb_in hi16) d_Reckoner_reckon_132 ?_
            obtain ⟨o_19, hG18, h⟩ := bind1_some h
            refine bw_call (Lc := [wReckoner ct a0 o0]) (Lc' := [wReckoner ct a0 o_19]) (L' := [wReckoner ct a0 o_19, wSteps ct a1 o1, wCells ct a2 o2]) [0] (va_runV (As := [.long (g64 o0 0 (Int32.toNatClampNeg (g32 o1 1 (Int32.toNatClampNeg x4)))), .long (g64 o0 1 (Int32.toNatClampNeg (g32 o1 1 (Int32.toNatClampNeg x4))))]) (rest := []) ⟨hx, hb, hml, hown, hts⟩ (c_Reckoner_push l ct dC dI a0 _ (g64 o0 0 (Int32.toNatClampNeg (g32 o1 1 (Int32.toNatClampNeg x4)))) (g64 o0 1 (Int32.toNatClampNeg (g32 o1 1 (Int32.toNatClampNeg x4)))) o0 o_19 hG18) (cwV 2 hts g_Reckoner_128 rfl rfl rfl (by decide +kernel) ⟨Nat.le_of_ble_eq_true rfl, Nat.le_of_ble_eq_true rfl⟩) ⟨bw_blind nx_call, va_recv hK (hP 0 _ rfl) (ci := 4) (q0 := 0) rfl rfl, fun U hU hW => ⟨rfl, by rw [hU], by rw [hU]; exact hP.sub [0] rfl, va_K.moved hW.alike hK, (hN.sub [0] (by decide) rfl).weaken (fun _ _ => trivial), nx_warm hW hnx⟩⟩ rfl rfl hl.1 rfl (Nat.le_of_ble_eq_true rfl) d_Reckoner_reckon_133 ⟨Nat.le_of_ble_eq_true rfl, Nat.le_of_ble_eq_true rfl⟩) hP hN hS hA rfl rfl rfl (fun H locs hP hS => ?_)
            refine lv_goto (tgt := 167) hx hb d_Reckoner_reckon_136 (by decide) ?_
            refine lv_iinc (v := (x4 + (1 : Int32))) (lv' := [(4, .int (x4 + (1 : Int32))), (5, .int (g32 o1 1 (Int32.toNatClampNeg x4))), (0, .ref (a0 0)), (1, .ref (a1 0)), (2, .int x2), (3, .ref (a2 0))]) hx hb d_Reckoner_reckon_167 hl (k := 5) rfl rfl (by decide) rfl (fun ls hl => ?_)
            refine lv_goto (tgt := 32) hx hb d_Reckoner_reckon_170 (by decide) ?_
            exact ih x2 (x4 + (1 : Int32)) o_19 _ _ _ hP hS (lv_sub hl [2, 3, 4, 5, 0] rfl) h
          · have h := ite_f c15 h
            by_cases c20 : (g32 o1 0 (Int32.toNatClampNeg x4)) = 3
            · have h := ite_t c20 h
              refine lv_tableIn (off := 70) (tgt := 139) hx hb d_Reckoner_reckon_69 (by rw [c20]; decide) (by rw [c20]; decide) (by rw [c20]; rfl) (by decide) ?_
              refine lv_aload_n hx hb d_Reckoner_reckon_139 rfl (lv_at hl 1 rfl) ?_
              refine lv_iload hx hb d_Reckoner_reckon_140 (lv_at hl 0 rfl) ?_
              refine lv_aload_n hx hb d_Reckoner_reckon_142 rfl (lv_at hl 4 rfl) ?_
              obtain ⟨o_22, hG21, h⟩ := bind1_some h
              refine bw_call (Lc := [wReckoner ct a0 o0, wCells ct a2 o2]) (Lc' := [wReckoner ct a0 o_22, wCells ct a2 o2]) (L' := [wReckoner ct a0 o_22, wSteps ct a1 o1, wCells ct a2 o2]) [0, 2] (va_runV (As := [.int (g32 o1 1 (Int32.toNatClampNeg x4)), .ref (a2 0)]) (rest := []) ⟨hx, hb, hml, hown, hts⟩ (c_Reckoner_pushCell l ct dC dI a0 a2 _ (g32 o1 1 (Int32.toNatClampNeg x4)) o0 o2 o_22 hG21) (cwV 2 hts g_Reckoner_131 rfl rfl rfl (by decide +kernel) ⟨Nat.le_of_ble_eq_true rfl, Nat.le_of_ble_eq_true rfl⟩) ⟨bw_blind nx_call, va_recv hK (hP 0 _ rfl) (ci := 4) (q0 := 0) rfl rfl, fun U hU hW => ⟨rfl, by rw [hU], by rw [hU]; exact hP.sub [0, 2] rfl, va_K.moved hW.alike hK, (hN.sub [0, 2] (by decide) rfl).weaken (fun _ _ => trivial), nx_warm hW hnx⟩⟩ rfl rfl hl.1 rfl (Nat.le_of_ble_eq_true rfl) d_Reckoner_reckon_143 ⟨Nat.le_of_ble_eq_true rfl, Nat.le_of_ble_eq_true rfl⟩) hP hN hS hA rfl rfl rfl (fun H locs hP hS => ?_)
              refine lv_goto (tgt := 167) hx hb d_Reckoner_reckon_146 (by decide) ?_
              refine lv_iinc (v := (x4 + (1 : Int32))) (lv' := [(4, .int (x4 + (1 : Int32))), (5, .int (g32 o1 1 (Int32.toNatClampNeg x4))), (0, .ref (a0 0)), (1, .ref (a1 0)), (2, .int x2), (3, .ref (a2 0))]) hx hb d_Reckoner_reckon_167 hl (k := 5) rfl rfl (by decide) rfl (fun ls hl => ?_)
              refine lv_goto (tgt := 32) hx hb d_Reckoner_reckon_170 (by decide) ?_
              exact ih x2 (x4 + (1 : Int32)) o_22 _ _ _ hP hS (lv_sub hl [2, 3, 4, 5, 0] rfl) h
            · have h := ite_f c20 h
              by_cases c23 : (g32 o1 0 (Int32.toNatClampNeg x4)) = 4
              · have h := ite_t c23 h
                refine lv_tableIn (off := 80) (tgt := 149) hx hb d_Reckoner_reckon_69 (by rw [c23]; decide) (by rw [c23]; decide) (by rw [c23]; rfl) (by decide) ?_
                refine lv_aload_n hx hb d_Reckoner_reckon_149 rfl (lv_at hl 1 rfl) ?_
                obtain ⟨o_25, hG24, h⟩ := bind1_some h
                refine bw_call (Lc := [wReckoner ct a0 o0]) (Lc' := [wReckoner ct a0 o_25]) (L' := [wReckoner ct a0 o_25, wSteps ct a1 o1, wCells ct a2 o2]) [0] (va_runV (As := []) (rest := []) ⟨hx, hb, hml, hown, hts⟩ (c_Reckoner_negate l ct dC dI a0 _ o0 o_25 hG24) (cwV 0 hts g_Reckoner_135 rfl rfl rfl (by decide +kernel) ⟨Nat.le_of_ble_eq_true rfl, Nat.le_of_ble_eq_true rfl⟩) ⟨bw_blind nx_call, va_recv hK (hP 0 _ rfl) (ci := 4) (q0 := 0) rfl rfl, fun U hU hW => ⟨rfl, by rw [hU], by rw [hU]; exact hP.sub [0] rfl, va_K.moved hW.alike hK, (hN.sub [0] (by decide) rfl).weaken (fun _ _ => trivial), nx_warm hW hnx⟩⟩ rfl rfl hl.1 rfl (Nat.le_of_ble_eq_true rfl) d_Reckoner_reckon_150 ⟨Nat.le_of_ble_eq_true rfl, Nat.le_of_ble_eq_true rfl⟩) hP hN hS hA rfl rfl rfl (fun H locs hP hS => ?_)
                refine lv_goto (tgt := 167) hx hb d_Reckoner_reckon_153 (by decide) ?_
                refine lv_iinc (v := (x4 + (1 : Int32))) (lv' := [(4, .int (x4 + (1 : Int32))), (5, .int (g32 o1 1 (Int32.toNatClampNeg x4))), (0, .ref (a0 0)), (1, .ref (a1 0)), (2, .int x2), (3, .ref (a2 0))]) hx hb d_Reckoner_reckon_167 hl (k := 5) rfl rfl (by decide) rfl (fun ls hl => ?_)
                refine lv_goto (tgt := 32) hx hb d_Reckoner_reckon_170 (by decide) ?_
                exact ih x2 (x4 + (1 : Int32)) o_25 _ _ _ hP hS (lv_sub hl [2, 3, 4, 5, 0] rfl) h
              · have h := ite_f c23 h
                refine lv_tableOut (tgt := 156) hx hb d_Reckoner_reckon_69 (sw_out1_4 c11 c15 c20 c23) (by decide) ?_
                refine lv_aload_n hx hb d_Reckoner_reckon_156 rfl (lv_at hl 1 rfl) ?_
                refine lv_aload_n hx hb d_Reckoner_reckon_157 rfl (lv_at hl 2 rfl) ?_
                refine va_get (D := (dC, dI)) (ci := 0) (v := .ref (a1 1)) (C := R_Steps) (T := T_Steps) (N := 7) hx hb hts in_Steps hown hK (hP 1 _ rfl) 0 rfl rfl 0 (by decide) (hts _ fl_Reckoner_118) (fun _ h9 => h9) rfl d_Reckoner_reckon_158 ?_
                refine lv_iload hx hb d_Reckoner_reckon_161 (lv_at hl 5 rfl) ?_
                refine va_iald (f := g32 o1 0) hx hb hK (hP 1 _ rfl) 1 0 rfl rfl (inb_in hi9) d_Reckoner_reckon_163 ?_
                obtain ⟨o_28, hG27, h⟩ := bind1_some h
                refine bw_call (Lc := [wReckoner ct a0 o0]) (Lc' := [wReckoner ct a0 o_28]) (L' := [wReckoner ct a0 o_28, wSteps ct a1 o1, wCells ct a2 o2]) [0] (va_runV (As := [.int (g32 o1 0 (Int32.toNatClampNeg x4))]) (rest := []) ⟨hx, hb, hml, hown, hts⟩ (c_Reckoner_join l ct dC dI a0 _ (g32 o1 0 (Int32.toNatClampNeg x4)) o0 o_28 hG27) (cwV 1 hts g_Reckoner_138 rfl rfl rfl (by decide +kernel) ⟨Nat.le_of_ble_eq_true rfl, Nat.le_of_ble_eq_true rfl⟩) ⟨bw_blind nx_call, va_recv hK (hP 0 _ rfl) (ci := 4) (q0 := 0) rfl rfl, fun U hU hW => ⟨rfl, by rw [hU], by rw [hU]; exact hP.sub [0] rfl, va_K.moved hW.alike hK, (hN.sub [0] (by decide) rfl).weaken (fun _ _ => trivial), nx_warm hW hnx⟩⟩ rfl rfl hl.1 rfl (Nat.le_of_ble_eq_true rfl) d_Reckoner_reckon_164 ⟨Nat.le_of_ble_eq_true rfl, Nat.le_of_ble_eq_true rfl⟩) hP hN hS hA rfl rfl rfl (fun H locs hP hS => ?_)
                refine lv_iinc (v := (x4 + (1 : Int32))) (lv' := [(4, .int (x4 + (1 : Int32))), (5, .int (g32 o1 1 (Int32.toNatClampNeg x4))), (0, .ref (a0 0)), (1, .ref (a1 0)), (2, .int x2), (3, .ref (a2 0))]) hx hb d_Reckoner_reckon_167 hl (k := 5) rfl rfl (by decide) rfl (fun ls hl => ?_)
                refine lv_goto (tgt := 32) hx hb d_Reckoner_reckon_170 (by decide) ?_
                exact ih x2 (x4 + (1 : Int32)) o_28 _ _ _ hP hS (lv_sub hl [2, 3, 4, 5, 0] rfl) h
set_option maxHeartbeats 4000000 in
set_option maxRecDepth 100000 in
theorem c_Reckoner_reckon (l : Launch) (ct dC : Nat → ClassId) (dI : Nat → Nat → Nat) (a0 a1 a2 : Nat → Nat)  (sz : Nat) (x2 : Int32) (o0 o1 o2 : Ob) (r : Bool) (n0 : Ob) (hF : F_Reckoner_reckon x2 o0 o1 o2 = some (r, n0)) : Met l y_Reckoner_reckon ws_Reckoner_reckon rm_Reckoner_reckon (bw_Pc [.ref (a0 0), .ref (a1 0), .int x2, .ref (a2 0)] (dC, dI) vwCl (tyA ct) [wReckoner ct a0 o0, wSteps ct a1 o1, wCells ct a2 o2] sz nx) (bw_Q (dC, dI) vwCl (some (.int (b2i r))) [wReckoner ct a0 n0, wSteps ct a1 o1, wCells ct a2 o2] (bw_A [adReckoner a0, adSteps a1, adCells a2] sz)) 0 0 (bw_A [adReckoner a0, adSteps a1, adCells a2] sz) := by
  refine Met.ofW (cc := b_Reckoner_reckon) (maxL := 6) (ret := (some .boolean)) (by decide) rfl ?_
  intro p e s m args below meth c s₁ B hml hv
  obtain ⟨rfl, hsz, hP, hK, hN0, hnx⟩ := hv
  have hx := B.exec
  have hb := B.bytes
  have hr := B.returns
  have hts : ∀ w ∈ wsAll, w.before [.ref (a0 0), .ref (a1 0), .int x2, .ref (a2 0)].toArray s = true := fun w h9 => atoms_spec (ws := ws_Reckoner_reckon) B.pre w (List.mem_cons_of_mem _ h9)
  have hown : s.vm.findClass R_Reckoner = some m.cls := findClass_of_methodNamed B.named
  have hlocks := B.notSynchronized
  subst hsz
  have hN : bw_N (bw_A [adReckoner a0, adSteps a1, adCells a2] s.heap.size) [adReckoner a0, adSteps a1, adCells a2] := hN0.self s.heap.size
  generalize hAe : bw_A [adReckoner a0, adSteps a1, adCells a2] s.heap.size = A at hN ⊢
  have hA : ∀ q : Nat, s.heap.size ≤ q → A q := fun q h => by rw [← hAe]; exact Or.inr h
  have hS : va_S A s.heap s.heap [] := va_S.rf
  have hl := lv_entry ([.ref (a0 0), .ref (a1 0), .int x2, .ref (a2 0)]) (n := 6) (Nat.le_of_ble_eq_true rfl)
  rw [lg_entry_eq]
  generalize (lg_sl ([.ref (a0 0), .ref (a1 0), .int x2, .ref (a2 0)]) ++ List.replicate (6 - (lg_sl ([.ref (a0 0), .ref (a1 0), .int x2, .ref (a2 0)])).length) Slot.unset).toArray = ls at hl ⊢
  have hl : lv_has ls 6 [(0, .ref (a0 0)), (1, .ref (a1 0)), (2, .int x2), (3, .ref (a2 0))] := hl
  have C0 : cx wsAll vwCl nx p s m [.ref (a0 0), .ref (a1 0), .int x2, .ref (a2 0)].toArray meth c (dC, dI) (tyA ct) b_Reckoner_reckon 6 (some .boolean) R_Reckoner A [adReckoner a0, adSteps a1, adCells a2] := ⟨hx, hb, hr, hml, hown, hlocks, hts, hK, hN, hA, hnx⟩
  have h := hF
  rw [F_Reckoner_reckon] at h
  refine lv_aload_n hx hb d_Reckoner_reckon_0 rfl (lv_at hl 0 rfl) ?_
  refine lv_iconst (v := 0) hx hb d_Reckoner_reckon_1 (by decide) ?_
  refine pt_Reckoner_4 hx hb hts hown hK hP hN hS 0 rfl (hts _ fl_Reckoner_24) d_Reckoner_reckon_2 (fun H locs hP hS => ?_)
  have hP : bw_P (dC, dI) vwCl [wReckoner ct a0 (s32 o0 4 0 (0 : Int32)), wSteps ct a1 o1, wCells ct a2 o2] H := hP
  refine lv_aload_n hx hb d_Reckoner_reckon_5 rfl (lv_at hl 0 rfl) ?_
  refine lv_iconst (v := 1) hx hb d_Reckoner_reckon_6 (by decide) ?_
  refine pt_Reckoner_5 hx hb hts hown hK hP hN hS 0 rfl (hts _ fl_Reckoner_28) d_Reckoner_reckon_7 (fun H locs hP hS => ?_)
  have hP : bw_P (dC, dI) vwCl [wReckoner ct a0 (s32 (s32 o0 4 0 (0 : Int32)) 5 0 (1 : Int32)), wSteps ct a1 o1, wCells ct a2 o2] H := hP
  refine lv_iload_n hx hb d_Reckoner_reckon_10 rfl (lv_at hl 2 rfl) ?_
  refine lv_if_lt (tgt := 22) hx hb d_Reckoner_reckon_11 (by decide) (fun c1 => ?_) (fun c1 => ?_)
  · have h := ite_t c1 h
    refine lv_iconst (v := 0) hx hb d_Reckoner_reckon_22 (by decide) ?_
    obtain ⟨rfl, rfl⟩ := res2 h
    exact W.zret hx hb hr rfl (fun t ht hW => ⟨rfl, by rw [ht]; exact hP, hS.F ht⟩) hS.2.2 d_Reckoner_reckon_23
  · have h := ite_f c1 h
    refine lv_iload_n hx hb d_Reckoner_reckon_14 rfl (lv_at hl 2 rfl) ?_
    refine lv_aload_n hx hb d_Reckoner_reckon_15 rfl (lv_at hl 1 rfl) ?_
    refine va_get (D := (dC, dI)) (ci := 0) (v := .int (g32 o1 6 0)) (C := R_Steps) (T := T_Steps) (N := 7) hx hb hts in_Steps hown hK (hP 1 _ rfl) 0 rfl rfl 6 (by decide) (hts _ fl_Reckoner_109) (fun _ h9 => h9) rfl d_Reckoner_reckon_16 ?_
    refine lv_icmp_lt (tgt := 24) hx hb d_Reckoner_reckon_19 (by decide) (fun c2 => ?_) (fun c2 => ?_)
    · have h := ite_t c2 h
      refine lv_aload_n hx hb d_Reckoner_reckon_24 rfl (lv_at hl 1 rfl) ?_
      refine va_get (D := (dC, dI)) (ci := 0) (v := .ref (a1 4)) (C := R_Steps) (T := T_Steps) (N := 7) hx hb hts in_Steps hown hK (hP 1 _ rfl) 0 rfl rfl 4 (by decide) (hts _ fl_Reckoner_112) (fun _ h9 => h9) rfl d_Reckoner_reckon_25 ?_
      refine lv_iload_n hx hb d_Reckoner_reckon_28 rfl (lv_at hl 2 rfl) ?_
      obtain ⟨hi3, h⟩ := chk_some h
      refine va_iald (f := g32 o1 4) hx hb hK (hP 1 _ rfl) 4 0 rfl rfl (inb_in hi3) d_Reckoner_reckon_29 ?_
      refine lv_istore (lv' := [(4, .int (g32 o1 4 (Int32.toNatClampNeg x2))), (0, .ref (a0 0)), (1, .ref (a1 0)), (2, .int x2), (3, .ref (a2 0))]) hx hb d_Reckoner_reckon_30 hl (by decide) rfl (fun ls hl => ?_)
      exact k_Reckoner_reckon_32 C0 fuel x2 (g32 o1 4 (Int32.toNatClampNeg x2)) (s32 (s32 o0 4 0 (0 : Int32)) 5 0 (1 : Int32)) _ _ _ hP hS (lv_sub hl [1, 2, 3, 4, 0] rfl) h
    · have h := ite_f c2 h
      refine lv_iconst (v := 0) hx hb d_Reckoner_reckon_22 (by decide) ?_
      obtain ⟨rfl, rfl⟩ := res2 h
      exact W.zret hx hb hr rfl (fun t ht hW => ⟨rfl, by rw [ht]; exact hP, hS.F ht⟩) hS.2.2 d_Reckoner_reckon_23
theorem g_Reckoner_79 : GoodIn wsAll (wsV R_Reckoner 79 R_Reckoner y_Reckoner_reckon ws_Reckoner_reckon) := gd_V ml_Reckoner_79 im_Reckoner_reckon se_Reckoner_reckon ini_Reckoner cd_Reckoner_reckon
theorem g_Reckoner_97 : GoodIn wsAll (va_wsS R_Reckoner 97 y_JLong_compare ws_JLong_compare) := gd_T ml_Reckoner_97 st_JLong_compare ini_JLong cd_JLong_compare
def F_Reckoner_judge (x2 : Int32) (o0 o1 o2 : Ob) : Option (Int32 × Ob) :=
  bind2 (F_Reckoner_reckon x2 o0 o1 o2) (fun v2 o_3 => if (b2i v2) = 0 then (some ((g32 o_3 5 0), o_3)) else (chk (inb (0 : Int32) 19) (bind2 (F_Reckoner_reckon (x2 + (1 : Int32)) o_3 o1 o2) (fun v8 o_9 => if (b2i v8) = 0 then (some ((g32 o_9 5 0), o_9)) else (bind1 (F_JLong_compare ((g64 o_3 2 (Int32.toNatClampNeg (0 : Int32))) * (g64 o_9 3 (Int32.toNatClampNeg (0 : Int32)))) ((g64 o_9 2 (Int32.toNatClampNeg (0 : Int32))) * (g64 o_3 3 (Int32.toNatClampNeg (0 : Int32))))) (fun v14 => chk (inb x2 401) (if (g32 o1 5 (Int32.toNatClampNeg x2)) = (60 : Int32) then (if 0 ≤ v14 then (if (0 : Int32) = 0 then (some ((1 : Int32), o_9)) else (some ((0 : Int32), o_9))) else (if (1 : Int32) = 0 then (some ((1 : Int32), o_9)) else (some ((0 : Int32), o_9)))) else (if (g32 o1 5 (Int32.toNatClampNeg x2)) = (62 : Int32) then (if v14 ≤ 0 then (if (0 : Int32) = 0 then (some ((1 : Int32), o_9)) else (some ((0 : Int32), o_9))) else (if (1 : Int32) = 0 then (some ((1 : Int32), o_9)) else (some ((0 : Int32), o_9)))) else (if v14 = 0 then (if (1 : Int32) = 0 then (some ((1 : Int32), o_9)) else (some ((0 : Int32), o_9))) else (if (0 : Int32) = 0 then (some ((1 : Int32), o_9)) else (some ((0 : Int32), o_9))))))))))))
abbrev ws_Reckoner_judge : List Cond := Cond.code y_Reckoner_judge b_Reckoner_judge 11 (some .int) :: wsAll
abbrev rm_Reckoner_judge : Room := { frames := 4, cells := 0, slots := 0, locals := 114 }
set_option maxHeartbeats 4000000 in
set_option maxRecDepth 100000 in
theorem c_Reckoner_judge (l : Launch) (ct dC : Nat → ClassId) (dI : Nat → Nat → Nat) (a0 a1 a2 : Nat → Nat)  (sz : Nat) (x2 : Int32) (o0 o1 o2 : Ob) (r : Int32) (n0 : Ob) (hF : F_Reckoner_judge x2 o0 o1 o2 = some (r, n0)) : Met l y_Reckoner_judge ws_Reckoner_judge rm_Reckoner_judge (bw_Pc [.ref (a0 0), .ref (a1 0), .int x2, .ref (a2 0)] (dC, dI) vwCl (tyA ct) [wReckoner ct a0 o0, wSteps ct a1 o1, wCells ct a2 o2] sz nx) (bw_Q (dC, dI) vwCl (some (.int r)) [wReckoner ct a0 n0, wSteps ct a1 o1, wCells ct a2 o2] (bw_A [adReckoner a0, adSteps a1, adCells a2] sz)) 0 0 (bw_A [adReckoner a0, adSteps a1, adCells a2] sz) := by
  refine Met.ofW (cc := b_Reckoner_judge) (maxL := 11) (ret := (some .int)) (by decide) rfl ?_
  intro p e s m args below meth c s₁ B hml hv
  obtain ⟨rfl, hsz, hP, hK, hN0, hnx⟩ := hv
  have hx := B.exec
  have hb := B.bytes
  have hr := B.returns
  have hts : ∀ w ∈ wsAll, w.before [.ref (a0 0), .ref (a1 0), .int x2, .ref (a2 0)].toArray s = true := fun w h9 => atoms_spec (ws := ws_Reckoner_judge) B.pre w (List.mem_cons_of_mem _ h9)
  have hown : s.vm.findClass R_Reckoner = some m.cls := findClass_of_methodNamed B.named
  have hlocks := B.notSynchronized
  subst hsz
  have hN : bw_N (bw_A [adReckoner a0, adSteps a1, adCells a2] s.heap.size) [adReckoner a0, adSteps a1, adCells a2] := hN0.self s.heap.size
  generalize hAe : bw_A [adReckoner a0, adSteps a1, adCells a2] s.heap.size = A at hN ⊢
  have hA : ∀ q : Nat, s.heap.size ≤ q → A q := fun q h => by rw [← hAe]; exact Or.inr h
  have hS : va_S A s.heap s.heap [] := va_S.rf
  have hl := lv_entry ([.ref (a0 0), .ref (a1 0), .int x2, .ref (a2 0)]) (n := 11) (Nat.le_of_ble_eq_true rfl)
  rw [lg_entry_eq]
  generalize (lg_sl ([.ref (a0 0), .ref (a1 0), .int x2, .ref (a2 0)]) ++ List.replicate (11 - (lg_sl ([.ref (a0 0), .ref (a1 0), .int x2, .ref (a2 0)])).length) Slot.unset).toArray = ls at hl ⊢
  have hl : lv_has ls 11 [(0, .ref (a0 0)), (1, .ref (a1 0)), (2, .int x2), (3, .ref (a2 0))] := hl
  have C0 : cx wsAll vwCl nx p s m [.ref (a0 0), .ref (a1 0), .int x2, .ref (a2 0)].toArray meth c (dC, dI) (tyA ct) b_Reckoner_judge 11 (some .int) R_Reckoner A [adReckoner a0, adSteps a1, adCells a2] := ⟨hx, hb, hr, hml, hown, hlocks, hts, hK, hN, hA, hnx⟩
  have h := hF
  rw [F_Reckoner_judge] at h
  refine lv_aload_n hx hb d_Reckoner_judge_0 rfl (lv_at hl 0 rfl) ?_
  refine lv_aload_n hx hb d_Reckoner_judge_1 rfl (lv_at hl 1 rfl) ?_
  refine lv_iload_n hx hb d_Reckoner_judge_2 rfl (lv_at hl 2 rfl) ?_
  refine lv_aload_n hx hb d_Reckoner_judge_3 rfl (lv_at hl 3 rfl) ?_
  obtain ⟨v2, o_3, hG1, h⟩ := bind2_some h
  refine bw_call (Lc := [wReckoner ct a0 o0, wSteps ct a1 o1, wCells ct a2 o2]) (Lc' := [wReckoner ct a0 o_3, wSteps ct a1 o1, wCells ct a2 o2]) (L' := [wReckoner ct a0 o_3, wSteps ct a1 o1, wCells ct a2 o2]) [0, 1, 2] (va_runV (As := [.ref (a1 0), .int x2, .ref (a2 0)]) (rest := []) ⟨hx, hb, hml, hown, hts⟩ (c_Reckoner_reckon l ct dC dI a0 a1 a2 _ x2 o0 o1 o2 v2 o_3 hG1) (cwV 3 hts g_Reckoner_79 rfl rfl rfl (by decide +kernel) ⟨Nat.le_of_ble_eq_true rfl, Nat.le_of_ble_eq_true rfl⟩) ⟨bw_blind nx_call, va_recv hK (hP 0 _ rfl) (ci := 4) (q0 := 0) rfl rfl, fun U hU hW => ⟨rfl, by rw [hU], by rw [hU]; exact hP.sub [0, 1, 2] rfl, va_K.moved hW.alike hK, (hN.sub [0, 1, 2] (by decide) rfl).weaken (fun _ _ => trivial), nx_warm hW hnx⟩⟩ rfl rfl hl.1 rfl (Nat.le_of_ble_eq_true rfl) d_Reckoner_judge_4 ⟨Nat.le_of_ble_eq_true rfl, Nat.le_of_ble_eq_true rfl⟩) hP hN hS hA rfl rfl rfl (fun H locs hP hS => ?_)
  refine lv_if_ne (tgt := 15) hx hb d_Reckoner_judge_7 (by decide) (fun c4 => ?_) (fun c4 => ?_)
  · have h := ite_f c4 h
    refine lv_aload_n hx hb d_Reckoner_judge_15 rfl (lv_at hl 0 rfl) ?_
    refine va_get (D := (dC, dI)) (ci := 4) (v := .ref (a0 3)) (C := R_Reckoner) (T := T_Reckoner) (N := 6) hx hb hts in_Reckoner hown hK (hP 0 _ rfl) 0 rfl rfl 2 (by decide) (hts _ fl_Reckoner_18) (fun _ h9 => h9) rfl d_Reckoner_judge_16 ?_
    refine lv_iconst (v := 0) hx hb d_Reckoner_judge_19 (by decide) ?_
    obtain ⟨hi5, h⟩ := chk_some h
    refine va_lald (f := g64 o_3 2) hx hb hK (hP 0 _ rfl) 3 1 rfl rfl (inb_in hi5) d_Reckoner_judge_20 ?_
    refine lv_lstore (lv' := [(4, .long (g64 o_3 2 (Int32.toNatClampNeg (0 : Int32)))), (0, .ref (a0 0)), (1, .ref (a1 0)), (2, .int x2), (3, .ref (a2 0))]) hx hb d_Reckoner_judge_21 hl (by decide) rfl (fun ls hl => ?_)
    refine lv_aload_n hx hb d_Reckoner_judge_23 rfl (lv_at hl 1 rfl) ?_
    refine va_get (D := (dC, dI)) (ci := 4) (v := .ref (a0 4)) (C := R_Reckoner) (T := T_Reckoner) (N := 6) hx hb hts in_Reckoner hown hK (hP 0 _ rfl) 0 rfl rfl 3 (by decide) (hts _ fl_Reckoner_21) (fun _ h9 => h9) rfl d_Reckoner_judge_24 ?_
    refine lv_iconst (v := 0) hx hb d_Reckoner_judge_27 (by decide) ?_
    refine va_lald (f := g64 o_3 3) hx hb hK (hP 0 _ rfl) 4 1 rfl rfl (inb_in hi5) d_Reckoner_judge_28 ?_
    refine lv_lstore (lv' := [(6, .long (g64 o_3 3 (Int32.toNatClampNeg (0 : Int32)))), (4, .long (g64 o_3 2 (Int32.toNatClampNeg (0 : Int32)))), (0, .ref (a0 0)), (1, .ref (a1 0)), (2, .int x2), (3, .ref (a2 0))]) hx hb d_Reckoner_judge_29 hl (by decide) rfl (fun ls hl => ?_)
    refine lv_aload_n hx hb d_Reckoner_judge_31 rfl (lv_at hl 2 rfl) ?_
    refine lv_aload_n hx hb d_Reckoner_judge_32 rfl (lv_at hl 3 rfl) ?_
    refine lv_iload_n hx hb d_Reckoner_judge_33 rfl (lv_at hl 4 rfl) ?_
    refine lv_iconst (v := 1) hx hb d_Reckoner_judge_34 (by decide) ?_
    refine lv_iadd hx hb d_Reckoner_judge_35 ?_
    refine lv_aload_n hx hb d_Reckoner_judge_36 rfl (lv_at hl 5 rfl) ?_
    obtain ⟨v8, o_9, hG7, h⟩ := bind2_some h
    refine bw_call (Lc := [wReckoner ct a0 o_3, wSteps ct a1 o1, wCells ct a2 o2]) (Lc' := [wReckoner ct a0 o_9, wSteps ct a1 o1, wCells ct a2 o2]) (L' := [wReckoner ct a0 o_9, wSteps ct a1 o1, wCells ct a2 o2]) [0, 1, 2] (va_runV (As := [.ref (a1 0), .int (x2 + (1 : Int32)), .ref (a2 0)]) (rest := []) ⟨hx, hb, hml, hown, hts⟩ (c_Reckoner_reckon l ct dC dI a0 a1 a2 _ (x2 + (1 : Int32)) o_3 o1 o2 v8 o_9 hG7) (cwV 3 hts g_Reckoner_79 rfl rfl rfl (by decide +kernel) ⟨Nat.le_of_ble_eq_true rfl, Nat.le_of_ble_eq_true rfl⟩) ⟨bw_blind nx_call, va_recv hK (hP 0 _ rfl) (ci := 4) (q0 := 0) rfl rfl, fun U hU hW => ⟨rfl, by rw [hU], by rw [hU]; exact hP.sub [0, 1, 2] rfl, va_K.moved hW.alike hK, (hN.sub [0, 1, 2] (by decide) rfl).weaken (fun _ _ => trivial), nx_warm hW hnx⟩⟩ rfl rfl hl.1 rfl (Nat.le_of_ble_eq_true rfl) d_Reckoner_judge_37 ⟨Nat.le_of_ble_eq_true rfl, Nat.le_of_ble_eq_true rfl⟩) hP hN hS hA rfl rfl rfl (fun H locs hP hS => ?_)
    refine lv_if_ne (tgt := 48) hx hb d_Reckoner_judge_40 (by decide) (fun c10 => ?_) (fun c10 => ?_)
    · have h := ite_f c10 h
      refine lv_lload hx hb d_Reckoner_judge_48 (lv_at hl 1 rfl) ?_
      refine lv_aload_n hx hb d_Reckoner_judge_50 rfl (lv_at hl 2 rfl) ?_
      refine va_get (D := (dC, dI)) (ci := 4) (v := .ref (a0 4)) (C := R_Reckoner) (T := T_Reckoner) (N := 6) hx hb hts in_Reckoner hown hK (hP 0 _ rfl) 0 rfl rfl 3 (by decide) (hts _ fl_Reckoner_21) (fun _ h9 => h9) rfl d_Reckoner_judge_51 ?_
      refine lv_iconst (v := 0) hx hb d_Reckoner_judge_54 (by decide) ?_
      refine va_lald (f := g64 o_9 3) hx hb hK (hP 0 _ rfl) 4 1 rfl rfl (inb_in hi5) d_Reckoner_judge_55 ?_
      refine lv_lmul hx hb d_Reckoner_judge_56 ?_
      refine lv_aload_n hx hb d_Reckoner_judge_57 rfl (lv_at hl 2 rfl) ?_
      refine va_get (D := (dC, dI)) (ci := 4) (v := .ref (a0 3)) (C := R_Reckoner) (T := T_Reckoner) (N := 6) hx hb hts in_Reckoner hown hK (hP 0 _ rfl) 0 rfl rfl 2 (by decide) (hts _ fl_Reckoner_18) (fun _ h9 => h9) rfl d_Reckoner_judge_58 ?_
      refine lv_iconst (v := 0) hx hb d_Reckoner_judge_61 (by decide) ?_
      refine va_lald (f := g64 o_9 2) hx hb hK (hP 0 _ rfl) 3 1 rfl rfl (inb_in hi5) d_Reckoner_judge_62 ?_
      refine lv_lload hx hb d_Reckoner_judge_63 (lv_at hl 0 rfl) ?_
      refine lv_lmul hx hb d_Reckoner_judge_65 ?_
      obtain ⟨v14, hG13, h⟩ := bind1_some h
      refine bw_callR (va_runS (As := [.long ((g64 o_3 2 (Int32.toNatClampNeg (0 : Int32))) * (g64 o_9 3 (Int32.toNatClampNeg (0 : Int32)))), .long ((g64 o_9 2 (Int32.toNatClampNeg (0 : Int32))) * (g64 o_3 3 (Int32.toNatClampNeg (0 : Int32))))]) (rest := []) ⟨hx, hb, hml, hown, hts⟩ (c_JLong_compare l ct dC dI _ ((g64 o_3 2 (Int32.toNatClampNeg (0 : Int32))) * (g64 o_9 3 (Int32.toNatClampNeg (0 : Int32)))) ((g64 o_9 2 (Int32.toNatClampNeg (0 : Int32))) * (g64 o_3 3 (Int32.toNatClampNeg (0 : Int32)))) v14 hG13) (va_cwS 2 hts g_Reckoner_97 rfl rfl rfl (by decide +kernel) ⟨Nat.le_of_ble_eq_true rfl, Nat.le_of_ble_eq_true rfl⟩) ⟨bw_blind nx_call, fun U hU hW => ⟨rfl, by rw [hU], by rw [hU]; exact hP.sub [] rfl, va_K.moved hW.alike hK, (hN.sub [] (by decide) rfl).weaken (fun _ _ => trivial), nx_warm hW hnx⟩⟩ rfl rfl hl.1 rfl (Nat.le_of_ble_eq_true rfl) d_Reckoner_judge_66 ⟨Nat.le_of_ble_eq_true rfl, Nat.le_of_ble_eq_true rfl⟩) ?_
      refine lv_istore (lv' := [(8, .int v14), (6, .long (g64 o_3 3 (Int32.toNatClampNeg (0 : Int32)))), (4, .long (g64 o_3 2 (Int32.toNatClampNeg (0 : Int32)))), (0, .ref (a0 0)), (1, .ref (a1 0)), (2, .int x2), (3, .ref (a2 0))]) hx hb d_Reckoner_judge_69 hl (by decide) rfl (fun ls hl => ?_)
      refine lv_aload_n hx hb d_Reckoner_judge_71 rfl (lv_at hl 4 rfl) ?_
      refine va_get (D := (dC, dI)) (ci := 0) (v := .ref (a1 5)) (C := R_Steps) (T := T_Steps) (N := 7) hx hb hts in_Steps hown hK (hP 1 _ rfl) 0 rfl rfl 5 (by decide) (hts _ fl_Reckoner_103) (fun _ h9 => h9) rfl d_Reckoner_judge_72 ?_
      refine lv_iload_n hx hb d_Reckoner_judge_75 rfl (lv_at hl 5 rfl) ?_
      obtain ⟨hi15, h⟩ := chk_some h
      refine va_cald (f := g32 o1 5) hx hb hK (hP 1 _ rfl) 5 2 rfl rfl (inb_in hi15) d_Reckoner_judge_76 ?_
      refine lv_istore (lv' := [(9, .int (g32 o1 5 (Int32.toNatClampNeg x2))), (8, .int v14), (6, .long (g64 o_3 3 (Int32.toNatClampNeg (0 : Int32)))), (4, .long (g64 o_3 2 (Int32.toNatClampNeg (0 : Int32)))), (0, .ref (a0 0)), (1, .ref (a1 0)), (2, .int x2), (3, .ref (a2 0))]) hx hb d_Reckoner_judge_77 hl (by decide) rfl (fun ls hl => ?_)
      refine lv_iload hx hb d_Reckoner_judge_79 (lv_at hl 0 rfl) ?_
      refine lv_bipush (v := 60) hx hb d_Reckoner_judge_81 (by decide) ?_
      refine lv_icmp_ne (tgt := 99) hx hb d_Reckoner_judge_83 (by decide) (fun c16 => ?_) (fun c16 => ?_)
      · have h := ite_f c16 h
        refine lv_iload hx hb d_Reckoner_judge_99 (lv_at hl 0 rfl) ?_
        refine lv_bipush (v := 62) hx hb d_Reckoner_judge_101 (by decide) ?_
        refine lv_icmp_ne (tgt := 119) hx hb d_Reckoner_judge_103 (by decide) (fun c17 => ?_) (fun c17 => ?_)
        · have h := ite_f c17 h
          refine lv_iload hx hb d_Reckoner_judge_119 (lv_at hl 1 rfl) ?_
          refine lv_if_ne (tgt := 128) hx hb d_Reckoner_judge_121 (by decide) (fun c18 => ?_) (fun c18 => ?_)
          · have h := ite_f c18 h
            refine lv_iconst (v := 0) hx hb d_Reckoner_judge_128 (by decide) ?_
            refine lv_istore (lv' := [(10, .int (0 : Int32)), (9, .int (g32 o1 5 (Int32.toNatClampNeg x2))), (8, .int v14), (6, .long (g64 o_3 3 (Int32.toNatClampNeg (0 : Int32)))), (4, .long (g64 o_3 2 (Int32.toNatClampNeg (0 : Int32)))), (0, .ref (a0 0)), (1, .ref (a1 0)), (2, .int x2), (3, .ref (a2 0))]) hx hb d_Reckoner_judge_129 hl (by decide) rfl (fun ls hl => ?_)
            refine lv_iload hx hb d_Reckoner_judge_131 (lv_at hl 0 rfl) ?_
            refine lv_if_eq (tgt := 140) hx hb d_Reckoner_judge_133 (by decide) (fun c19 => ?_) (fun c19 => ?_)
            · have h := ite_t c19 h
              refine lv_iconst (v := 1) hx hb d_Reckoner_judge_140 (by decide) ?_
              obtain ⟨rfl, rfl⟩ := res2 h
              exact W.iret hx hb hr (fun t ht hW => ⟨rfl, by rw [ht]; exact hP, hS.F ht⟩) hS.2.2 d_Reckoner_judge_141
            · have h := ite_f c19 h
              refine lv_iconst (v := 0) hx hb d_Reckoner_judge_136 (by decide) ?_
              refine lv_goto (tgt := 141) hx hb d_Reckoner_judge_137 (by decide) ?_
              obtain ⟨rfl, rfl⟩ := res2 h
              exact W.iret hx hb hr (fun t ht hW => ⟨rfl, by rw [ht]; exact hP, hS.F ht⟩) hS.2.2 d_Reckoner_judge_141
          · have h := ite_t c18 h
            refine lv_iconst (v := 1) hx hb d_Reckoner_judge_124 (by decide) ?_
            refine lv_goto (tgt := 129) hx hb d_Reckoner_judge_125 (by decide) ?_
            refine lv_istore (lv' := [(10, .int (1 : Int32)), (9, .int (g32 o1 5 (Int32.toNatClampNeg x2))), (8, .int v14), (6, .long (g64 o_3 3 (Int32.toNatClampNeg (0 : Int32)))), (4, .long (g64 o_3 2 (Int32.toNatClampNeg (0 : Int32)))), (0, .ref (a0 0)), (1, .ref (a1 0)), (2, .int x2), (3, .ref (a2 0))]) hx hb d_Reckoner_judge_129 hl (by decide) rfl (fun ls hl => ?_)
            refine lv_iload hx hb d_Reckoner_judge_131 (lv_at hl 0 rfl) ?_
            refine lv_if_eq (tgt := 140) hx hb d_Reckoner_judge_133 (by decide) (fun c20 => ?_) (fun c20 => ?_)
            · have h := ite_t c20 h
              refine lv_iconst (v := 1) hx hb d_Reckoner_judge_140 (by decide) ?_
              obtain ⟨rfl, rfl⟩ := res2 h
              exact W.iret hx hb hr (fun t ht hW => ⟨rfl, by rw [ht]; exact hP, hS.F ht⟩) hS.2.2 d_Reckoner_judge_141
            · have h := ite_f c20 h
              refine lv_iconst (v := 0) hx hb d_Reckoner_judge_136 (by decide) ?_
              refine lv_goto (tgt := 141) hx hb d_Reckoner_judge_137 (by decide) ?_
              obtain ⟨rfl, rfl⟩ := res2 h
              exact W.iret hx hb hr (fun t ht hW => ⟨rfl, by rw [ht]; exact hP, hS.F ht⟩) hS.2.2 d_Reckoner_judge_141
        · have h := ite_t c17 h
          refine lv_iload hx hb d_Reckoner_judge_106 (lv_at hl 1 rfl) ?_
          refine lv_if_le (tgt := 115) hx hb d_Reckoner_judge_108 (by decide) (fun c21 => ?_) (fun c21 => ?_)
          · have h := ite_t c21 h
            refine lv_iconst (v := 0) hx hb d_Reckoner_judge_115 (by decide) ?_
            refine lv_goto (tgt := 129) hx hb d_Reckoner_judge_116 (by decide) ?_
            refine lv_istore (lv' := [(10, .int (0 : Int32)), (9, .int (g32 o1 5 (Int32.toNatClampNeg x2))), (8, .int v14), (6, .long (g64 o_3 3 (Int32.toNatClampNeg (0 : Int32)))), (4, .long (g64 o_3 2 (Int32.toNatClampNeg (0 : Int32)))), (0, .ref (a0 0)), (1, .ref (a1 0)), (2, .int x2), (3, .ref (a2 0))]) hx hb d_Reckoner_judge_129 hl (by decide) rfl (fun ls hl => ?_)
            refine lv_iload hx hb d_Reckoner_judge_131 (lv_at hl 0 rfl) ?_
            refine lv_if_eq (tgt := 140) hx hb d_Reckoner_judge_133 (by decide) (fun c22 => ?_) (fun c22 => ?_)
            · have h := ite_t c22 h
              refine lv_iconst (v := 1) hx hb d_Reckoner_judge_140 (by decide) ?_
              obtain ⟨rfl, rfl⟩ := res2 h
              exact W.iret hx hb hr (fun t ht hW => ⟨rfl, by rw [ht]; exact hP, hS.F ht⟩) hS.2.2 d_Reckoner_judge_141
            · have h := ite_f c22 h
              refine lv_iconst (v := 0) hx hb d_Reckoner_judge_136 (by decide) ?_
              refine lv_goto (tgt := 141) hx hb d_Reckoner_judge_137 (by decide) ?_
              obtain ⟨rfl, rfl⟩ := res2 h
              exact W.iret hx hb hr (fun t ht hW => ⟨rfl, by rw [ht]; exact hP, hS.F ht⟩) hS.2.2 d_Reckoner_judge_141
          · have h := ite_f c21 h
            refine lv_iconst (v := 1) hx hb d_Reckoner_judge_111 (by decide) ?_
            refine lv_goto (tgt := 129) hx hb d_Reckoner_judge_112 (by decide) ?_
            refine lv_istore (lv' := [(10, .int (1 : Int32)), (9, .int (g32 o1 5 (Int32.toNatClampNeg x2))), (8, .int v14), (6, .long (g64 o_3 3 (Int32.toNatClampNeg (0 : Int32)))), (4, .long (g64 o_3 2 (Int32.toNatClampNeg (0 : Int32)))), (0, .ref (a0 0)), (1, .ref (a1 0)), (2, .int x2), (3, .ref (a2 0))]) hx hb d_Reckoner_judge_129 hl (by decide) rfl (fun ls hl => ?_)
            refine lv_iload hx hb d_Reckoner_judge_131 (lv_at hl 0 rfl) ?_
            refine lv_if_eq (tgt := 140) hx hb d_Reckoner_judge_133 (by decide) (fun c23 => ?_) (fun c23 => ?_)
            · have h := ite_t c23 h
              refine lv_iconst (v := 1) hx hb d_Reckoner_judge_140 (by decide) ?_
              obtain ⟨rfl, rfl⟩ := res2 h
              exact W.iret hx hb hr (fun t ht hW => ⟨rfl, by rw [ht]; exact hP, hS.F ht⟩) hS.2.2 d_Reckoner_judge_141
            · have h := ite_f c23 h
              refine lv_iconst (v := 0) hx hb d_Reckoner_judge_136 (by decide) ?_
              refine lv_goto (tgt := 141) hx hb d_Reckoner_judge_137 (by decide) ?_
              obtain ⟨rfl, rfl⟩ := res2 h
              exact W.iret hx hb hr (fun t ht hW => ⟨rfl, by rw [ht]; exact hP, hS.F ht⟩) hS.2.2 d_Reckoner_judge_141
      · have h := ite_t c16 h
        refine lv_iload hx hb d_Reckoner_judge_86 (lv_at hl 1 rfl) ?_
        refine lv_if_ge (tgt := 95) hx hb d_Reckoner_judge_88 (by decide) (fun c24 => ?_) (fun c24 => ?_)
        · have h := ite_t c24 h
          refine lv_iconst (v := 0) hx hb d_Reckoner_judge_95 (by decide) ?_
          refine lv_goto (tgt := 129) hx hb d_Reckoner_judge_96 (by decide) ?_
          refine lv_istore (lv' := [(10, .int (0 : Int32)), (9, .int (g32 o1 5 (Int32.toNatClampNeg x2))), (8, .int v14), (6, .long (g64 o_3 3 (Int32.toNatClampNeg (0 : Int32)))), (4, .long (g64 o_3 2 (Int32.toNatClampNeg (0 : Int32)))), (0, .ref (a0 0)), (1, .ref (a1 0)), (2, .int x2), (3, .ref (a2 0))]) hx hb d_Reckoner_judge_129 hl (by decide) rfl (fun ls hl => ?_)
          refine lv_iload hx hb d_Reckoner_judge_131 (lv_at hl 0 rfl) ?_
          refine lv_if_eq (tgt := 140) hx hb d_Reckoner_judge_133 (by decide) (fun c25 => ?_) (fun c25 => ?_)
          · have h := ite_t c25 h
            refine lv_iconst (v := 1) hx hb d_Reckoner_judge_140 (by decide) ?_
            obtain ⟨rfl, rfl⟩ := res2 h
            exact W.iret hx hb hr (fun t ht hW => ⟨rfl, by rw [ht]; exact hP, hS.F ht⟩) hS.2.2 d_Reckoner_judge_141
          · have h := ite_f c25 h
            refine lv_iconst (v := 0) hx hb d_Reckoner_judge_136 (by decide) ?_
            refine lv_goto (tgt := 141) hx hb d_Reckoner_judge_137 (by decide) ?_
            obtain ⟨rfl, rfl⟩ := res2 h
            exact W.iret hx hb hr (fun t ht hW => ⟨rfl, by rw [ht]; exact hP, hS.F ht⟩) hS.2.2 d_Reckoner_judge_141
        · have h := ite_f c24 h
          refine lv_iconst (v := 1) hx hb d_Reckoner_judge_91 (by decide) ?_
          refine lv_goto (tgt := 129) hx hb d_Reckoner_judge_92 (by decide) ?_
          refine lv_istore (lv' := [(10, .int (1 : Int32)), (9, .int (g32 o1 5 (Int32.toNatClampNeg x2))), (8, .int v14), (6, .long (g64 o_3 3 (Int32.toNatClampNeg (0 : Int32)))), (4, .long (g64 o_3 2 (Int32.toNatClampNeg (0 : Int32)))), (0, .ref (a0 0)), (1, .ref (a1 0)), (2, .int x2), (3, .ref (a2 0))]) hx hb d_Reckoner_judge_129 hl (by decide) rfl (fun ls hl => ?_)
          refine lv_iload hx hb d_Reckoner_judge_131 (lv_at hl 0 rfl) ?_
          refine lv_if_eq (tgt := 140) hx hb d_Reckoner_judge_133 (by decide) (fun c26 => ?_) (fun c26 => ?_)
          · have h := ite_t c26 h
            refine lv_iconst (v := 1) hx hb d_Reckoner_judge_140 (by decide) ?_
            obtain ⟨rfl, rfl⟩ := res2 h
            exact W.iret hx hb hr (fun t ht hW => ⟨rfl, by rw [ht]; exact hP, hS.F ht⟩) hS.2.2 d_Reckoner_judge_141
          · have h := ite_f c26 h
            refine lv_iconst (v := 0) hx hb d_Reckoner_judge_136 (by decide) ?_
            refine lv_goto (tgt := 141) hx hb d_Reckoner_judge_137 (by decide) ?_
            obtain ⟨rfl, rfl⟩ := res2 h
            exact W.iret hx hb hr (fun t ht hW => ⟨rfl, by rw [ht]; exact hP, hS.F ht⟩) hS.2.2 d_Reckoner_judge_141
    · have h := ite_t c10 h
      refine lv_aload_n hx hb d_Reckoner_judge_43 rfl (lv_at hl 2 rfl) ?_
      refine va_get (D := (dC, dI)) (ci := 4) (v := .int (g32 o_9 5 0)) (C := R_Reckoner) (T := T_Reckoner) (N := 6) hx hb hts in_Reckoner hown hK (hP 0 _ rfl) 0 rfl rfl 5 (by decide) (hts _ fl_Reckoner_28) (fun _ h9 => h9) rfl d_Reckoner_judge_44 ?_
      obtain ⟨rfl, rfl⟩ := res2 h
      exact W.iret hx hb hr (fun t ht hW => ⟨rfl, by rw [ht]; exact hP, hS.F ht⟩) hS.2.2 d_Reckoner_judge_47
  · have h := ite_t c4 h
    refine lv_aload_n hx hb d_Reckoner_judge_10 rfl (lv_at hl 0 rfl) ?_
    refine va_get (D := (dC, dI)) (ci := 4) (v := .int (g32 o_3 5 0)) (C := R_Reckoner) (T := T_Reckoner) (N := 6) hx hb hts in_Reckoner hown hK (hP 0 _ rfl) 0 rfl rfl 5 (by decide) (hts _ fl_Reckoner_28) (fun _ h9 => h9) rfl d_Reckoner_judge_11 ?_
    obtain ⟨rfl, rfl⟩ := res2 h
    exact W.iret hx hb hr (fun t ht hW => ⟨rfl, by rw [ht]; exact hP, hS.F ht⟩) hS.2.2 d_Reckoner_judge_14
theorem g_Reckoner_75 : GoodIn wsAll (wsV R_Reckoner 75 R_Reckoner y_Reckoner_judge ws_Reckoner_judge) := gd_V ml_Reckoner_75 im_Reckoner_judge se_Reckoner_judge ini_Reckoner cd_Reckoner_judge
theorem g_Reckoner_41 : GoodIn wsAll (wsV R_Reckoner 41 R_Cells y_Cells_takeReason ws_Cells_takeReason) := gd_V ml_Reckoner_41 im_Cells_takeReason se_Cells_takeReason ini_Cells cd_Cells_takeReason
theorem g_Reckoner_83 : GoodIn wsAll (wsV R_Reckoner 83 R_Cells y_Cells_takeValue ws_Cells_takeValue) := gd_V ml_Reckoner_83 im_Cells_takeValue se_Cells_takeValue ini_Cells cd_Cells_takeValue
def F_Reckoner_workOut_78 (o1 o2 : Ob)  (x4 : Int32) (x5 : Int32) (x6 : Int32) (o0 o3 : Ob) : Option (Ob × Ob) :=
  bind2 (F_Reckoner_reckon x5 o0 o2 o3) (fun v13 o_14 => if (b2i v13) = 0 then (bind1 (F_Cells_takeReason x4 (g32 o_14 5 0) o3) (fun o_17 => some (o_14, o_17))) else (chk (inb (0 : Int32) 19) (bind1 (F_Cells_takeValue x4 (g64 o_14 2 (Int32.toNatClampNeg (0 : Int32))) (g64 o_14 3 (Int32.toNatClampNeg (0 : Int32))) x6 o3) (fun o_21 => some (o_14, o_21)))))
def F_Reckoner_workOut_19 (o1 o2 : Ob)  : Nat → Int32 → Int32 → Int32 → Int32 → Ob → Ob → Option (Ob × Ob)
  | 0, _, _, _, _, _, _ => none
  | n + 1, x2, x4, x5, x6, o0, o3 =>
    chk (inb x2 24) (if (g32 o1 6 (Int32.toNatClampNeg x2)) ≤ x6 then (F_Reckoner_workOut_78 o1 o2 x4 x5 x6 o0 o3) else (bind2 (F_Reckoner_judge x5 o0 o2 o3) (fun v6 o_7 => if v6 = 0 then (F_Reckoner_workOut_78 o1 o2 x4 (x5 + (2 : Int32)) x6 o_7 o3) else (if v6 = (1 : Int32) then (F_Reckoner_workOut_19 o1 o2 n x2 x4 (x5 + (3 : Int32)) (x6 + (1 : Int32)) o_7 o3) else (bind1 (F_Cells_takeReason x4 v6 o3) (fun o_11 => some (o_7, o_11)))))))
def F_Reckoner_workOut (x2 : Int32) (o0 o1 o2 o3 : Ob) : Option (Ob × Ob) :=
  chk (inb x2 24) (F_Reckoner_workOut_19 o1 o2 fuel x2 (g32 o1 4 (Int32.toNatClampNeg x2)) (g32 o1 5 (Int32.toNatClampNeg x2)) (0 : Int32) o0 o3)
abbrev ws_Reckoner_workOut : List Cond := Cond.code y_Reckoner_workOut b_Reckoner_workOut 8 (none : Option Jvm.ClassFile.FieldType) :: wsAll
abbrev rm_Reckoner_workOut : Room := { frames := 5, cells := 0, slots := 0, locals := 144 }
set_option maxHeartbeats 4000000 in
set_option maxRecDepth 100000 in
theorem k_Reckoner_workOut_78 {p : Program} {l : Launch} {e : Env} {s : State} {m : MethodId} {args : Array Value} {below : List Frame} {meth : Method} {c : Code} {A : Nat → Prop} {ct dC : Nat → ClassId} {dI : Nat → Nat → Nat} {a0 a1 a2 a3 : Nat → Nat}  {n0 n3 : Ob} {o1 o2 : Ob}  (C0 : cx wsAll vwCl nx p s m args meth c (dC, dI) (tyA ct) b_Reckoner_workOut 8 (none : Option Jvm.ClassFile.FieldType) R_Reckoner A [adReckoner a0, adText a1, adSteps a2, adCells a3])  : ∀ (x4 : Int32) (x5 : Int32) (x6 : Int32) (o0 o3 : Ob) (H : Heap) (locs : List Loc) (ls : Array Slot), bw_P (dC, dI) vwCl [wReckoner ct a0 o0, wText ct a1 (a2 0) o1, wSteps ct a2 o2, wCells ct a3 o3] H → va_S A s.heap H locs → lv_has ls 8 [(0, .ref (a0 0)), (1, .ref (a1 0)), (3, .ref (a3 0)), (4, .int x4), (5, .int x5), (6, .int x6)] → F_Reckoner_workOut_78 o1 o2 x4 x5 x6 o0 o3 = some (n0, n3) → W p l e (headSpec ws_Reckoner_workOut rm_Reckoner_workOut).room s m args below meth c H locs 0 0 (MQ below (bw_Q (dC, dI) vwCl none [wReckoner ct a0 n0, wText ct a1 (a2 0) o1, wSteps ct a2 o2, wCells ct a3 n3] A) args s 0 0 A) (F0 m 78 ls []) := by
  obtain ⟨hx, hb, hr, hml, hown, hlocks, hts, hK, hN, hA, hnx⟩ := id C0
  intro x4 x5 x6 o0 o3 H locs ls hP hS hl h
  rw [F_Reckoner_workOut_78] at h
  refine lv_aload_n hx hb d_Reckoner_workOut_78 rfl (lv_at hl 0 rfl) ?_
  refine lv_aload_n hx hb d_Reckoner_workOut_79 rfl (lv_at hl 1 rfl) ?_
  refine va_get (D := (dC, dI)) (ci := 2) (v := .ref (a2 0)) (C := R_Text) (T := T_Text) (N := 12) hx hb hts in_Text hown hK (hP 1 _ rfl) 0 rfl rfl 2 (by decide) (hts _ fl_Reckoner_71) (fun _ h9 => h9) rfl d_Reckoner_workOut_80 ?_
  refine lv_iload hx hb d_Reckoner_workOut_83 (lv_at hl 4 rfl) ?_
  refine lv_aload_n hx hb d_Reckoner_workOut_85 rfl (lv_at hl 2 rfl) ?_
  obtain ⟨v13, o_14, hG12, h⟩ := bind2_some h
  refine bw_call (Lc := [wReckoner ct a0 o0, wSteps ct a2 o2, wCells ct a3 o3]) (Lc' := [wReckoner ct a0 o_14, wSteps ct a2 o2, wCells ct a3 o3]) (L' := [wReckoner ct a0 o_14, wText ct a1 (a2 0) o1, wSteps ct a2 o2, wCells ct a3 o3]) [0, 2, 3] (va_runV (As := [.ref (a2 0), .int x5, .ref (a3 0)]) (rest := []) ⟨hx, hb, hml, hown, hts⟩ (c_Reckoner_reckon l ct dC dI a0 a2 a3 _ x5 o0 o2 o3 v13 o_14 hG12) (cwV 3 hts g_Reckoner_79 rfl rfl rfl (by decide +kernel) ⟨Nat.le_of_ble_eq_true rfl, Nat.le_of_ble_eq_true rfl⟩) ⟨bw_blind nx_call, va_recv hK (hP 0 _ rfl) (ci := 4) (q0 := 0) rfl rfl, fun U hU hW => ⟨rfl, by rw [hU], by rw [hU]; exact hP.sub [0, 2, 3] rfl, va_K.moved hW.alike hK, (hN.sub [0, 2, 3] (by decide) rfl).weaken (fun _ _ => trivial), nx_warm hW hnx⟩⟩ rfl rfl hl.1 rfl (Nat.le_of_ble_eq_true rfl) d_Reckoner_workOut_86 ⟨Nat.le_of_ble_eq_true rfl, Nat.le_of_ble_eq_true rfl⟩) hP hN hS hA rfl rfl rfl (fun H locs hP hS => ?_)
  refine lv_if_eq (tgt := 115) hx hb d_Reckoner_workOut_89 (by decide) (fun c15 => ?_) (fun c15 => ?_)
  · have h := ite_t c15 h
    refine lv_aload_n hx hb d_Reckoner_workOut_115 rfl (lv_at hl 2 rfl) ?_
    refine lv_iload hx hb d_Reckoner_workOut_116 (lv_at hl 3 rfl) ?_
    refine lv_aload_n hx hb d_Reckoner_workOut_118 rfl (lv_at hl 0 rfl) ?_
    refine va_get (D := (dC, dI)) (ci := 4) (v := .int (g32 o_14 5 0)) (C := R_Reckoner) (T := T_Reckoner) (N := 6) hx hb hts in_Reckoner hown hK (hP 0 _ rfl) 0 rfl rfl 5 (by decide) (hts _ fl_Reckoner_28) (fun _ h9 => h9) rfl d_Reckoner_workOut_119 ?_
    obtain ⟨o_17, hG16, h⟩ := bind1_some h
    refine bw_call (Lc := [wCells ct a3 o3]) (Lc' := [wCells ct a3 o_17]) (L' := [wReckoner ct a0 o_14, wText ct a1 (a2 0) o1, wSteps ct a2 o2, wCells ct a3 o_17]) [3] (va_runV (As := [.int x4, .int (g32 o_14 5 0)]) (rest := []) ⟨hx, hb, hml, hown, hts⟩ (c_Cells_takeReason l ct dC dI a3 _ x4 (g32 o_14 5 0) o3 o_17 hG16) (cwV 2 hts g_Reckoner_41 rfl rfl rfl (by decide +kernel) ⟨Nat.le_of_ble_eq_true rfl, Nat.le_of_ble_eq_true rfl⟩) ⟨bw_blind nx_call, va_recv hK (hP 3 _ rfl) (ci := 1) (q0 := 0) rfl rfl, fun U hU hW => ⟨rfl, by rw [hU], by rw [hU]; exact hP.sub [3] rfl, va_K.moved hW.alike hK, (hN.sub [3] (by decide) rfl).weaken (fun _ _ => trivial), nx_warm hW hnx⟩⟩ rfl rfl hl.1 rfl (Nat.le_of_ble_eq_true rfl) d_Reckoner_workOut_122 ⟨Nat.le_of_ble_eq_true rfl, Nat.le_of_ble_eq_true rfl⟩) hP hN hS hA rfl rfl rfl (fun H locs hP hS => ?_)
    obtain ⟨rfl, rfl⟩ := res2 h
    exact W.vret hx hb hr (fun t ht hW => ⟨rfl, by rw [ht]; exact hP, hS.F ht⟩) hS.2.2 d_Reckoner_workOut_125
  · have h := ite_f c15 h
    refine lv_aload_n hx hb d_Reckoner_workOut_92 rfl (lv_at hl 2 rfl) ?_
    refine lv_iload hx hb d_Reckoner_workOut_93 (lv_at hl 3 rfl) ?_
    refine lv_aload_n hx hb d_Reckoner_workOut_95 rfl (lv_at hl 0 rfl) ?_
    refine va_get (D := (dC, dI)) (ci := 4) (v := .ref (a0 3)) (C := R_Reckoner) (T := T_Reckoner) (N := 6) hx hb hts in_Reckoner hown hK (hP 0 _ rfl) 0 rfl rfl 2 (by decide) (hts _ fl_Reckoner_18) (fun _ h9 => h9) rfl d_Reckoner_workOut_96 ?_
    refine lv_iconst (v := 0) hx hb d_Reckoner_workOut_99 (by decide) ?_
    obtain ⟨hi18, h⟩ := chk_some h
    refine va_lald (f := g64 o_14 2) hx hb hK (hP 0 _ rfl) 3 1 rfl rfl (inb_in hi18) d_Reckoner_workOut_100 ?_
    refine lv_aload_n hx hb d_Reckoner_workOut_101 rfl (lv_at hl 0 rfl) ?_
    refine va_get (D := (dC, dI)) (ci := 4) (v := .ref (a0 4)) (C := R_Reckoner) (T := T_Reckoner) (N := 6) hx hb hts in_Reckoner hown hK (hP 0 _ rfl) 0 rfl rfl 3 (by decide) (hts _ fl_Reckoner_21) (fun _ h9 => h9) rfl d_Reckoner_workOut_102 ?_
    refine lv_iconst (v := 0) hx hb d_Reckoner_workOut_105 (by decide) ?_
    refine va_lald (f := g64 o_14 3) hx hb hK (hP 0 _ rfl) 4 1 rfl rfl (inb_in hi18) d_Reckoner_workOut_106 ?_
    refine lv_iload hx hb d_Reckoner_workOut_107 (lv_at hl 5 rfl) ?_
    obtain ⟨o_21, hG20, h⟩ := bind1_some h
    refine bw_call (Lc := [wCells ct a3 o3]) (Lc' := [wCells ct a3 o_21]) (L' := [wReckoner ct a0 o_14, wText ct a1 (a2 0) o1, wSteps ct a2 o2, wCells ct a3 o_21]) [3] (va_runV (As := [.int x4, .long (g64 o_14 2 (Int32.toNatClampNeg (0 : Int32))), .long (g64 o_14 3 (Int32.toNatClampNeg (0 : Int32))), .int x6]) (rest := []) ⟨hx, hb, hml, hown, hts⟩ (c_Cells_takeValue l ct dC dI a3 _ x4 (g64 o_14 2 (Int32.toNatClampNeg (0 : Int32))) (g64 o_14 3 (Int32.toNatClampNeg (0 : Int32))) x6 o3 o_21 hG20) (cwV 4 hts g_Reckoner_83 rfl rfl rfl (by decide +kernel) ⟨Nat.le_of_ble_eq_true rfl, Nat.le_of_ble_eq_true rfl⟩) ⟨bw_blind nx_call, va_recv hK (hP 3 _ rfl) (ci := 1) (q0 := 0) rfl rfl, fun U hU hW => ⟨rfl, by rw [hU], by rw [hU]; exact hP.sub [3] rfl, va_K.moved hW.alike hK, (hN.sub [3] (by decide) rfl).weaken (fun _ _ => trivial), nx_warm hW hnx⟩⟩ rfl rfl hl.1 rfl (Nat.le_of_ble_eq_true rfl) d_Reckoner_workOut_109 ⟨Nat.le_of_ble_eq_true rfl, Nat.le_of_ble_eq_true rfl⟩) hP hN hS hA rfl rfl rfl (fun H locs hP hS => ?_)
    refine lv_goto (tgt := 125) hx hb d_Reckoner_workOut_112 (by decide) ?_
    obtain ⟨rfl, rfl⟩ := res2 h
    exact W.vret hx hb hr (fun t ht hW => ⟨rfl, by rw [ht]; exact hP, hS.F ht⟩) hS.2.2 d_Reckoner_workOut_125
set_option maxHeartbeats 4000000 in
set_option maxRecDepth 100000 in
theorem k_Reckoner_workOut_19 {p : Program} {l : Launch} {e : Env} {s : State} {m : MethodId} {args : Array Value} {below : List Frame} {meth : Method} {c : Code} {A : Nat → Prop} {ct dC : Nat → ClassId} {dI : Nat → Nat → Nat} {a0 a1 a2 a3 : Nat → Nat}  {n0 n3 : Ob} {o1 o2 : Ob}  (C0 : cx wsAll vwCl nx p s m args meth c (dC, dI) (tyA ct) b_Reckoner_workOut 8 (none : Option Jvm.ClassFile.FieldType) R_Reckoner A [adReckoner a0, adText a1, adSteps a2, adCells a3])  : ∀ (n : Nat) (x2 : Int32) (x4 : Int32) (x5 : Int32) (x6 : Int32) (o0 o3 : Ob) (H : Heap) (locs : List Loc) (ls : Array Slot), bw_P (dC, dI) vwCl [wReckoner ct a0 o0, wText ct a1 (a2 0) o1, wSteps ct a2 o2, wCells ct a3 o3] H → va_S A s.heap H locs → lv_has ls 8 [(0, .ref (a0 0)), (1, .ref (a1 0)), (2, .int x2), (3, .ref (a3 0)), (4, .int x4), (5, .int x5), (6, .int x6)] → F_Reckoner_workOut_19 o1 o2 n x2 x4 x5 x6 o0 o3 = some (n0, n3) → W p l e (headSpec ws_Reckoner_workOut rm_Reckoner_workOut).room s m args below meth c H locs 0 0 (MQ below (bw_Q (dC, dI) vwCl none [wReckoner ct a0 n0, wText ct a1 (a2 0) o1, wSteps ct a2 o2, wCells ct a3 n3] A) args s 0 0 A) (F0 m 19 ls []) := by
  obtain ⟨hx, hb, hr, hml, hown, hlocks, hts, hK, hN, hA, hnx⟩ := id C0
  intro n
  induction n with
  | zero =>
    intro x2 x4 x5 x6 o0 o3 H locs ls hP hS hl h
    cases h
  | succ n ih =>
    intro x2 x4 x5 x6 o0 o3 H locs ls hP hS hl h
    rw [F_Reckoner_workOut_19] at h
    refine lv_iload hx hb d_Reckoner_workOut_19 (lv_at hl 6 rfl) ?_
    refine lv_aload_n hx hb d_Reckoner_workOut_21 rfl (lv_at hl 1 rfl) ?_
    refine va_get (D := (dC, dI)) (ci := 2) (v := .ref (a1 4)) (C := R_Text) (T := T_Text) (N := 12) hx hb hts in_Text hown hK (hP 1 _ rfl) 0 rfl rfl 6 (by decide) (hts _ fl_Reckoner_68) (fun _ h9 => h9) rfl d_Reckoner_workOut_22 ?_
    refine lv_iload_n hx hb d_Reckoner_workOut_25 rfl (lv_at hl 2 rfl) ?_
    obtain ⟨hi3, h⟩ := chk_some h
    refine va_iald (f := g32 o1 6) hx hb hK (hP 1 _ rfl) 4 0 rfl rfl (inb_in hi3) d_Reckoner_workOut_26 ?_
    refine lv_icmp_ge (tgt := 78) hx hb d_Reckoner_workOut_27 (by decide) (fun c4 => ?_) (fun c4 => ?_)
    · have h := ite_t c4 h
      exact k_Reckoner_workOut_78 C0 x4 x5 x6 o0 o3 _ _ _ hP hS (lv_sub hl [0, 1, 3, 4, 5, 6] rfl) h
    · have h := ite_f c4 h
      refine lv_aload_n hx hb d_Reckoner_workOut_30 rfl (lv_at hl 0 rfl) ?_
      refine lv_aload_n hx hb d_Reckoner_workOut_31 rfl (lv_at hl 1 rfl) ?_
      refine va_get (D := (dC, dI)) (ci := 2) (v := .ref (a2 0)) (C := R_Text) (T := T_Text) (N := 12) hx hb hts in_Text hown hK (hP 1 _ rfl) 0 rfl rfl 2 (by decide) (hts _ fl_Reckoner_71) (fun _ h9 => h9) rfl d_Reckoner_workOut_32 ?_
      refine lv_iload hx hb d_Reckoner_workOut_35 (lv_at hl 5 rfl) ?_
      refine lv_aload_n hx hb d_Reckoner_workOut_37 rfl (lv_at hl 3 rfl) ?_
      obtain ⟨v6, o_7, hG5, h⟩ := bind2_some h
      refine bw_call (Lc := [wReckoner ct a0 o0, wSteps ct a2 o2, wCells ct a3 o3]) (Lc' := [wReckoner ct a0 o_7, wSteps ct a2 o2, wCells ct a3 o3]) (L' := [wReckoner ct a0 o_7, wText ct a1 (a2 0) o1, wSteps ct a2 o2, wCells ct a3 o3]) [0, 2, 3] (va_runV (As := [.ref (a2 0), .int x5, .ref (a3 0)]) (rest := []) ⟨hx, hb, hml, hown, hts⟩ (c_Reckoner_judge l ct dC dI a0 a2 a3 _ x5 o0 o2 o3 v6 o_7 hG5) (cwV 3 hts g_Reckoner_75 rfl rfl rfl (by decide +kernel) ⟨Nat.le_of_ble_eq_true rfl, Nat.le_of_ble_eq_true rfl⟩) ⟨bw_blind nx_call, va_recv hK (hP 0 _ rfl) (ci := 4) (q0 := 0) rfl rfl, fun U hU hW => ⟨rfl, by rw [hU], by rw [hU]; exact hP.sub [0, 2, 3] rfl, va_K.moved hW.alike hK, (hN.sub [0, 2, 3] (by decide) rfl).weaken (fun _ _ => trivial), nx_warm hW hnx⟩⟩ rfl rfl hl.1 rfl (Nat.le_of_ble_eq_true rfl) d_Reckoner_workOut_38 ⟨Nat.le_of_ble_eq_true rfl, Nat.le_of_ble_eq_true rfl⟩) hP hN hS hA rfl rfl rfl (fun H locs hP hS => ?_)
      refine lv_istore (lv' := [(7, .int v6), (0, .ref (a0 0)), (1, .ref (a1 0)), (2, .int x2), (3, .ref (a3 0)), (4, .int x4), (5, .int x5), (6, .int x6)]) hx hb d_Reckoner_workOut_41 hl (by decide) rfl (fun ls hl => ?_)
      refine lv_iload hx hb d_Reckoner_workOut_43 (lv_at hl 0 rfl) ?_
      refine lv_if_ne (tgt := 54) hx hb d_Reckoner_workOut_45 (by decide) (fun c8 => ?_) (fun c8 => ?_)
      · have h := ite_f c8 h
        refine lv_iload hx hb d_Reckoner_workOut_54 (lv_at hl 0 rfl) ?_
        refine lv_iconst (v := 1) hx hb d_Reckoner_workOut_56 (by decide) ?_
        refine lv_icmp_eq (tgt := 69) hx hb d_Reckoner_workOut_57 (by decide) (fun c9 => ?_) (fun c9 => ?_)
        · have h := ite_t c9 h
          refine lv_iinc (v := (x5 + (3 : Int32))) (lv' := [(5, .int (x5 + (3 : Int32))), (7, .int v6), (0, .ref (a0 0)), (1, .ref (a1 0)), (2, .int x2), (3, .ref (a3 0)), (4, .int x4), (6, .int x6)]) hx hb d_Reckoner_workOut_69 hl (k := 6) rfl rfl (by decide) rfl (fun ls hl => ?_)
          refine lv_iinc (v := (x6 + (1 : Int32))) (lv' := [(6, .int (x6 + (1 : Int32))), (5, .int (x5 + (3 : Int32))), (7, .int v6), (0, .ref (a0 0)), (1, .ref (a1 0)), (2, .int x2), (3, .ref (a3 0)), (4, .int x4)]) hx hb d_Reckoner_workOut_72 hl (k := 7) rfl rfl (by decide) rfl (fun ls hl => ?_)
          refine lv_goto (tgt := 19) hx hb d_Reckoner_workOut_75 (by decide) ?_
          exact ih x2 x4 (x5 + (3 : Int32)) (x6 + (1 : Int32)) o_7 o3 _ _ _ hP hS (lv_sub hl [3, 4, 5, 6, 7, 1, 0] rfl) h
        · have h := ite_f c9 h
          refine lv_aload_n hx hb d_Reckoner_workOut_60 rfl (lv_at hl 4 rfl) ?_
          refine lv_iload hx hb d_Reckoner_workOut_61 (lv_at hl 5 rfl) ?_
          refine lv_iload hx hb d_Reckoner_workOut_63 (lv_at hl 0 rfl) ?_
          obtain ⟨o_11, hG10, h⟩ := bind1_some h
          refine bw_call (Lc := [wCells ct a3 o3]) (Lc' := [wCells ct a3 o_11]) (L' := [wReckoner ct a0 o_7, wText ct a1 (a2 0) o1, wSteps ct a2 o2, wCells ct a3 o_11]) [3] (va_runV (As := [.int x4, .int v6]) (rest := []) ⟨hx, hb, hml, hown, hts⟩ (c_Cells_takeReason l ct dC dI a3 _ x4 v6 o3 o_11 hG10) (cwV 2 hts g_Reckoner_41 rfl rfl rfl (by decide +kernel) ⟨Nat.le_of_ble_eq_true rfl, Nat.le_of_ble_eq_true rfl⟩) ⟨bw_blind nx_call, va_recv hK (hP 3 _ rfl) (ci := 1) (q0 := 0) rfl rfl, fun U hU hW => ⟨rfl, by rw [hU], by rw [hU]; exact hP.sub [3] rfl, va_K.moved hW.alike hK, (hN.sub [3] (by decide) rfl).weaken (fun _ _ => trivial), nx_warm hW hnx⟩⟩ rfl rfl hl.1 rfl (Nat.le_of_ble_eq_true rfl) d_Reckoner_workOut_65 ⟨Nat.le_of_ble_eq_true rfl, Nat.le_of_ble_eq_true rfl⟩) hP hN hS hA rfl rfl rfl (fun H locs hP hS => ?_)
          obtain ⟨rfl, rfl⟩ := res2 h
          exact W.vret hx hb hr (fun t ht hW => ⟨rfl, by rw [ht]; exact hP, hS.F ht⟩) hS.2.2 d_Reckoner_workOut_68
      · have h := ite_t c8 h
        refine lv_iinc (v := (x5 + (2 : Int32))) (lv' := [(5, .int (x5 + (2 : Int32))), (7, .int v6), (0, .ref (a0 0)), (1, .ref (a1 0)), (2, .int x2), (3, .ref (a3 0)), (4, .int x4), (6, .int x6)]) hx hb d_Reckoner_workOut_48 hl (k := 6) rfl rfl (by decide) rfl (fun ls hl => ?_)
        refine lv_goto (tgt := 78) hx hb d_Reckoner_workOut_51 (by decide) ?_
        exact k_Reckoner_workOut_78 C0 x4 (x5 + (2 : Int32)) x6 o_7 o3 _ _ _ hP hS (lv_sub hl [2, 3, 5, 6, 0, 7] rfl) h
set_option maxHeartbeats 4000000 in
set_option maxRecDepth 100000 in
theorem c_Reckoner_workOut (l : Launch) (ct dC : Nat → ClassId) (dI : Nat → Nat → Nat) (a0 a1 a2 a3 : Nat → Nat)  (sz : Nat) (x2 : Int32) (o0 o1 o2 o3 : Ob) (n0 n3 : Ob) (hF : F_Reckoner_workOut x2 o0 o1 o2 o3 = some (n0, n3)) : Met l y_Reckoner_workOut ws_Reckoner_workOut rm_Reckoner_workOut (bw_Pc [.ref (a0 0), .ref (a1 0), .int x2, .ref (a3 0)] (dC, dI) vwCl (tyA ct) [wReckoner ct a0 o0, wText ct a1 (a2 0) o1, wSteps ct a2 o2, wCells ct a3 o3] sz nx) (bw_Q (dC, dI) vwCl none [wReckoner ct a0 n0, wText ct a1 (a2 0) o1, wSteps ct a2 o2, wCells ct a3 n3] (bw_A [adReckoner a0, adText a1, adSteps a2, adCells a3] sz)) 0 0 (bw_A [adReckoner a0, adText a1, adSteps a2, adCells a3] sz) := by
  refine Met.ofW (cc := b_Reckoner_workOut) (maxL := 8) (ret := (none : Option Jvm.ClassFile.FieldType)) (by decide) rfl ?_
  intro p e s m args below meth c s₁ B hml hv
  obtain ⟨rfl, hsz, hP, hK, hN0, hnx⟩ := hv
  have hx := B.exec
  have hb := B.bytes
  have hr := B.returns
  have hts : ∀ w ∈ wsAll, w.before [.ref (a0 0), .ref (a1 0), .int x2, .ref (a3 0)].toArray s = true := fun w h9 => atoms_spec (ws := ws_Reckoner_workOut) B.pre w (List.mem_cons_of_mem _ h9)
  have hown : s.vm.findClass R_Reckoner = some m.cls := findClass_of_methodNamed B.named
  have hlocks := B.notSynchronized
  subst hsz
  have hN : bw_N (bw_A [adReckoner a0, adText a1, adSteps a2, adCells a3] s.heap.size) [adReckoner a0, adText a1, adSteps a2, adCells a3] := hN0.self s.heap.size
  generalize hAe : bw_A [adReckoner a0, adText a1, adSteps a2, adCells a3] s.heap.size = A at hN ⊢
  have hA : ∀ q : Nat, s.heap.size ≤ q → A q := fun q h => by rw [← hAe]; exact Or.inr h
  have hS : va_S A s.heap s.heap [] := va_S.rf
  have hl := lv_entry ([.ref (a0 0), .ref (a1 0), .int x2, .ref (a3 0)]) (n := 8) (Nat.le_of_ble_eq_true rfl)
  rw [lg_entry_eq]
  generalize (lg_sl ([.ref (a0 0), .ref (a1 0), .int x2, .ref (a3 0)]) ++ List.replicate (8 - (lg_sl ([.ref (a0 0), .ref (a1 0), .int x2, .ref (a3 0)])).length) Slot.unset).toArray = ls at hl ⊢
  have hl : lv_has ls 8 [(0, .ref (a0 0)), (1, .ref (a1 0)), (2, .int x2), (3, .ref (a3 0))] := hl
  have C0 : cx wsAll vwCl nx p s m [.ref (a0 0), .ref (a1 0), .int x2, .ref (a3 0)].toArray meth c (dC, dI) (tyA ct) b_Reckoner_workOut 8 (none : Option Jvm.ClassFile.FieldType) R_Reckoner A [adReckoner a0, adText a1, adSteps a2, adCells a3] := ⟨hx, hb, hr, hml, hown, hlocks, hts, hK, hN, hA, hnx⟩
  have h := hF
  rw [F_Reckoner_workOut] at h
  refine lv_aload_n hx hb d_Reckoner_workOut_0 rfl (lv_at hl 1 rfl) ?_
  refine va_get (D := (dC, dI)) (ci := 2) (v := .ref (a1 2)) (C := R_Text) (T := T_Text) (N := 12) hx hb hts in_Text hown hK (hP 1 _ rfl) 0 rfl rfl 4 (by decide) (hts _ fl_Reckoner_58) (fun _ h9 => h9) rfl d_Reckoner_workOut_1 ?_
  refine lv_iload_n hx hb d_Reckoner_workOut_4 rfl (lv_at hl 2 rfl) ?_
  obtain ⟨hi1, h⟩ := chk_some h
  refine va_iald (f := g32 o1 4) hx hb hK (hP 1 _ rfl) 2 0 rfl rfl (inb_in hi1) d_Reckoner_workOut_5 ?_
  refine lv_istore (lv' := [(4, .int (g32 o1 4 (Int32.toNatClampNeg x2))), (0, .ref (a0 0)), (1, .ref (a1 0)), (2, .int x2), (3, .ref (a3 0))]) hx hb d_Reckoner_workOut_6 hl (by decide) rfl (fun ls hl => ?_)
  refine lv_aload_n hx hb d_Reckoner_workOut_8 rfl (lv_at hl 2 rfl) ?_
  refine va_get (D := (dC, dI)) (ci := 2) (v := .ref (a1 3)) (C := R_Text) (T := T_Text) (N := 12) hx hb hts in_Text hown hK (hP 1 _ rfl) 0 rfl rfl 5 (by decide) (hts _ fl_Reckoner_65) (fun _ h9 => h9) rfl d_Reckoner_workOut_9 ?_
  refine lv_iload_n hx hb d_Reckoner_workOut_12 rfl (lv_at hl 3 rfl) ?_
  refine va_iald (f := g32 o1 5) hx hb hK (hP 1 _ rfl) 3 0 rfl rfl (inb_in hi1) d_Reckoner_workOut_13 ?_
  refine lv_istore (lv' := [(5, .int (g32 o1 5 (Int32.toNatClampNeg x2))), (4, .int (g32 o1 4 (Int32.toNatClampNeg x2))), (0, .ref (a0 0)), (1, .ref (a1 0)), (2, .int x2), (3, .ref (a3 0))]) hx hb d_Reckoner_workOut_14 hl (by decide) rfl (fun ls hl => ?_)
  refine lv_iconst (v := 0) hx hb d_Reckoner_workOut_16 (by decide) ?_
  refine lv_istore (lv' := [(6, .int (0 : Int32)), (5, .int (g32 o1 5 (Int32.toNatClampNeg x2))), (4, .int (g32 o1 4 (Int32.toNatClampNeg x2))), (0, .ref (a0 0)), (1, .ref (a1 0)), (2, .int x2), (3, .ref (a3 0))]) hx hb d_Reckoner_workOut_17 hl (by decide) rfl (fun ls hl => ?_)
  exact k_Reckoner_workOut_19 C0 fuel x2 (g32 o1 4 (Int32.toNatClampNeg x2)) (g32 o1 5 (Int32.toNatClampNeg x2)) (0 : Int32) o0 o3 _ _ _ hP hS (lv_sub hl [3, 4, 5, 6, 2, 1, 0] rfl) h
theorem g_Reckoner_61 : GoodIn wsAll (wsV R_Reckoner 61 R_Text y_Text_hangsOn ws_Text_hangsOn) := gd_V ml_Reckoner_61 im_Text_hangsOn se_Text_hangsOn ini_Text cd_Text_hangsOn
theorem g_Reckoner_54 : GoodIn wsAll (wsV R_Reckoner 54 R_Reckoner y_Reckoner_workOut ws_Reckoner_workOut) := gd_V ml_Reckoner_54 im_Reckoner_workOut se_Reckoner_workOut ini_Reckoner cd_Reckoner_workOut
def F_Reckoner_workOutHanging_6 (o1 o2 : Ob)  : Nat → Int32 → Int32 → Int32 → Ob → Ob → Option (Int32 × Ob × Ob)
  | 0, _, _, _, _, _ => none
  | n + 1, x2, x4, x5, o0, o3 =>
    if (g32 o1 11 0) ≤ x5 then (some (x4, o0, o3)) else (chk (inb x5 24) (chk (inb (g32 o1 10 (Int32.toNatClampNeg x5)) 24) (bind1 (F_Text_hangsOn (g32 o1 4 (Int32.toNatClampNeg (g32 o1 10 (Int32.toNatClampNeg x5)))) x2 o1) (fun v5 => if (b2i v5) = 0 then (F_Reckoner_workOutHanging_6 o1 o2 n x2 x4 (x5 + (1 : Int32)) o0 o3) else (bind2 (F_Reckoner_workOut (g32 o1 10 (Int32.toNatClampNeg x5)) o0 o1 o2 o3) (fun o_8 o_9 => F_Reckoner_workOutHanging_6 o1 o2 n x2 (x4 + (1 : Int32)) (x5 + (1 : Int32)) o_8 o_9))))))
def F_Reckoner_workOutHanging (x2 : Int32) (o0 o1 o2 o3 : Ob) : Option (Int32 × Ob × Ob) :=
  F_Reckoner_workOutHanging_6 o1 o2 fuel x2 (0 : Int32) (0 : Int32) o0 o3
abbrev ws_Reckoner_workOutHanging : List Cond := Cond.code y_Reckoner_workOutHanging b_Reckoner_workOutHanging 7 (some .int) :: wsAll
abbrev rm_Reckoner_workOutHanging : Room := { frames := 6, cells := 0, slots := 0, locals := 171 }
set_option maxHeartbeats 4000000 in
set_option maxRecDepth 100000 in
theorem k_Reckoner_workOutHanging_6 {p : Program} {l : Launch} {e : Env} {s : State} {m : MethodId} {args : Array Value} {below : List Frame} {meth : Method} {c : Code} {A : Nat → Prop} {ct dC : Nat → ClassId} {dI : Nat → Nat → Nat} {a0 a1 a2 a3 : Nat → Nat}  {r : Int32} {n0 n3 : Ob} {o1 o2 : Ob}  (C0 : cx wsAll vwCl nx p s m args meth c (dC, dI) (tyA ct) b_Reckoner_workOutHanging 7 (some .int) R_Reckoner A [adReckoner a0, adText a1, adSteps a2, adCells a3])  : ∀ (n : Nat) (x2 : Int32) (x4 : Int32) (x5 : Int32) (o0 o3 : Ob) (H : Heap) (locs : List Loc) (ls : Array Slot), bw_P (dC, dI) vwCl [wReckoner ct a0 o0, wText ct a1 (a2 0) o1, wSteps ct a2 o2, wCells ct a3 o3] H → va_S A s.heap H locs → lv_has ls 7 [(0, .ref (a0 0)), (1, .ref (a1 0)), (2, .int x2), (3, .ref (a3 0)), (4, .int x4), (5, .int x5)] → F_Reckoner_workOutHanging_6 o1 o2 n x2 x4 x5 o0 o3 = some (r, n0, n3) → W p l e (headSpec ws_Reckoner_workOutHanging rm_Reckoner_workOutHanging).room s m args below meth c H locs 0 0 (MQ below (bw_Q (dC, dI) vwCl (some (.int r)) [wReckoner ct a0 n0, wText ct a1 (a2 0) o1, wSteps ct a2 o2, wCells ct a3 n3] A) args s 0 0 A) (F0 m 6 ls []) := by
  obtain ⟨hx, hb, hr, hml, hown, hlocks, hts, hK, hN, hA, hnx⟩ := id C0
  intro n
  induction n with
  | zero =>
    intro x2 x4 x5 o0 o3 H locs ls hP hS hl h
    cases h
  | succ n ih =>
    intro x2 x4 x5 o0 o3 H locs ls hP hS hl h
    rw [F_Reckoner_workOutHanging_6] at h
    refine lv_iload hx hb d_Reckoner_workOutHanging_6 (lv_at hl 5 rfl) ?_
    refine lv_aload_n hx hb d_Reckoner_workOutHanging_8 rfl (lv_at hl 1 rfl) ?_
    refine va_get (D := (dC, dI)) (ci := 2) (v := .int (g32 o1 11 0)) (C := R_Text) (T := T_Text) (N := 12) hx hb hts in_Text hown hK (hP 1 _ rfl) 0 rfl rfl 11 (by decide) (hts _ fl_Reckoner_47) (fun _ h9 => h9) rfl d_Reckoner_workOutHanging_9 ?_
    refine lv_icmp_ge (tgt := 56) hx hb d_Reckoner_workOutHanging_12 (by decide) (fun c1 => ?_) (fun c1 => ?_)
    · have h := ite_t c1 h
      refine lv_iload hx hb d_Reckoner_workOutHanging_56 (lv_at hl 4 rfl) ?_
      obtain ⟨rfl, rfl, rfl⟩ := res3 h
      exact W.iret hx hb hr (fun t ht hW => ⟨rfl, by rw [ht]; exact hP, hS.F ht⟩) hS.2.2 d_Reckoner_workOutHanging_58
    · have h := ite_f c1 h
      refine lv_aload_n hx hb d_Reckoner_workOutHanging_15 rfl (lv_at hl 1 rfl) ?_
      refine va_get (D := (dC, dI)) (ci := 2) (v := .ref (a1 8)) (C := R_Text) (T := T_Text) (N := 12) hx hb hts in_Text hown hK (hP 1 _ rfl) 0 rfl rfl 10 (by decide) (hts _ fl_Reckoner_50) (fun _ h9 => h9) rfl d_Reckoner_workOutHanging_16 ?_
      refine lv_iload hx hb d_Reckoner_workOutHanging_19 (lv_at hl 5 rfl) ?_
      obtain ⟨hi2, h⟩ := chk_some h
      refine va_iald (f := g32 o1 10) hx hb hK (hP 1 _ rfl) 8 0 rfl rfl (inb_in hi2) d_Reckoner_workOutHanging_21 ?_
      refine lv_istore (lv' := [(6, .int (g32 o1 10 (Int32.toNatClampNeg x5))), (0, .ref (a0 0)), (1, .ref (a1 0)), (2, .int x2), (3, .ref (a3 0)), (4, .int x4), (5, .int x5)]) hx hb d_Reckoner_workOutHanging_22 hl (by decide) rfl (fun ls hl => ?_)
      refine lv_aload_n hx hb d_Reckoner_workOutHanging_24 rfl (lv_at hl 2 rfl) ?_
      refine lv_aload_n hx hb d_Reckoner_workOutHanging_25 rfl (lv_at hl 2 rfl) ?_
      refine va_get (D := (dC, dI)) (ci := 2) (v := .ref (a1 2)) (C := R_Text) (T := T_Text) (N := 12) hx hb hts in_Text hown hK (hP 1 _ rfl) 0 rfl rfl 4 (by decide) (hts _ fl_Reckoner_58) (fun _ h9 => h9) rfl d_Reckoner_workOutHanging_26 ?_
      refine lv_iload hx hb d_Reckoner_workOutHanging_29 (lv_at hl 0 rfl) ?_
      obtain ⟨hi3, h⟩ := chk_some h
      refine va_iald (f := g32 o1 4) hx hb hK (hP 1 _ rfl) 2 0 rfl rfl (inb_in hi3) d_Reckoner_workOutHanging_31 ?_
      refine lv_iload_n hx hb d_Reckoner_workOutHanging_32 rfl (lv_at hl 3 rfl) ?_
      obtain ⟨v5, hG4, h⟩ := bind1_some h
      refine bw_callR (va_runV (As := [.int (g32 o1 4 (Int32.toNatClampNeg (g32 o1 10 (Int32.toNatClampNeg x5)))), .int x2]) (rest := []) ⟨hx, hb, hml, hown, hts⟩ (c_Text_hangsOn l ct dC dI a1 (a2 0) _ (g32 o1 4 (Int32.toNatClampNeg (g32 o1 10 (Int32.toNatClampNeg x5)))) x2 o1 v5 hG4) (cwV 2 hts g_Reckoner_61 rfl rfl rfl (by decide +kernel) ⟨Nat.le_of_ble_eq_true rfl, Nat.le_of_ble_eq_true rfl⟩) ⟨bw_blind nx_call, va_recv hK (hP 1 _ rfl) (ci := 2) (q0 := 0) rfl rfl, fun U hU hW => ⟨rfl, by rw [hU], by rw [hU]; exact hP.sub [1] rfl, va_K.moved hW.alike hK, (hN.sub [1] (by decide) rfl).weaken (fun _ _ => trivial), nx_warm hW hnx⟩⟩ rfl rfl hl.1 rfl (Nat.le_of_ble_eq_true rfl) d_Reckoner_workOutHanging_33 ⟨Nat.le_of_ble_eq_true rfl, Nat.le_of_ble_eq_true rfl⟩) ?_
      refine lv_if_eq (tgt := 50) hx hb d_Reckoner_workOutHanging_36 (by decide) (fun c6 => ?_) (fun c6 => ?_)
      · have h := ite_t c6 h
        refine lv_iinc (v := (x5 + (1 : Int32))) (lv' := [(5, .int (x5 + (1 : Int32))), (6, .int (g32 o1 10 (Int32.toNatClampNeg x5))), (0, .ref (a0 0)), (1, .ref (a1 0)), (2, .int x2), (3, .ref (a3 0)), (4, .int x4)]) hx hb d_Reckoner_workOutHanging_50 hl (k := 6) rfl rfl (by decide) rfl (fun ls hl => ?_)
        refine lv_goto (tgt := 6) hx hb d_Reckoner_workOutHanging_53 (by decide) ?_
        exact ih x2 x4 (x5 + (1 : Int32)) o0 o3 _ _ _ hP hS (lv_sub hl [2, 3, 4, 5, 6, 0] rfl) h
      · have h := ite_f c6 h
        refine lv_aload_n hx hb d_Reckoner_workOutHanging_39 rfl (lv_at hl 1 rfl) ?_
        refine lv_aload_n hx hb d_Reckoner_workOutHanging_40 rfl (lv_at hl 2 rfl) ?_
        refine lv_iload hx hb d_Reckoner_workOutHanging_41 (lv_at hl 0 rfl) ?_
        refine lv_aload_n hx hb d_Reckoner_workOutHanging_43 rfl (lv_at hl 4 rfl) ?_
        obtain ⟨o_8, o_9, hG7, h⟩ := bind2_some h
        refine bw_call (Lc := [wReckoner ct a0 o0, wText ct a1 (a2 0) o1, wSteps ct a2 o2, wCells ct a3 o3]) (Lc' := [wReckoner ct a0 o_8, wText ct a1 (a2 0) o1, wSteps ct a2 o2, wCells ct a3 o_9]) (L' := [wReckoner ct a0 o_8, wText ct a1 (a2 0) o1, wSteps ct a2 o2, wCells ct a3 o_9]) [0, 1, 2, 3] (va_runV (As := [.ref (a1 0), .int (g32 o1 10 (Int32.toNatClampNeg x5)), .ref (a3 0)]) (rest := []) ⟨hx, hb, hml, hown, hts⟩ (c_Reckoner_workOut l ct dC dI a0 a1 a2 a3 _ (g32 o1 10 (Int32.toNatClampNeg x5)) o0 o1 o2 o3 o_8 o_9 hG7) (cwV 3 hts g_Reckoner_54 rfl rfl rfl (by decide +kernel) ⟨Nat.le_of_ble_eq_true rfl, Nat.le_of_ble_eq_true rfl⟩) ⟨bw_blind nx_call, va_recv hK (hP 0 _ rfl) (ci := 4) (q0 := 0) rfl rfl, fun U hU hW => ⟨rfl, by rw [hU], by rw [hU]; exact hP.sub [0, 1, 2, 3] rfl, va_K.moved hW.alike hK, (hN.sub [0, 1, 2, 3] (by decide) rfl).weaken (fun _ _ => trivial), nx_warm hW hnx⟩⟩ rfl rfl hl.1 rfl (Nat.le_of_ble_eq_true rfl) d_Reckoner_workOutHanging_44 ⟨Nat.le_of_ble_eq_true rfl, Nat.le_of_ble_eq_true rfl⟩) hP hN hS hA rfl rfl rfl (fun H locs hP hS => ?_)
        refine lv_iinc (v := (x4 + (1 : Int32))) (lv' := [(4, .int (x4 + (1 : Int32))), (6, .int (g32 o1 10 (Int32.toNatClampNeg x5))), (0, .ref (a0 0)), (1, .ref (a1 0)), (2, .int x2), (3, .ref (a3 0)), (5, .int x5)]) hx hb d_Reckoner_workOutHanging_47 hl (k := 5) rfl rfl (by decide) rfl (fun ls hl => ?_)
        refine lv_iinc (v := (x5 + (1 : Int32))) (lv' := [(5, .int (x5 + (1 : Int32))), (4, .int (x4 + (1 : Int32))), (6, .int (g32 o1 10 (Int32.toNatClampNeg x5))), (0, .ref (a0 0)), (1, .ref (a1 0)), (2, .int x2), (3, .ref (a3 0))]) hx hb d_Reckoner_workOutHanging_50 hl (k := 6) rfl rfl (by decide) rfl (fun ls hl => ?_)
        refine lv_goto (tgt := 6) hx hb d_Reckoner_workOutHanging_53 (by decide) ?_
        exact ih x2 (x4 + (1 : Int32)) (x5 + (1 : Int32)) o_8 o_9 _ _ _ hP hS (lv_sub hl [3, 4, 5, 6, 1, 0] rfl) h
set_option maxHeartbeats 4000000 in
set_option maxRecDepth 100000 in
theorem c_Reckoner_workOutHanging (l : Launch) (ct dC : Nat → ClassId) (dI : Nat → Nat → Nat) (a0 a1 a2 a3 : Nat → Nat)  (sz : Nat) (x2 : Int32) (o0 o1 o2 o3 : Ob) (r : Int32) (n0 n3 : Ob) (hF : F_Reckoner_workOutHanging x2 o0 o1 o2 o3 = some (r, n0, n3)) : Met l y_Reckoner_workOutHanging ws_Reckoner_workOutHanging rm_Reckoner_workOutHanging (bw_Pc [.ref (a0 0), .ref (a1 0), .int x2, .ref (a3 0)] (dC, dI) vwCl (tyA ct) [wReckoner ct a0 o0, wText ct a1 (a2 0) o1, wSteps ct a2 o2, wCells ct a3 o3] sz nx) (bw_Q (dC, dI) vwCl (some (.int r)) [wReckoner ct a0 n0, wText ct a1 (a2 0) o1, wSteps ct a2 o2, wCells ct a3 n3] (bw_A [adReckoner a0, adText a1, adSteps a2, adCells a3] sz)) 0 0 (bw_A [adReckoner a0, adText a1, adSteps a2, adCells a3] sz) := by
  refine Met.ofW (cc := b_Reckoner_workOutHanging) (maxL := 7) (ret := (some .int)) (by decide) rfl ?_
  intro p e s m args below meth c s₁ B hml hv
  obtain ⟨rfl, hsz, hP, hK, hN0, hnx⟩ := hv
  have hx := B.exec
  have hb := B.bytes
  have hr := B.returns
  have hts : ∀ w ∈ wsAll, w.before [.ref (a0 0), .ref (a1 0), .int x2, .ref (a3 0)].toArray s = true := fun w h9 => atoms_spec (ws := ws_Reckoner_workOutHanging) B.pre w (List.mem_cons_of_mem _ h9)
  have hown : s.vm.findClass R_Reckoner = some m.cls := findClass_of_methodNamed B.named
  have hlocks := B.notSynchronized
  subst hsz
  have hN : bw_N (bw_A [adReckoner a0, adText a1, adSteps a2, adCells a3] s.heap.size) [adReckoner a0, adText a1, adSteps a2, adCells a3] := hN0.self s.heap.size
  generalize hAe : bw_A [adReckoner a0, adText a1, adSteps a2, adCells a3] s.heap.size = A at hN ⊢
  have hA : ∀ q : Nat, s.heap.size ≤ q → A q := fun q h => by rw [← hAe]; exact Or.inr h
  have hS : va_S A s.heap s.heap [] := va_S.rf
  have hl := lv_entry ([.ref (a0 0), .ref (a1 0), .int x2, .ref (a3 0)]) (n := 7) (Nat.le_of_ble_eq_true rfl)
  rw [lg_entry_eq]
  generalize (lg_sl ([.ref (a0 0), .ref (a1 0), .int x2, .ref (a3 0)]) ++ List.replicate (7 - (lg_sl ([.ref (a0 0), .ref (a1 0), .int x2, .ref (a3 0)])).length) Slot.unset).toArray = ls at hl ⊢
  have hl : lv_has ls 7 [(0, .ref (a0 0)), (1, .ref (a1 0)), (2, .int x2), (3, .ref (a3 0))] := hl
  have C0 : cx wsAll vwCl nx p s m [.ref (a0 0), .ref (a1 0), .int x2, .ref (a3 0)].toArray meth c (dC, dI) (tyA ct) b_Reckoner_workOutHanging 7 (some .int) R_Reckoner A [adReckoner a0, adText a1, adSteps a2, adCells a3] := ⟨hx, hb, hr, hml, hown, hlocks, hts, hK, hN, hA, hnx⟩
  have h := hF
  rw [F_Reckoner_workOutHanging] at h
  refine lv_iconst (v := 0) hx hb d_Reckoner_workOutHanging_0 (by decide) ?_
  refine lv_istore (lv' := [(4, .int (0 : Int32)), (0, .ref (a0 0)), (1, .ref (a1 0)), (2, .int x2), (3, .ref (a3 0))]) hx hb d_Reckoner_workOutHanging_1 hl (by decide) rfl (fun ls hl => ?_)
  refine lv_iconst (v := 0) hx hb d_Reckoner_workOutHanging_3 (by decide) ?_
  refine lv_istore (lv' := [(5, .int (0 : Int32)), (4, .int (0 : Int32)), (0, .ref (a0 0)), (1, .ref (a1 0)), (2, .int x2), (3, .ref (a3 0))]) hx hb d_Reckoner_workOutHanging_4 hl (by decide) rfl (fun ls hl => ?_)
  exact k_Reckoner_workOutHanging_6 C0 fuel x2 (0 : Int32) (0 : Int32) o0 o3 _ _ _ hP hS (lv_sub hl [2, 3, 4, 5, 1, 0] rfl) h
theorem g_Reckoner_35 : GoodIn wsAll (wsV R_Reckoner 35 R_Text y_Text_isRing ws_Text_isRing) := gd_V ml_Reckoner_35 im_Text_isRing se_Text_isRing ini_Text cd_Text_isRing
def F_Reckoner_workOutAll_34 (o1 o2 : Ob)  : Nat → Int32 → Ob → Ob → Option (Ob × Ob)
  | 0, _, _, _ => none
  | n + 1, x3, o0, o3 =>
    if (g32 o1 11 0) ≤ x3 then (some (o0, o3)) else (chk (inb x3 24) (bind2 (F_Reckoner_workOut (g32 o1 10 (Int32.toNatClampNeg x3)) o0 o1 o2 o3) (fun o_12 o_13 => F_Reckoner_workOutAll_34 o1 o2 n (x3 + (1 : Int32)) o_12 o_13)))
def F_Reckoner_workOutAll_2 (o1 o2 : Ob)  : Nat → Int32 → Ob → Ob → Option (Ob × Ob)
  | 0, _, _, _ => none
  | n + 1, x3, o0, o3 =>
    if (60 : Int32) ≤ x3 then (F_Reckoner_workOutAll_34 o1 o2 fuel (0 : Int32) o0 o3) else (bind1 (F_Text_isRing x3 o1) (fun v3 => if (b2i v3) = 0 then (bind1 (F_Cells_takeReason x3 (0 : Int32) o3) (fun o_6 => F_Reckoner_workOutAll_2 o1 o2 n (x3 + (1 : Int32)) o0 o_6)) else (bind1 (F_Cells_takeReason x3 (4 : Int32) o3) (fun o_8 => F_Reckoner_workOutAll_2 o1 o2 n (x3 + (1 : Int32)) o0 o_8))))
def F_Reckoner_workOutAll  (o0 o1 o2 o3 : Ob) : Option (Ob × Ob) :=
  F_Reckoner_workOutAll_2 o1 o2 fuel (0 : Int32) o0 o3
abbrev ws_Reckoner_workOutAll : List Cond := Cond.code y_Reckoner_workOutAll b_Reckoner_workOutAll 4 (none : Option Jvm.ClassFile.FieldType) :: wsAll
abbrev rm_Reckoner_workOutAll : Room := { frames := 6, cells := 0, slots := 0, locals := 171 }
set_option maxHeartbeats 4000000 in
set_option maxRecDepth 100000 in
theorem k_Reckoner_workOutAll_34 {p : Program} {l : Launch} {e : Env} {s : State} {m : MethodId} {args : Array Value} {below : List Frame} {meth : Method} {c : Code} {A : Nat → Prop} {ct dC : Nat → ClassId} {dI : Nat → Nat → Nat} {a0 a1 a2 a3 : Nat → Nat}  {n0 n3 : Ob} {o1 o2 : Ob}  (C0 : cx wsAll vwCl nx p s m args meth c (dC, dI) (tyA ct) b_Reckoner_workOutAll 4 (none : Option Jvm.ClassFile.FieldType) R_Reckoner A [adReckoner a0, adText a1, adSteps a2, adCells a3])  : ∀ (n : Nat) (x3 : Int32) (o0 o3 : Ob) (H : Heap) (locs : List Loc) (ls : Array Slot), bw_P (dC, dI) vwCl [wReckoner ct a0 o0, wText ct a1 (a2 0) o1, wSteps ct a2 o2, wCells ct a3 o3] H → va_S A s.heap H locs → lv_has ls 4 [(0, .ref (a0 0)), (1, .ref (a1 0)), (2, .ref (a3 0)), (3, .int x3)] → F_Reckoner_workOutAll_34 o1 o2 n x3 o0 o3 = some (n0, n3) → W p l e (headSpec ws_Reckoner_workOutAll rm_Reckoner_workOutAll).room s m args below meth c H locs 0 0 (MQ below (bw_Q (dC, dI) vwCl none [wReckoner ct a0 n0, wText ct a1 (a2 0) o1, wSteps ct a2 o2, wCells ct a3 n3] A) args s 0 0 A) (F0 m 34 ls []) := by
  obtain ⟨hx, hb, hr, hml, hown, hlocks, hts, hK, hN, hA, hnx⟩ := id C0
  intro n
  induction n with
  | zero =>
    intro x3 o0 o3 H locs ls hP hS hl h
    cases h
  | succ n ih =>
    intro x3 o0 o3 H locs ls hP hS hl h
    rw [F_Reckoner_workOutAll_34] at h
    refine lv_iload_n hx hb d_Reckoner_workOutAll_34 rfl (lv_at hl 3 rfl) ?_
    refine lv_aload_n hx hb d_Reckoner_workOutAll_35 rfl (lv_at hl 1 rfl) ?_
    refine va_get (D := (dC, dI)) (ci := 2) (v := .int (g32 o1 11 0)) (C := R_Text) (T := T_Text) (N := 12) hx hb hts in_Text hown hK (hP 1 _ rfl) 0 rfl rfl 11 (by decide) (hts _ fl_Reckoner_47) (fun _ h9 => h9) rfl d_Reckoner_workOutAll_36 ?_
    refine lv_icmp_ge (tgt := 60) hx hb d_Reckoner_workOutAll_39 (by decide) (fun c9 => ?_) (fun c9 => ?_)
    · have h := ite_t c9 h
      obtain ⟨rfl, rfl⟩ := res2 h
      exact W.vret hx hb hr (fun t ht hW => ⟨rfl, by rw [ht]; exact hP, hS.F ht⟩) hS.2.2 d_Reckoner_workOutAll_60
    · have h := ite_f c9 h
      refine lv_aload_n hx hb d_Reckoner_workOutAll_42 rfl (lv_at hl 0 rfl) ?_
      refine lv_aload_n hx hb d_Reckoner_workOutAll_43 rfl (lv_at hl 1 rfl) ?_
      refine lv_aload_n hx hb d_Reckoner_workOutAll_44 rfl (lv_at hl 1 rfl) ?_
      refine va_get (D := (dC, dI)) (ci := 2) (v := .ref (a1 8)) (C := R_Text) (T := T_Text) (N := 12) hx hb hts in_Text hown hK (hP 1 _ rfl) 0 rfl rfl 10 (by decide) (hts _ fl_Reckoner_50) (fun _ h9 => h9) rfl d_Reckoner_workOutAll_45 ?_
      refine lv_iload_n hx hb d_Reckoner_workOutAll_48 rfl (lv_at hl 3 rfl) ?_
      obtain ⟨hi10, h⟩ := chk_some h
      refine va_iald (f := g32 o1 10) hx hb hK (hP 1 _ rfl) 8 0 rfl rfl (inb_in hi10) d_Reckoner_workOutAll_49 ?_
      refine lv_aload_n hx hb d_Reckoner_workOutAll_50 rfl (lv_at hl 2 rfl) ?_
      obtain ⟨o_12, o_13, hG11, h⟩ := bind2_some h
      refine bw_call (Lc := [wReckoner ct a0 o0, wText ct a1 (a2 0) o1, wSteps ct a2 o2, wCells ct a3 o3]) (Lc' := [wReckoner ct a0 o_12, wText ct a1 (a2 0) o1, wSteps ct a2 o2, wCells ct a3 o_13]) (L' := [wReckoner ct a0 o_12, wText ct a1 (a2 0) o1, wSteps ct a2 o2, wCells ct a3 o_13]) [0, 1, 2, 3] (va_runV (As := [.ref (a1 0), .int (g32 o1 10 (Int32.toNatClampNeg x3)), .ref (a3 0)]) (rest := []) ⟨hx, hb, hml, hown, hts⟩ (c_Reckoner_workOut l ct dC dI a0 a1 a2 a3 _ (g32 o1 10 (Int32.toNatClampNeg x3)) o0 o1 o2 o3 o_12 o_13 hG11) (cwV 3 hts g_Reckoner_54 rfl rfl rfl (by decide +kernel) ⟨Nat.le_of_ble_eq_true rfl, Nat.le_of_ble_eq_true rfl⟩) ⟨bw_blind nx_call, va_recv hK (hP 0 _ rfl) (ci := 4) (q0 := 0) rfl rfl, fun U hU hW => ⟨rfl, by rw [hU], by rw [hU]; exact hP.sub [0, 1, 2, 3] rfl, va_K.moved hW.alike hK, (hN.sub [0, 1, 2, 3] (by decide) rfl).weaken (fun _ _ => trivial), nx_warm hW hnx⟩⟩ rfl rfl hl.1 rfl (Nat.le_of_ble_eq_true rfl) d_Reckoner_workOutAll_51 ⟨Nat.le_of_ble_eq_true rfl, Nat.le_of_ble_eq_true rfl⟩) hP hN hS hA rfl rfl rfl (fun H locs hP hS => ?_)
      refine lv_iinc (v := (x3 + (1 : Int32))) (lv' := [(3, .int (x3 + (1 : Int32))), (0, .ref (a0 0)), (1, .ref (a1 0)), (2, .ref (a3 0))]) hx hb d_Reckoner_workOutAll_54 hl (k := 3) rfl rfl (by decide) rfl (fun ls hl => ?_)
      refine lv_goto (tgt := 34) hx hb d_Reckoner_workOutAll_57 (by decide) ?_
      exact ih (x3 + (1 : Int32)) o_12 o_13 _ _ _ hP hS (lv_sub hl [1, 2, 3, 0] rfl) h
set_option maxHeartbeats 4000000 in
set_option maxRecDepth 100000 in
theorem k_Reckoner_workOutAll_2 {p : Program} {l : Launch} {e : Env} {s : State} {m : MethodId} {args : Array Value} {below : List Frame} {meth : Method} {c : Code} {A : Nat → Prop} {ct dC : Nat → ClassId} {dI : Nat → Nat → Nat} {a0 a1 a2 a3 : Nat → Nat}  {n0 n3 : Ob} {o1 o2 : Ob}  (C0 : cx wsAll vwCl nx p s m args meth c (dC, dI) (tyA ct) b_Reckoner_workOutAll 4 (none : Option Jvm.ClassFile.FieldType) R_Reckoner A [adReckoner a0, adText a1, adSteps a2, adCells a3])  : ∀ (n : Nat) (x3 : Int32) (o0 o3 : Ob) (H : Heap) (locs : List Loc) (ls : Array Slot), bw_P (dC, dI) vwCl [wReckoner ct a0 o0, wText ct a1 (a2 0) o1, wSteps ct a2 o2, wCells ct a3 o3] H → va_S A s.heap H locs → lv_has ls 4 [(0, .ref (a0 0)), (1, .ref (a1 0)), (2, .ref (a3 0)), (3, .int x3)] → F_Reckoner_workOutAll_2 o1 o2 n x3 o0 o3 = some (n0, n3) → W p l e (headSpec ws_Reckoner_workOutAll rm_Reckoner_workOutAll).room s m args below meth c H locs 0 0 (MQ below (bw_Q (dC, dI) vwCl none [wReckoner ct a0 n0, wText ct a1 (a2 0) o1, wSteps ct a2 o2, wCells ct a3 n3] A) args s 0 0 A) (F0 m 2 ls []) := by
  obtain ⟨hx, hb, hr, hml, hown, hlocks, hts, hK, hN, hA, hnx⟩ := id C0
  intro n
  induction n with
  | zero =>
    intro x3 o0 o3 H locs ls hP hS hl h
    cases h
  | succ n ih =>
    intro x3 o0 o3 H locs ls hP hS hl h
    rw [F_Reckoner_workOutAll_2] at h
    refine lv_iload_n hx hb d_Reckoner_workOutAll_2 rfl (lv_at hl 3 rfl) ?_
    refine lv_bipush (v := 60) hx hb d_Reckoner_workOutAll_3 (by decide) ?_
    refine lv_icmp_ge (tgt := 32) hx hb d_Reckoner_workOutAll_5 (by decide) (fun c1 => ?_) (fun c1 => ?_)
    · have h := ite_t c1 h
      refine lv_iconst (v := 0) hx hb d_Reckoner_workOutAll_32 (by decide) ?_
      refine lv_istore_n (lv' := [(3, .int (0 : Int32)), (0, .ref (a0 0)), (1, .ref (a1 0)), (2, .ref (a3 0))]) hx hb d_Reckoner_workOutAll_33 rfl hl (by decide) rfl (fun ls hl => ?_)
      exact k_Reckoner_workOutAll_34 C0 fuel (0 : Int32) o0 o3 _ _ _ hP hS (lv_sub hl [1, 2, 3, 0] rfl) h
    · have h := ite_f c1 h
      refine lv_aload_n hx hb d_Reckoner_workOutAll_8 rfl (lv_at hl 2 rfl) ?_
      refine lv_iload_n hx hb d_Reckoner_workOutAll_9 rfl (lv_at hl 3 rfl) ?_
      refine lv_aload_n hx hb d_Reckoner_workOutAll_10 rfl (lv_at hl 1 rfl) ?_
      refine lv_iload_n hx hb d_Reckoner_workOutAll_11 rfl (lv_at hl 3 rfl) ?_
      obtain ⟨v3, hG2, h⟩ := bind1_some h
      refine bw_callR (va_runV (As := [.int x3]) (rest := [.int x3, .ref (a3 0)]) ⟨hx, hb, hml, hown, hts⟩ (c_Text_isRing l ct dC dI a1 (a2 0) _ x3 o1 v3 hG2) (cwV 1 hts g_Reckoner_35 rfl rfl rfl (by decide +kernel) ⟨Nat.le_of_ble_eq_true rfl, Nat.le_of_ble_eq_true rfl⟩) ⟨bw_blind nx_call, va_recv hK (hP 1 _ rfl) (ci := 2) (q0 := 0) rfl rfl, fun U hU hW => ⟨rfl, by rw [hU], by rw [hU]; exact hP.sub [1] rfl, va_K.moved hW.alike hK, (hN.sub [1] (by decide) rfl).weaken (fun _ _ => trivial), nx_warm hW hnx⟩⟩ rfl rfl hl.1 rfl (Nat.le_of_ble_eq_true rfl) d_Reckoner_workOutAll_12 ⟨Nat.le_of_ble_eq_true rfl, Nat.le_of_ble_eq_true rfl⟩) ?_
      refine lv_if_eq (tgt := 22) hx hb d_Reckoner_workOutAll_15 (by decide) (fun c4 => ?_) (fun c4 => ?_)
      · have h := ite_t c4 h
        refine lv_iconst (v := 0) hx hb d_Reckoner_workOutAll_22 (by decide) ?_
        obtain ⟨o_6, hG5, h⟩ := bind1_some h
        refine bw_call (Lc := [wCells ct a3 o3]) (Lc' := [wCells ct a3 o_6]) (L' := [wReckoner ct a0 o0, wText ct a1 (a2 0) o1, wSteps ct a2 o2, wCells ct a3 o_6]) [3] (va_runV (As := [.int x3, .int (0 : Int32)]) (rest := []) ⟨hx, hb, hml, hown, hts⟩ (c_Cells_takeReason l ct dC dI a3 _ x3 (0 : Int32) o3 o_6 hG5) (cwV 2 hts g_Reckoner_41 rfl rfl rfl (by decide +kernel) ⟨Nat.le_of_ble_eq_true rfl, Nat.le_of_ble_eq_true rfl⟩) ⟨bw_blind nx_call, va_recv hK (hP 3 _ rfl) (ci := 1) (q0 := 0) rfl rfl, fun U hU hW => ⟨rfl, by rw [hU], by rw [hU]; exact hP.sub [3] rfl, va_K.moved hW.alike hK, (hN.sub [3] (by decide) rfl).weaken (fun _ _ => trivial), nx_warm hW hnx⟩⟩ rfl rfl hl.1 rfl (Nat.le_of_ble_eq_true rfl) d_Reckoner_workOutAll_23 ⟨Nat.le_of_ble_eq_true rfl, Nat.le_of_ble_eq_true rfl⟩) hP hN hS hA rfl rfl rfl (fun H locs hP hS => ?_)
        refine lv_iinc (v := (x3 + (1 : Int32))) (lv' := [(3, .int (x3 + (1 : Int32))), (0, .ref (a0 0)), (1, .ref (a1 0)), (2, .ref (a3 0))]) hx hb d_Reckoner_workOutAll_26 hl (k := 3) rfl rfl (by decide) rfl (fun ls hl => ?_)
        refine lv_goto (tgt := 2) hx hb d_Reckoner_workOutAll_29 (by decide) ?_
        exact ih (x3 + (1 : Int32)) o0 o_6 _ _ _ hP hS (lv_sub hl [1, 2, 3, 0] rfl) h
      · have h := ite_f c4 h
        refine lv_iconst (v := 4) hx hb d_Reckoner_workOutAll_18 (by decide) ?_
        refine lv_goto (tgt := 23) hx hb d_Reckoner_workOutAll_19 (by decide) ?_
        obtain ⟨o_8, hG7, h⟩ := bind1_some h
        refine bw_call (Lc := [wCells ct a3 o3]) (Lc' := [wCells ct a3 o_8]) (L' := [wReckoner ct a0 o0, wText ct a1 (a2 0) o1, wSteps ct a2 o2, wCells ct a3 o_8]) [3] (va_runV (As := [.int x3, .int (4 : Int32)]) (rest := []) ⟨hx, hb, hml, hown, hts⟩ (c_Cells_takeReason l ct dC dI a3 _ x3 (4 : Int32) o3 o_8 hG7) (cwV 2 hts g_Reckoner_41 rfl rfl rfl (by decide +kernel) ⟨Nat.le_of_ble_eq_true rfl, Nat.le_of_ble_eq_true rfl⟩) ⟨bw_blind nx_call, va_recv hK (hP 3 _ rfl) (ci := 1) (q0 := 0) rfl rfl, fun U hU hW => ⟨rfl, by rw [hU], by rw [hU]; exact hP.sub [3] rfl, va_K.moved hW.alike hK, (hN.sub [3] (by decide) rfl).weaken (fun _ _ => trivial), nx_warm hW hnx⟩⟩ rfl rfl hl.1 rfl (Nat.le_of_ble_eq_true rfl) d_Reckoner_workOutAll_23 ⟨Nat.le_of_ble_eq_true rfl, Nat.le_of_ble_eq_true rfl⟩) hP hN hS hA rfl rfl rfl (fun H locs hP hS => ?_)
        refine lv_iinc (v := (x3 + (1 : Int32))) (lv' := [(3, .int (x3 + (1 : Int32))), (0, .ref (a0 0)), (1, .ref (a1 0)), (2, .ref (a3 0))]) hx hb d_Reckoner_workOutAll_26 hl (k := 3) rfl rfl (by decide) rfl (fun ls hl => ?_)
        refine lv_goto (tgt := 2) hx hb d_Reckoner_workOutAll_29 (by decide) ?_
        exact ih (x3 + (1 : Int32)) o0 o_8 _ _ _ hP hS (lv_sub hl [1, 2, 3, 0] rfl) h
set_option maxHeartbeats 4000000 in
set_option maxRecDepth 100000 in
theorem c_Reckoner_workOutAll (l : Launch) (ct dC : Nat → ClassId) (dI : Nat → Nat → Nat) (a0 a1 a2 a3 : Nat → Nat)  (sz : Nat)  (o0 o1 o2 o3 : Ob) (n0 n3 : Ob) (hF : F_Reckoner_workOutAll o0 o1 o2 o3 = some (n0, n3)) : Met l y_Reckoner_workOutAll ws_Reckoner_workOutAll rm_Reckoner_workOutAll (bw_Pc [.ref (a0 0), .ref (a1 0), .ref (a3 0)] (dC, dI) vwCl (tyA ct) [wReckoner ct a0 o0, wText ct a1 (a2 0) o1, wSteps ct a2 o2, wCells ct a3 o3] sz nx) (bw_Q (dC, dI) vwCl none [wReckoner ct a0 n0, wText ct a1 (a2 0) o1, wSteps ct a2 o2, wCells ct a3 n3] (bw_A [adReckoner a0, adText a1, adSteps a2, adCells a3] sz)) 0 0 (bw_A [adReckoner a0, adText a1, adSteps a2, adCells a3] sz) := by
  refine Met.ofW (cc := b_Reckoner_workOutAll) (maxL := 4) (ret := (none : Option Jvm.ClassFile.FieldType)) (by decide) rfl ?_
  intro p e s m args below meth c s₁ B hml hv
  obtain ⟨rfl, hsz, hP, hK, hN0, hnx⟩ := hv
  have hx := B.exec
  have hb := B.bytes
  have hr := B.returns
  have hts : ∀ w ∈ wsAll, w.before [.ref (a0 0), .ref (a1 0), .ref (a3 0)].toArray s = true := fun w h9 => atoms_spec (ws := ws_Reckoner_workOutAll) B.pre w (List.mem_cons_of_mem _ h9)
  have hown : s.vm.findClass R_Reckoner = some m.cls := findClass_of_methodNamed B.named
  have hlocks := B.notSynchronized
  subst hsz
  have hN : bw_N (bw_A [adReckoner a0, adText a1, adSteps a2, adCells a3] s.heap.size) [adReckoner a0, adText a1, adSteps a2, adCells a3] := hN0.self s.heap.size
  generalize hAe : bw_A [adReckoner a0, adText a1, adSteps a2, adCells a3] s.heap.size = A at hN ⊢
  have hA : ∀ q : Nat, s.heap.size ≤ q → A q := fun q h => by rw [← hAe]; exact Or.inr h
  have hS : va_S A s.heap s.heap [] := va_S.rf
  have hl := lv_entry ([.ref (a0 0), .ref (a1 0), .ref (a3 0)]) (n := 4) (Nat.le_of_ble_eq_true rfl)
  rw [lg_entry_eq]
  generalize (lg_sl ([.ref (a0 0), .ref (a1 0), .ref (a3 0)]) ++ List.replicate (4 - (lg_sl ([.ref (a0 0), .ref (a1 0), .ref (a3 0)])).length) Slot.unset).toArray = ls at hl ⊢
  have hl : lv_has ls 4 [(0, .ref (a0 0)), (1, .ref (a1 0)), (2, .ref (a3 0))] := hl
  have C0 : cx wsAll vwCl nx p s m [.ref (a0 0), .ref (a1 0), .ref (a3 0)].toArray meth c (dC, dI) (tyA ct) b_Reckoner_workOutAll 4 (none : Option Jvm.ClassFile.FieldType) R_Reckoner A [adReckoner a0, adText a1, adSteps a2, adCells a3] := ⟨hx, hb, hr, hml, hown, hlocks, hts, hK, hN, hA, hnx⟩
  have h := hF
  rw [F_Reckoner_workOutAll] at h
  refine lv_iconst (v := 0) hx hb d_Reckoner_workOutAll_0 (by decide) ?_
  refine lv_istore_n (lv' := [(3, .int (0 : Int32)), (0, .ref (a0 0)), (1, .ref (a1 0)), (2, .ref (a3 0))]) hx hb d_Reckoner_workOutAll_1 rfl hl (by decide) rfl (fun ls hl => ?_)
  exact k_Reckoner_workOutAll_2 C0 fuel (0 : Int32) o0 o3 _ _ _ hP hS (lv_sub hl [1, 2, 3, 0] rfl) h
theorem g_Reckoner_94 : GoodIn wsAll (wsV R_Reckoner 94 R_Text y_Text_isLimit ws_Text_isLimit) := gd_V ml_Reckoner_94 im_Text_isLimit se_Text_isLimit ini_Text cd_Text_isLimit
def F_Reckoner_whyBroken (x2 : Int32) (o0 o1 o2 o3 : Ob) : Option (Int32 × Ob) :=
  bind1 (F_Text_isLimit x2 o1) (fun v2 => if (b2i v2) = 0 then (some ((0 : Int32), o0)) else (chk (inb x2 24) (bind2 (F_Reckoner_judge (g32 o1 5 (Int32.toNatClampNeg x2)) o0 o2 o3) (fun v6 o_7 => some (v6, o_7)))))
abbrev ws_Reckoner_whyBroken : List Cond := Cond.code y_Reckoner_whyBroken b_Reckoner_whyBroken 4 (some .int) :: wsAll
abbrev rm_Reckoner_whyBroken : Room := { frames := 5, cells := 0, slots := 0, locals := 144 }
set_option maxHeartbeats 4000000 in
set_option maxRecDepth 100000 in
theorem c_Reckoner_whyBroken (l : Launch) (ct dC : Nat → ClassId) (dI : Nat → Nat → Nat) (a0 a1 a2 a3 : Nat → Nat)  (sz : Nat) (x2 : Int32) (o0 o1 o2 o3 : Ob) (r : Int32) (n0 : Ob) (hF : F_Reckoner_whyBroken x2 o0 o1 o2 o3 = some (r, n0)) : Met l y_Reckoner_whyBroken ws_Reckoner_whyBroken rm_Reckoner_whyBroken (bw_Pc [.ref (a0 0), .ref (a1 0), .int x2, .ref (a3 0)] (dC, dI) vwCl (tyA ct) [wReckoner ct a0 o0, wText ct a1 (a2 0) o1, wSteps ct a2 o2, wCells ct a3 o3] sz nx) (bw_Q (dC, dI) vwCl (some (.int r)) [wReckoner ct a0 n0, wText ct a1 (a2 0) o1, wSteps ct a2 o2, wCells ct a3 o3] (bw_A [adReckoner a0, adText a1, adSteps a2, adCells a3] sz)) 0 0 (bw_A [adReckoner a0, adText a1, adSteps a2, adCells a3] sz) := by
  refine Met.ofW (cc := b_Reckoner_whyBroken) (maxL := 4) (ret := (some .int)) (by decide) rfl ?_
  intro p e s m args below meth c s₁ B hml hv
  obtain ⟨rfl, hsz, hP, hK, hN0, hnx⟩ := hv
  have hx := B.exec
  have hb := B.bytes
  have hr := B.returns
  have hts : ∀ w ∈ wsAll, w.before [.ref (a0 0), .ref (a1 0), .int x2, .ref (a3 0)].toArray s = true := fun w h9 => atoms_spec (ws := ws_Reckoner_whyBroken) B.pre w (List.mem_cons_of_mem _ h9)
  have hown : s.vm.findClass R_Reckoner = some m.cls := findClass_of_methodNamed B.named
  have hlocks := B.notSynchronized
  subst hsz
  have hN : bw_N (bw_A [adReckoner a0, adText a1, adSteps a2, adCells a3] s.heap.size) [adReckoner a0, adText a1, adSteps a2, adCells a3] := hN0.self s.heap.size
  generalize hAe : bw_A [adReckoner a0, adText a1, adSteps a2, adCells a3] s.heap.size = A at hN ⊢
  have hA : ∀ q : Nat, s.heap.size ≤ q → A q := fun q h => by rw [← hAe]; exact Or.inr h
  have hS : va_S A s.heap s.heap [] := va_S.rf
  have hl := lv_entry ([.ref (a0 0), .ref (a1 0), .int x2, .ref (a3 0)]) (n := 4) (Nat.le_of_ble_eq_true rfl)
  rw [lg_entry_eq]
  generalize (lg_sl ([.ref (a0 0), .ref (a1 0), .int x2, .ref (a3 0)]) ++ List.replicate (4 - (lg_sl ([.ref (a0 0), .ref (a1 0), .int x2, .ref (a3 0)])).length) Slot.unset).toArray = ls at hl ⊢
  have hl : lv_has ls 4 [(0, .ref (a0 0)), (1, .ref (a1 0)), (2, .int x2), (3, .ref (a3 0))] := hl
  have C0 : cx wsAll vwCl nx p s m [.ref (a0 0), .ref (a1 0), .int x2, .ref (a3 0)].toArray meth c (dC, dI) (tyA ct) b_Reckoner_whyBroken 4 (some .int) R_Reckoner A [adReckoner a0, adText a1, adSteps a2, adCells a3] := ⟨hx, hb, hr, hml, hown, hlocks, hts, hK, hN, hA, hnx⟩
  have h := hF
  rw [F_Reckoner_whyBroken] at h
  refine lv_aload_n hx hb d_Reckoner_whyBroken_0 rfl (lv_at hl 1 rfl) ?_
  refine lv_iload_n hx hb d_Reckoner_whyBroken_1 rfl (lv_at hl 2 rfl) ?_
  obtain ⟨v2, hG1, h⟩ := bind1_some h
  refine bw_callR (va_runV (As := [.int x2]) (rest := []) ⟨hx, hb, hml, hown, hts⟩ (c_Text_isLimit l ct dC dI a1 (a2 0) _ x2 o1 v2 hG1) (cwV 1 hts g_Reckoner_94 rfl rfl rfl (by decide +kernel) ⟨Nat.le_of_ble_eq_true rfl, Nat.le_of_ble_eq_true rfl⟩) ⟨bw_blind nx_call, va_recv hK (hP 1 _ rfl) (ci := 2) (q0 := 0) rfl rfl, fun U hU hW => ⟨rfl, by rw [hU], by rw [hU]; exact hP.sub [1] rfl, va_K.moved hW.alike hK, (hN.sub [1] (by decide) rfl).weaken (fun _ _ => trivial), nx_warm hW hnx⟩⟩ rfl rfl hl.1 rfl (Nat.le_of_ble_eq_true rfl) d_Reckoner_whyBroken_2 ⟨Nat.le_of_ble_eq_true rfl, Nat.le_of_ble_eq_true rfl⟩) ?_
  refine lv_if_eq (tgt := 26) hx hb d_Reckoner_whyBroken_5 (by decide) (fun c3 => ?_) (fun c3 => ?_)
  · have h := ite_t c3 h
    refine lv_iconst (v := 0) hx hb d_Reckoner_whyBroken_26 (by decide) ?_
    obtain ⟨rfl, rfl⟩ := res2 h
    exact W.iret hx hb hr (fun t ht hW => ⟨rfl, by rw [ht]; exact hP, hS.F ht⟩) hS.2.2 d_Reckoner_whyBroken_27
  · have h := ite_f c3 h
    refine lv_aload_n hx hb d_Reckoner_whyBroken_8 rfl (lv_at hl 0 rfl) ?_
    refine lv_aload_n hx hb d_Reckoner_whyBroken_9 rfl (lv_at hl 1 rfl) ?_
    refine va_get (D := (dC, dI)) (ci := 2) (v := .ref (a2 0)) (C := R_Text) (T := T_Text) (N := 12) hx hb hts in_Text hown hK (hP 1 _ rfl) 0 rfl rfl 2 (by decide) (hts _ fl_Reckoner_71) (fun _ h9 => h9) rfl d_Reckoner_whyBroken_10 ?_
    refine lv_aload_n hx hb d_Reckoner_whyBroken_13 rfl (lv_at hl 1 rfl) ?_
    refine va_get (D := (dC, dI)) (ci := 2) (v := .ref (a1 3)) (C := R_Text) (T := T_Text) (N := 12) hx hb hts in_Text hown hK (hP 1 _ rfl) 0 rfl rfl 5 (by decide) (hts _ fl_Reckoner_65) (fun _ h9 => h9) rfl d_Reckoner_whyBroken_14 ?_
    refine lv_iload_n hx hb d_Reckoner_whyBroken_17 rfl (lv_at hl 2 rfl) ?_
    obtain ⟨hi4, h⟩ := chk_some h
    refine va_iald (f := g32 o1 5) hx hb hK (hP 1 _ rfl) 3 0 rfl rfl (inb_in hi4) d_Reckoner_whyBroken_18 ?_
    refine lv_aload_n hx hb d_Reckoner_whyBroken_19 rfl (lv_at hl 3 rfl) ?_
    obtain ⟨v6, o_7, hG5, h⟩ := bind2_some h
    refine bw_call (Lc := [wReckoner ct a0 o0, wSteps ct a2 o2, wCells ct a3 o3]) (Lc' := [wReckoner ct a0 o_7, wSteps ct a2 o2, wCells ct a3 o3]) (L' := [wReckoner ct a0 o_7, wText ct a1 (a2 0) o1, wSteps ct a2 o2, wCells ct a3 o3]) [0, 2, 3] (va_runV (As := [.ref (a2 0), .int (g32 o1 5 (Int32.toNatClampNeg x2)), .ref (a3 0)]) (rest := []) ⟨hx, hb, hml, hown, hts⟩ (c_Reckoner_judge l ct dC dI a0 a2 a3 _ (g32 o1 5 (Int32.toNatClampNeg x2)) o0 o2 o3 v6 o_7 hG5) (cwV 3 hts g_Reckoner_75 rfl rfl rfl (by decide +kernel) ⟨Nat.le_of_ble_eq_true rfl, Nat.le_of_ble_eq_true rfl⟩) ⟨bw_blind nx_call, va_recv hK (hP 0 _ rfl) (ci := 4) (q0 := 0) rfl rfl, fun U hU hW => ⟨rfl, by rw [hU], by rw [hU]; exact hP.sub [0, 2, 3] rfl, va_K.moved hW.alike hK, (hN.sub [0, 2, 3] (by decide) rfl).weaken (fun _ _ => trivial), nx_warm hW hnx⟩⟩ rfl rfl hl.1 rfl (Nat.le_of_ble_eq_true rfl) d_Reckoner_whyBroken_20 ⟨Nat.le_of_ble_eq_true rfl, Nat.le_of_ble_eq_true rfl⟩) hP hN hS hA rfl rfl rfl (fun H locs hP hS => ?_)
    refine lv_goto (tgt := 27) hx hb d_Reckoner_whyBroken_23 (by decide) ?_
    obtain ⟨rfl, rfl⟩ := res2 h
    exact W.iret hx hb hr (fun t ht hW => ⟨rfl, by rw [ht]; exact hP, hS.F ht⟩) hS.2.2 d_Reckoner_whyBroken_27
theorem g_Reckoner_90 : GoodIn wsAll (wsV R_Reckoner 90 R_Reckoner y_Reckoner_whyBroken ws_Reckoner_whyBroken) := gd_V ml_Reckoner_90 im_Reckoner_whyBroken se_Reckoner_whyBroken ini_Reckoner cd_Reckoner_whyBroken
def F_Reckoner_isAnyBroken_2 (o1 o2 o3 : Ob)  : Nat → Int32 → Ob → Option (Bool × Ob)
  | 0, _, _ => none
  | n + 1, x3, o0 =>
    if (g32 o1 3 0) ≤ x3 then (some (false, o0)) else (bind2 (F_Reckoner_whyBroken x3 o0 o1 o2 o3) (fun v3 o_4 => if v3 = 0 then (F_Reckoner_isAnyBroken_2 o1 o2 o3 n (x3 + (1 : Int32)) o_4) else (some (true, o_4))))
def F_Reckoner_isAnyBroken  (o0 o1 o2 o3 : Ob) : Option (Bool × Ob) :=
  F_Reckoner_isAnyBroken_2 o1 o2 o3 fuel (0 : Int32) o0
abbrev ws_Reckoner_isAnyBroken : List Cond := Cond.code y_Reckoner_isAnyBroken b_Reckoner_isAnyBroken 4 (some .boolean) :: wsAll
abbrev rm_Reckoner_isAnyBroken : Room := { frames := 6, cells := 0, slots := 0, locals := 167 }
set_option maxHeartbeats 4000000 in
set_option maxRecDepth 100000 in
theorem k_Reckoner_isAnyBroken_2 {p : Program} {l : Launch} {e : Env} {s : State} {m : MethodId} {args : Array Value} {below : List Frame} {meth : Method} {c : Code} {A : Nat → Prop} {ct dC : Nat → ClassId} {dI : Nat → Nat → Nat} {a0 a1 a2 a3 : Nat → Nat}  {r : Bool} {n0 : Ob} {o1 o2 o3 : Ob}  (C0 : cx wsAll vwCl nx p s m args meth c (dC, dI) (tyA ct) b_Reckoner_isAnyBroken 4 (some .boolean) R_Reckoner A [adReckoner a0, adText a1, adSteps a2, adCells a3])  : ∀ (n : Nat) (x3 : Int32) (o0 : Ob) (H : Heap) (locs : List Loc) (ls : Array Slot), bw_P (dC, dI) vwCl [wReckoner ct a0 o0, wText ct a1 (a2 0) o1, wSteps ct a2 o2, wCells ct a3 o3] H → va_S A s.heap H locs → lv_has ls 4 [(0, .ref (a0 0)), (1, .ref (a1 0)), (2, .ref (a3 0)), (3, .int x3)] → F_Reckoner_isAnyBroken_2 o1 o2 o3 n x3 o0 = some (r, n0) → W p l e (headSpec ws_Reckoner_isAnyBroken rm_Reckoner_isAnyBroken).room s m args below meth c H locs 0 0 (MQ below (bw_Q (dC, dI) vwCl (some (.int (b2i r))) [wReckoner ct a0 n0, wText ct a1 (a2 0) o1, wSteps ct a2 o2, wCells ct a3 o3] A) args s 0 0 A) (F0 m 2 ls []) := by
  obtain ⟨hx, hb, hr, hml, hown, hlocks, hts, hK, hN, hA, hnx⟩ := id C0
  intro n
  induction n with
  | zero =>
    intro x3 o0 H locs ls hP hS hl h
    cases h
  | succ n ih =>
    intro x3 o0 H locs ls hP hS hl h
    rw [F_Reckoner_isAnyBroken_2] at h
    refine lv_iload_n hx hb d_Reckoner_isAnyBroken_2 rfl (lv_at hl 3 rfl) ?_
    refine lv_aload_n hx hb d_Reckoner_isAnyBroken_3 rfl (lv_at hl 1 rfl) ?_
    refine va_get (D := (dC, dI)) (ci := 2) (v := .int (g32 o1 3 0)) (C := R_Text) (T := T_Text) (N := 12) hx hb hts in_Text hown hK (hP 1 _ rfl) 0 rfl rfl 3 (by decide) (hts _ fl_Reckoner_87) (fun _ h9 => h9) rfl d_Reckoner_isAnyBroken_4 ?_
    refine lv_icmp_ge (tgt := 28) hx hb d_Reckoner_isAnyBroken_7 (by decide) (fun c1 => ?_) (fun c1 => ?_)
    · have h := ite_t c1 h
      refine lv_iconst (v := 0) hx hb d_Reckoner_isAnyBroken_28 (by decide) ?_
      obtain ⟨rfl, rfl⟩ := res2 h
      exact W.zret hx hb hr rfl (fun t ht hW => ⟨rfl, by rw [ht]; exact hP, hS.F ht⟩) hS.2.2 d_Reckoner_isAnyBroken_29
    · have h := ite_f c1 h
      refine lv_aload_n hx hb d_Reckoner_isAnyBroken_10 rfl (lv_at hl 0 rfl) ?_
      refine lv_aload_n hx hb d_Reckoner_isAnyBroken_11 rfl (lv_at hl 1 rfl) ?_
      refine lv_iload_n hx hb d_Reckoner_isAnyBroken_12 rfl (lv_at hl 3 rfl) ?_
      refine lv_aload_n hx hb d_Reckoner_isAnyBroken_13 rfl (lv_at hl 2 rfl) ?_
      obtain ⟨v3, o_4, hG2, h⟩ := bind2_some h
      refine bw_call (Lc := [wReckoner ct a0 o0, wText ct a1 (a2 0) o1, wSteps ct a2 o2, wCells ct a3 o3]) (Lc' := [wReckoner ct a0 o_4, wText ct a1 (a2 0) o1, wSteps ct a2 o2, wCells ct a3 o3]) (L' := [wReckoner ct a0 o_4, wText ct a1 (a2 0) o1, wSteps ct a2 o2, wCells ct a3 o3]) [0, 1, 2, 3] (va_runV (As := [.ref (a1 0), .int x3, .ref (a3 0)]) (rest := []) ⟨hx, hb, hml, hown, hts⟩ (c_Reckoner_whyBroken l ct dC dI a0 a1 a2 a3 _ x3 o0 o1 o2 o3 v3 o_4 hG2) (cwV 3 hts g_Reckoner_90 rfl rfl rfl (by decide +kernel) ⟨Nat.le_of_ble_eq_true rfl, Nat.le_of_ble_eq_true rfl⟩) ⟨bw_blind nx_call, va_recv hK (hP 0 _ rfl) (ci := 4) (q0 := 0) rfl rfl, fun U hU hW => ⟨rfl, by rw [hU], by rw [hU]; exact hP.sub [0, 1, 2, 3] rfl, va_K.moved hW.alike hK, (hN.sub [0, 1, 2, 3] (by decide) rfl).weaken (fun _ _ => trivial), nx_warm hW hnx⟩⟩ rfl rfl hl.1 rfl (Nat.le_of_ble_eq_true rfl) d_Reckoner_isAnyBroken_14 ⟨Nat.le_of_ble_eq_true rfl, Nat.le_of_ble_eq_true rfl⟩) hP hN hS hA rfl rfl rfl (fun H locs hP hS => ?_)
      refine lv_if_eq (tgt := 22) hx hb d_Reckoner_isAnyBroken_17 (by decide) (fun c5 => ?_) (fun c5 => ?_)
      · have h := ite_t c5 h
        refine lv_iinc (v := (x3 + (1 : Int32))) (lv' := [(3, .int (x3 + (1 : Int32))), (0, .ref (a0 0)), (1, .ref (a1 0)), (2, .ref (a3 0))]) hx hb d_Reckoner_isAnyBroken_22 hl (k := 3) rfl rfl (by decide) rfl (fun ls hl => ?_)
        refine lv_goto (tgt := 2) hx hb d_Reckoner_isAnyBroken_25 (by decide) ?_
        exact ih (x3 + (1 : Int32)) o_4 _ _ _ hP hS (lv_sub hl [1, 2, 3, 0] rfl) h
      · have h := ite_f c5 h
        refine lv_iconst (v := 1) hx hb d_Reckoner_isAnyBroken_20 (by decide) ?_
        obtain ⟨rfl, rfl⟩ := res2 h
        exact W.zret hx hb hr rfl (fun t ht hW => ⟨rfl, by rw [ht]; exact hP, hS.F ht⟩) hS.2.2 d_Reckoner_isAnyBroken_21
set_option maxHeartbeats 4000000 in
set_option maxRecDepth 100000 in
theorem c_Reckoner_isAnyBroken (l : Launch) (ct dC : Nat → ClassId) (dI : Nat → Nat → Nat) (a0 a1 a2 a3 : Nat → Nat)  (sz : Nat)  (o0 o1 o2 o3 : Ob) (r : Bool) (n0 : Ob) (hF : F_Reckoner_isAnyBroken o0 o1 o2 o3 = some (r, n0)) : Met l y_Reckoner_isAnyBroken ws_Reckoner_isAnyBroken rm_Reckoner_isAnyBroken (bw_Pc [.ref (a0 0), .ref (a1 0), .ref (a3 0)] (dC, dI) vwCl (tyA ct) [wReckoner ct a0 o0, wText ct a1 (a2 0) o1, wSteps ct a2 o2, wCells ct a3 o3] sz nx) (bw_Q (dC, dI) vwCl (some (.int (b2i r))) [wReckoner ct a0 n0, wText ct a1 (a2 0) o1, wSteps ct a2 o2, wCells ct a3 o3] (bw_A [adReckoner a0, adText a1, adSteps a2, adCells a3] sz)) 0 0 (bw_A [adReckoner a0, adText a1, adSteps a2, adCells a3] sz) := by
  refine Met.ofW (cc := b_Reckoner_isAnyBroken) (maxL := 4) (ret := (some .boolean)) (by decide) rfl ?_
  intro p e s m args below meth c s₁ B hml hv
  obtain ⟨rfl, hsz, hP, hK, hN0, hnx⟩ := hv
  have hx := B.exec
  have hb := B.bytes
  have hr := B.returns
  have hts : ∀ w ∈ wsAll, w.before [.ref (a0 0), .ref (a1 0), .ref (a3 0)].toArray s = true := fun w h9 => atoms_spec (ws := ws_Reckoner_isAnyBroken) B.pre w (List.mem_cons_of_mem _ h9)
  have hown : s.vm.findClass R_Reckoner = some m.cls := findClass_of_methodNamed B.named
  have hlocks := B.notSynchronized
  subst hsz
  have hN : bw_N (bw_A [adReckoner a0, adText a1, adSteps a2, adCells a3] s.heap.size) [adReckoner a0, adText a1, adSteps a2, adCells a3] := hN0.self s.heap.size
  generalize hAe : bw_A [adReckoner a0, adText a1, adSteps a2, adCells a3] s.heap.size = A at hN ⊢
  have hA : ∀ q : Nat, s.heap.size ≤ q → A q := fun q h => by rw [← hAe]; exact Or.inr h
  have hS : va_S A s.heap s.heap [] := va_S.rf
  have hl := lv_entry ([.ref (a0 0), .ref (a1 0), .ref (a3 0)]) (n := 4) (Nat.le_of_ble_eq_true rfl)
  rw [lg_entry_eq]
  generalize (lg_sl ([.ref (a0 0), .ref (a1 0), .ref (a3 0)]) ++ List.replicate (4 - (lg_sl ([.ref (a0 0), .ref (a1 0), .ref (a3 0)])).length) Slot.unset).toArray = ls at hl ⊢
  have hl : lv_has ls 4 [(0, .ref (a0 0)), (1, .ref (a1 0)), (2, .ref (a3 0))] := hl
  have C0 : cx wsAll vwCl nx p s m [.ref (a0 0), .ref (a1 0), .ref (a3 0)].toArray meth c (dC, dI) (tyA ct) b_Reckoner_isAnyBroken 4 (some .boolean) R_Reckoner A [adReckoner a0, adText a1, adSteps a2, adCells a3] := ⟨hx, hb, hr, hml, hown, hlocks, hts, hK, hN, hA, hnx⟩
  have h := hF
  rw [F_Reckoner_isAnyBroken] at h
  refine lv_iconst (v := 0) hx hb d_Reckoner_isAnyBroken_0 (by decide) ?_
  refine lv_istore_n (lv' := [(3, .int (0 : Int32)), (0, .ref (a0 0)), (1, .ref (a1 0)), (2, .ref (a3 0))]) hx hb d_Reckoner_isAnyBroken_1 rfl hl (by decide) rfl (fun ls hl => ?_)
  exact k_Reckoner_isAnyBroken_2 C0 fuel (0 : Int32) o0 _ _ _ hP hS (lv_sub hl [1, 2, 3, 0] rfl) h
