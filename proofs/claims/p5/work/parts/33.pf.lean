/-! 33.pf -/
abbrev b_PF_demandRead : ByteArray := prog_1_method_19_code
def y_PF_demandRead : MethodName := ⟨R_PF, "demandRead", "()V"⟩
abbrev b_PF_demandNotNegative : ByteArray := prog_1_method_22_code
def y_PF_demandNotNegative : MethodName := ⟨R_PF, "demandNotNegative", "(I)V"⟩
abbrev b_PF_write : ByteArray := prog_1_method_4_code
def y_PF_write : MethodName := ⟨R_PF, "write", "(I)I"⟩
abbrev b_PF_demandIndex : ByteArray := prog_1_method_21_code
def y_PF_demandIndex : MethodName := ⟨R_PF, "demandIndex", "(II)V"⟩
abbrev b_PF_set : ByteArray := prog_1_method_5_code
def y_PF_set : MethodName := ⟨R_PF, "set", "(IJJ)Z"⟩
abbrev b_PF_run : ByteArray := prog_1_method_6_code
def y_PF_run : MethodName := ⟨R_PF, "run", "()I"⟩
abbrev b_PF_demandWorkedOut : ByteArray := prog_1_method_20_code
def y_PF_demandWorkedOut : MethodName := ⟨R_PF, "demandWorkedOut", "()V"⟩
abbrev b_PF_cellNumber : ByteArray := prog_1_method_24_code
def y_PF_cellNumber : MethodName := ⟨R_PF, "cellNumber", "(II)I"⟩
abbrev b_PF_state : ByteArray := prog_1_method_7_code
def y_PF_state : MethodName := ⟨R_PF, "state", "(II)I"⟩
abbrev b_PF_demandZeroOrOne : ByteArray := prog_1_method_23_code
def y_PF_demandZeroOrOne : MethodName := ⟨R_PF, "demandZeroOrOne", "(I)V"⟩
abbrev b_PF_size : ByteArray := prog_1_method_8_code
def y_PF_size : MethodName := ⟨R_PF, "size", "(III)J"⟩
abbrev b_PF_ring : ByteArray := prog_1_method_9_code
def y_PF_ring : MethodName := ⟨R_PF, "ring", "(I)I"⟩
abbrev b_PF_condition : ByteArray := prog_1_method_10_code
def y_PF_condition : MethodName := ⟨R_PF, "condition", "(II)I"⟩
abbrev b_PF_line : ByteArray := prog_1_method_11_code
def y_PF_line : MethodName := ⟨R_PF, "line", "(II)I"⟩
abbrev b_PF_needs : ByteArray := prog_1_method_12_code
def y_PF_needs : MethodName := ⟨R_PF, "needs", "(II)Z"⟩
abbrev b_PF_limit : ByteArray := prog_1_method_13_code
def y_PF_limit : MethodName := ⟨R_PF, "limit", "(II)I"⟩
abbrev b_PF_check : ByteArray := prog_1_method_14_code
def y_PF_check : MethodName := ⟨R_PF, "check", "(I)I"⟩
abbrev b_PF_same : ByteArray := prog_1_method_17_code
def y_PF_same : MethodName := ⟨R_PF, "same", "()Z"⟩
theorem fl_PF_23 : Cond.fieldLink "PartFormulas" 23 "PartFormulas" "wasRead" "Z" ∈ wsAll := wa_of 304 (by decide +kernel) (by decide +kernel)
theorem cl_PF_135 : Cond.classLink "PartFormulas" 135 "java/lang/IllegalStateException" ∈ wsAll := wa_of 606 (by decide +kernel) (by decide +kernel)
theorem ins_IllegalStateException : Cond.instantiable "java/lang/IllegalStateException" 6 ∈ wsAll := wa_of 607 (by decide +kernel) (by decide +kernel)
theorem ini_IllegalStateException : Cond.initialized "java/lang/IllegalStateException" ∈ wsAll := wa_of 90 (by decide +kernel) (by decide +kernel)
theorem cl_PF_93 : Cond.classLink "PartFormulas" 93 "java/lang/IllegalArgumentException" ∈ wsAll := wa_of 676 (by decide +kernel) (by decide +kernel)
theorem ins_IllegalArgumentException : Cond.instantiable "java/lang/IllegalArgumentException" 6 ∈ wsAll := wa_of 677 (by decide +kernel) (by decide +kernel)
theorem ini_IllegalArgumentException : Cond.initialized "java/lang/IllegalArgumentException" ∈ wsAll := wa_of 91 (by decide +kernel) (by decide +kernel)
theorem cd_PF_demandRead : Cond.code ⟨"PartFormulas", "demandRead", "()V"⟩ prog_1_method_19_code 1 (none : Option Jvm.ClassFile.FieldType) ∈ wsAll := wa_of 605 (by decide +kernel) (by decide +kernel)
theorem ml_PF_71 : Cond.methodLink "PartFormulas" 71 ⟨"PartFormulas", "demandRead", "()V"⟩ ∈ wsAll := wa_of 602 (by decide +kernel) (by decide +kernel)
theorem im_PF_demandRead : Cond.instanceMethod ⟨"PartFormulas", "demandRead", "()V"⟩ ∈ wsAll := wa_of 604 (by decide +kernel) (by decide +kernel)
theorem se_PF_demandRead : Cond.selects "PartFormulas" ⟨"PartFormulas", "demandRead", "()V"⟩ ⟨"PartFormulas", "demandRead", "()V"⟩ ∈ wsAll := wa_of 20 (by decide +kernel) (by decide +kernel)
theorem cd_PF_demandNotNegative : Cond.code ⟨"PartFormulas", "demandNotNegative", "(I)V"⟩ prog_1_method_22_code 1 (none : Option Jvm.ClassFile.FieldType) ∈ wsAll := wa_of 675 (by decide +kernel) (by decide +kernel)
theorem ml_PF_74 : Cond.methodLink "PartFormulas" 74 ⟨"PartFormulas", "demandNotNegative", "(I)V"⟩ ∈ wsAll := wa_of 673 (by decide +kernel) (by decide +kernel)
theorem st_PF_demandNotNegative : Cond.static ⟨"PartFormulas", "demandNotNegative", "(I)V"⟩ ∈ wsAll := wa_of 674 (by decide +kernel) (by decide +kernel)
theorem fl_PF_19 : Cond.fieldLink "PartFormulas" 19 "PartFormulas" "text" "LPartFormulas$Text;" ∈ wsAll := wa_of 303 (by decide +kernel) (by decide +kernel)
theorem fl_PF_78 : Cond.fieldLink "PartFormulas" 78 "PartFormulas$Text" "printedLength" "I" ∈ wsAll := wa_of 157 (by decide +kernel) (by decide +kernel)
theorem fl_PF_81 : Cond.fieldLink "PartFormulas" 81 "PartFormulas$Text" "printed" "[C" ∈ wsAll := wa_of 154 (by decide +kernel) (by decide +kernel)
theorem cl_PF_190 : Cond.classLink "PartFormulas" 190 "java/lang/IndexOutOfBoundsException" ∈ wsAll := wa_of 703 (by decide +kernel) (by decide +kernel)
theorem ins_IndexOutOfBoundsException : Cond.instantiable "java/lang/IndexOutOfBoundsException" 6 ∈ wsAll := wa_of 704 (by decide +kernel) (by decide +kernel)
theorem ini_IndexOutOfBoundsException : Cond.initialized "java/lang/IndexOutOfBoundsException" ∈ wsAll := wa_of 92 (by decide +kernel) (by decide +kernel)
theorem cd_PF_demandIndex : Cond.code ⟨"PartFormulas", "demandIndex", "(II)V"⟩ prog_1_method_21_code 2 (none : Option Jvm.ClassFile.FieldType) ∈ wsAll := wa_of 702 (by decide +kernel) (by decide +kernel)
theorem ml_PF_85 : Cond.methodLink "PartFormulas" 85 ⟨"PartFormulas", "demandIndex", "(II)V"⟩ ∈ wsAll := wa_of 700 (by decide +kernel) (by decide +kernel)
theorem st_PF_demandIndex : Cond.static ⟨"PartFormulas", "demandIndex", "(II)V"⟩ ∈ wsAll := wa_of 701 (by decide +kernel) (by decide +kernel)
theorem cn_PF_89 : Cond.constantLong "PartFormulas" 89 1000000000 ∈ wsAll := wa_of 719 (by decide +kernel) (by decide +kernel)
theorem cn_PF_91 : Cond.constantLong "PartFormulas" 91 (-1000000000) ∈ wsAll := wa_of 720 (by decide +kernel) (by decide +kernel)
theorem fl_PF_33 : Cond.fieldLink "PartFormulas" 33 "PartFormulas" "reckoner" "LPartFormulas$Reckoner;" ∈ wsAll := wa_of 306 (by decide +kernel) (by decide +kernel)
theorem cd_Reckoner_changeOption : Cond.code ⟨"PartFormulas$Reckoner", "changeOption", "(IJJ)Z"⟩ prog_4_method_2_code 13 (some .boolean) ∈ wsAll := wa_of 725 (by decide +kernel) (by decide +kernel)
theorem ml_PF_100 : Cond.methodLink "PartFormulas" 100 ⟨"PartFormulas$Reckoner", "changeOption", "(IJJ)Z"⟩ ∈ wsAll := wa_of 722 (by decide +kernel) (by decide +kernel)
theorem im_Reckoner_changeOption : Cond.instanceMethod ⟨"PartFormulas$Reckoner", "changeOption", "(IJJ)Z"⟩ ∈ wsAll := wa_of 723 (by decide +kernel) (by decide +kernel)
theorem se_Reckoner_changeOption : Cond.selects "PartFormulas$Reckoner" ⟨"PartFormulas$Reckoner", "changeOption", "(IJJ)Z"⟩ ⟨"PartFormulas$Reckoner", "changeOption", "(IJJ)Z"⟩ ∈ wsAll := wa_of 724 (by decide +kernel) (by decide +kernel)
theorem fl_PF_27 : Cond.fieldLink "PartFormulas" 27 "PartFormulas" "workedOut" "Z" ∈ wsAll := wa_of 305 (by decide +kernel) (by decide +kernel)
theorem fl_PF_40 : Cond.fieldLink "PartFormulas" 40 "PartFormulas" "cells" "LPartFormulas$Cells;" ∈ wsAll := wa_of 307 (by decide +kernel) (by decide +kernel)
theorem cd_Reckoner_workOutHanging : Cond.code ⟨"PartFormulas$Reckoner", "workOutHanging", "(LPartFormulas$Text;ILPartFormulas$Cells;)I"⟩ prog_4_method_4_code 7 (some .int) ∈ wsAll := wa_of 732 (by decide +kernel) (by decide +kernel)
theorem ml_PF_104 : Cond.methodLink "PartFormulas" 104 ⟨"PartFormulas$Reckoner", "workOutHanging", "(LPartFormulas$Text;ILPartFormulas$Cells;)I"⟩ ∈ wsAll := wa_of 729 (by decide +kernel) (by decide +kernel)
theorem im_Reckoner_workOutHanging : Cond.instanceMethod ⟨"PartFormulas$Reckoner", "workOutHanging", "(LPartFormulas$Text;ILPartFormulas$Cells;)I"⟩ ∈ wsAll := wa_of 730 (by decide +kernel) (by decide +kernel)
theorem se_Reckoner_workOutHanging : Cond.selects "PartFormulas$Reckoner" ⟨"PartFormulas$Reckoner", "workOutHanging", "(LPartFormulas$Text;ILPartFormulas$Cells;)I"⟩ ⟨"PartFormulas$Reckoner", "workOutHanging", "(LPartFormulas$Text;ILPartFormulas$Cells;)I"⟩ ∈ wsAll := wa_of 731 (by decide +kernel) (by decide +kernel)
theorem cd_Reckoner_workOutAll : Cond.code ⟨"PartFormulas$Reckoner", "workOutAll", "(LPartFormulas$Text;LPartFormulas$Cells;)V"⟩ prog_4_method_3_code 4 (none : Option Jvm.ClassFile.FieldType) ∈ wsAll := wa_of 792 (by decide +kernel) (by decide +kernel)
theorem ml_PF_108 : Cond.methodLink "PartFormulas" 108 ⟨"PartFormulas$Reckoner", "workOutAll", "(LPartFormulas$Text;LPartFormulas$Cells;)V"⟩ ∈ wsAll := wa_of 789 (by decide +kernel) (by decide +kernel)
theorem im_Reckoner_workOutAll : Cond.instanceMethod ⟨"PartFormulas$Reckoner", "workOutAll", "(LPartFormulas$Text;LPartFormulas$Cells;)V"⟩ ∈ wsAll := wa_of 790 (by decide +kernel) (by decide +kernel)
theorem se_Reckoner_workOutAll : Cond.selects "PartFormulas$Reckoner" ⟨"PartFormulas$Reckoner", "workOutAll", "(LPartFormulas$Text;LPartFormulas$Cells;)V"⟩ ⟨"PartFormulas$Reckoner", "workOutAll", "(LPartFormulas$Text;LPartFormulas$Cells;)V"⟩ ∈ wsAll := wa_of 791 (by decide +kernel) (by decide +kernel)
theorem fl_PF_112 : Cond.fieldLink "PartFormulas" 112 "PartFormulas$Text" "orderLength" "I" ∈ wsAll := wa_of 182 (by decide +kernel) (by decide +kernel)
theorem fl_PF_115 : Cond.fieldLink "PartFormulas" 115 "PartFormulas$Text" "statements" "I" ∈ wsAll := wa_of 165 (by decide +kernel) (by decide +kernel)
theorem fl_PF_118 : Cond.fieldLink "PartFormulas" 118 "PartFormulas$Text" "cellOf" "[I" ∈ wsAll := wa_of 168 (by decide +kernel) (by decide +kernel)
theorem fl_PF_122 : Cond.fieldLink "PartFormulas" 122 "PartFormulas$Cells" "state" "[I" ∈ wsAll := wa_of 282 (by decide +kernel) (by decide +kernel)
theorem cd_PF_demandWorkedOut : Cond.code ⟨"PartFormulas", "demandWorkedOut", "()V"⟩ prog_1_method_20_code 1 (none : Option Jvm.ClassFile.FieldType) ∈ wsAll := wa_of 804 (by decide +kernel) (by decide +kernel)
theorem ml_PF_125 : Cond.methodLink "PartFormulas" 125 ⟨"PartFormulas", "demandWorkedOut", "()V"⟩ ∈ wsAll := wa_of 801 (by decide +kernel) (by decide +kernel)
theorem im_PF_demandWorkedOut : Cond.instanceMethod ⟨"PartFormulas", "demandWorkedOut", "()V"⟩ ∈ wsAll := wa_of 803 (by decide +kernel) (by decide +kernel)
theorem se_PF_demandWorkedOut : Cond.selects "PartFormulas" ⟨"PartFormulas", "demandWorkedOut", "()V"⟩ ⟨"PartFormulas", "demandWorkedOut", "()V"⟩ ∈ wsAll := wa_of 30 (by decide +kernel) (by decide +kernel)
theorem cd_PF_cellNumber : Cond.code ⟨"PartFormulas", "cellNumber", "(II)I"⟩ prog_1_method_24_code 2 (some .int) ∈ wsAll := wa_of 808 (by decide +kernel) (by decide +kernel)
theorem ml_PF_128 : Cond.methodLink "PartFormulas" 128 ⟨"PartFormulas", "cellNumber", "(II)I"⟩ ∈ wsAll := wa_of 806 (by decide +kernel) (by decide +kernel)
theorem st_PF_cellNumber : Cond.static ⟨"PartFormulas", "cellNumber", "(II)I"⟩ ∈ wsAll := wa_of 807 (by decide +kernel) (by decide +kernel)
theorem cd_PF_demandZeroOrOne : Cond.code ⟨"PartFormulas", "demandZeroOrOne", "(I)V"⟩ prog_1_method_23_code 1 (none : Option Jvm.ClassFile.FieldType) ∈ wsAll := wa_of 818 (by decide +kernel) (by decide +kernel)
theorem ml_PF_132 : Cond.methodLink "PartFormulas" 132 ⟨"PartFormulas", "demandZeroOrOne", "(I)V"⟩ ∈ wsAll := wa_of 816 (by decide +kernel) (by decide +kernel)
theorem st_PF_demandZeroOrOne : Cond.static ⟨"PartFormulas", "demandZeroOrOne", "(I)V"⟩ ∈ wsAll := wa_of 817 (by decide +kernel) (by decide +kernel)
theorem fl_PF_144 : Cond.fieldLink "PartFormulas" 144 "PartFormulas$Cells" "below" "[J" ∈ wsAll := wa_of 288 (by decide +kernel) (by decide +kernel)
theorem fl_PF_140 : Cond.fieldLink "PartFormulas" 140 "PartFormulas$Cells" "above" "[J" ∈ wsAll := wa_of 285 (by decide +kernel) (by decide +kernel)
theorem ml_PF_147 : Cond.methodLink "PartFormulas" 147 ⟨"PartFormulas$Text", "isRing", "(I)Z"⟩ ∈ wsAll := wa_of 828 (by decide +kernel) (by decide +kernel)
theorem fl_PF_151 : Cond.fieldLink "PartFormulas" 151 "PartFormulas$Cells" "chosen" "[I" ∈ wsAll := wa_of 291 (by decide +kernel) (by decide +kernel)
theorem fl_PF_154 : Cond.fieldLink "PartFormulas" 154 "PartFormulas$Text" "definedBy" "[I" ∈ wsAll := wa_of 175 (by decide +kernel) (by decide +kernel)
theorem ml_PF_157 : Cond.methodLink "PartFormulas" 157 ⟨"PartFormulas$Text", "reaches", "(II)Z"⟩ ∈ wsAll := wa_of 850 (by decide +kernel) (by decide +kernel)
theorem ml_PF_161 : Cond.methodLink "PartFormulas" 161 ⟨"PartFormulas$Reckoner", "whyBroken", "(LPartFormulas$Text;ILPartFormulas$Cells;)I"⟩ ∈ wsAll := wa_of 858 (by decide +kernel) (by decide +kernel)
theorem fl_PF_166 : Cond.fieldLink "PartFormulas" 166 "PartFormulas$Reckoner" "optionAbove" "[J" ∈ wsAll := wa_of 255 (by decide +kernel) (by decide +kernel)
theorem fl_PF_169 : Cond.fieldLink "PartFormulas" 169 "PartFormulas$Reckoner" "optionBelow" "[J" ∈ wsAll := wa_of 257 (by decide +kernel) (by decide +kernel)
theorem fl_PF_44 : Cond.fieldLink "PartFormulas" 44 "PartFormulas" "trial" "LPartFormulas$Cells;" ∈ wsAll := wa_of 308 (by decide +kernel) (by decide +kernel)
theorem cd_Cells_copyFrom : Cond.code ⟨"PartFormulas$Cells", "copyFrom", "(LPartFormulas$Cells;)V"⟩ prog_2_method_4_code 2 (none : Option Jvm.ClassFile.FieldType) ∈ wsAll := wa_of 874 (by decide +kernel) (by decide +kernel)
theorem ml_PF_172 : Cond.methodLink "PartFormulas" 172 ⟨"PartFormulas$Cells", "copyFrom", "(LPartFormulas$Cells;)V"⟩ ∈ wsAll := wa_of 871 (by decide +kernel) (by decide +kernel)
theorem im_Cells_copyFrom : Cond.instanceMethod ⟨"PartFormulas$Cells", "copyFrom", "(LPartFormulas$Cells;)V"⟩ ∈ wsAll := wa_of 872 (by decide +kernel) (by decide +kernel)
theorem se_Cells_copyFrom : Cond.selects "PartFormulas$Cells" ⟨"PartFormulas$Cells", "copyFrom", "(LPartFormulas$Cells;)V"⟩ ⟨"PartFormulas$Cells", "copyFrom", "(LPartFormulas$Cells;)V"⟩ ∈ wsAll := wa_of 873 (by decide +kernel) (by decide +kernel)
theorem cd_Reckoner_isAnyBroken : Cond.code ⟨"PartFormulas$Reckoner", "isAnyBroken", "(LPartFormulas$Text;LPartFormulas$Cells;)Z"⟩ prog_4_method_6_code 4 (some .boolean) ∈ wsAll := wa_of 881 (by decide +kernel) (by decide +kernel)
theorem ml_PF_176 : Cond.methodLink "PartFormulas" 176 ⟨"PartFormulas$Reckoner", "isAnyBroken", "(LPartFormulas$Text;LPartFormulas$Cells;)Z"⟩ ∈ wsAll := wa_of 878 (by decide +kernel) (by decide +kernel)
theorem im_Reckoner_isAnyBroken : Cond.instanceMethod ⟨"PartFormulas$Reckoner", "isAnyBroken", "(LPartFormulas$Text;LPartFormulas$Cells;)Z"⟩ ∈ wsAll := wa_of 879 (by decide +kernel) (by decide +kernel)
theorem se_Reckoner_isAnyBroken : Cond.selects "PartFormulas$Reckoner" ⟨"PartFormulas$Reckoner", "isAnyBroken", "(LPartFormulas$Text;LPartFormulas$Cells;)Z"⟩ ⟨"PartFormulas$Reckoner", "isAnyBroken", "(LPartFormulas$Text;LPartFormulas$Cells;)Z"⟩ ∈ wsAll := wa_of 880 (by decide +kernel) (by decide +kernel)
theorem cd_Cells_isAsIn : Cond.code ⟨"PartFormulas$Cells", "isAsIn", "(LPartFormulas$Cells;I)Z"⟩ prog_2_method_5_code 3 (some .boolean) ∈ wsAll := wa_of 901 (by decide +kernel) (by decide +kernel)
theorem ml_PF_182 : Cond.methodLink "PartFormulas" 182 ⟨"PartFormulas$Cells", "isAsIn", "(LPartFormulas$Cells;I)Z"⟩ ∈ wsAll := wa_of 898 (by decide +kernel) (by decide +kernel)
theorem im_Cells_isAsIn : Cond.instanceMethod ⟨"PartFormulas$Cells", "isAsIn", "(LPartFormulas$Cells;I)Z"⟩ ∈ wsAll := wa_of 899 (by decide +kernel) (by decide +kernel)
theorem se_Cells_isAsIn : Cond.selects "PartFormulas$Cells" ⟨"PartFormulas$Cells", "isAsIn", "(LPartFormulas$Cells;I)Z"⟩ ⟨"PartFormulas$Cells", "isAsIn", "(LPartFormulas$Cells;I)Z"⟩ ∈ wsAll := wa_of 900 (by decide +kernel) (by decide +kernel)
theorem d_PF_cellNumber_0 : decode b_PF_cellNumber 0 = .ok (.iload_n 0, 1) := by decide +kernel
theorem d_PF_cellNumber_1 : decode b_PF_cellNumber 1 = .ok (.bipush 10, 2) := by decide +kernel
theorem d_PF_cellNumber_3 : decode b_PF_cellNumber 3 = .ok (.invokestatic 85, 3) := by decide +kernel
theorem d_PF_cellNumber_6 : decode b_PF_cellNumber 6 = .ok (.iload_n 1, 1) := by decide +kernel
theorem d_PF_cellNumber_7 : decode b_PF_cellNumber 7 = .ok (.bipush 6, 2) := by decide +kernel
theorem d_PF_cellNumber_9 : decode b_PF_cellNumber 9 = .ok (.invokestatic 85, 3) := by decide +kernel
theorem d_PF_cellNumber_12 : decode b_PF_cellNumber 12 = .ok (.bipush 6, 2) := by decide +kernel
theorem d_PF_cellNumber_14 : decode b_PF_cellNumber 14 = .ok (.iload_n 0, 1) := by decide +kernel
theorem d_PF_cellNumber_15 : decode b_PF_cellNumber 15 = .ok (.imul, 1) := by decide +kernel
theorem d_PF_cellNumber_16 : decode b_PF_cellNumber 16 = .ok (.iload_n 1, 1) := by decide +kernel
theorem d_PF_cellNumber_17 : decode b_PF_cellNumber 17 = .ok (.iadd, 1) := by decide +kernel
theorem d_PF_cellNumber_18 : decode b_PF_cellNumber 18 = .ok (.ireturn, 1) := by decide +kernel
theorem d_PF_check_0 : decode b_PF_check 0 = .ok (.aload_n 0, 1) := by decide +kernel
theorem d_PF_check_1 : decode b_PF_check 1 = .ok (.invokevirtual 125, 3) := by decide +kernel
theorem d_PF_check_4 : decode b_PF_check 4 = .ok (.iload_n 1, 1) := by decide +kernel
theorem d_PF_check_5 : decode b_PF_check 5 = .ok (.ifCond .lt 9, 3) := by decide +kernel
theorem d_PF_check_8 : decode b_PF_check 8 = .ok (.iload_n 1, 1) := by decide +kernel
theorem d_PF_check_9 : decode b_PF_check 9 = .ok (.bipush 50, 2) := by decide +kernel
theorem d_PF_check_11 : decode b_PF_check 11 = .ok (.if_icmp .le 13, 3) := by decide +kernel
theorem d_PF_check_14 : decode b_PF_check 14 = .ok (.new 93, 3) := by decide +kernel
theorem d_PF_check_17 : decode b_PF_check 17 = .ok (.dup, 1) := by decide +kernel
theorem d_PF_check_18 : decode b_PF_check 18 = .ok (.ldc 164, 2) := by decide +kernel
theorem d_PF_check_20 : decode b_PF_check 20 = .ok (.invokespecial 97, 3) := by decide +kernel
theorem d_PF_check_23 : decode b_PF_check 23 = .ok (.athrow, 1) := by decide +kernel
theorem d_PF_check_24 : decode b_PF_check 24 = .ok (.aload_n 0, 1) := by decide +kernel
theorem d_PF_check_25 : decode b_PF_check 25 = .ok (.getfield 33, 3) := by decide +kernel
theorem d_PF_check_28 : decode b_PF_check 28 = .ok (.getfield 166, 3) := by decide +kernel
theorem d_PF_check_31 : decode b_PF_check 31 = .ok (.iconst 0, 1) := by decide +kernel
theorem d_PF_check_32 : decode b_PF_check 32 = .ok (.laload, 1) := by decide +kernel
theorem d_PF_check_33 : decode b_PF_check 33 = .ok (.lstore_n 2, 1) := by decide +kernel
theorem d_PF_check_34 : decode b_PF_check 34 = .ok (.aload_n 0, 1) := by decide +kernel
theorem d_PF_check_35 : decode b_PF_check 35 = .ok (.getfield 33, 3) := by decide +kernel
theorem d_PF_check_38 : decode b_PF_check 38 = .ok (.getfield 169, 3) := by decide +kernel
theorem d_PF_check_41 : decode b_PF_check 41 = .ok (.iconst 0, 1) := by decide +kernel
theorem d_PF_check_42 : decode b_PF_check 42 = .ok (.laload, 1) := by decide +kernel
theorem d_PF_check_43 : decode b_PF_check 43 = .ok (.lstore 4, 2) := by decide +kernel
theorem d_PF_check_45 : decode b_PF_check 45 = .ok (.iconst (-1), 1) := by decide +kernel
theorem d_PF_check_46 : decode b_PF_check 46 = .ok (.istore 6, 2) := by decide +kernel
theorem d_PF_check_48 : decode b_PF_check 48 = .ok (.aload_n 0, 1) := by decide +kernel
theorem d_PF_check_49 : decode b_PF_check 49 = .ok (.getfield 44, 3) := by decide +kernel
theorem d_PF_check_52 : decode b_PF_check 52 = .ok (.aload_n 0, 1) := by decide +kernel
theorem d_PF_check_53 : decode b_PF_check 53 = .ok (.getfield 40, 3) := by decide +kernel
theorem d_PF_check_56 : decode b_PF_check 56 = .ok (.invokevirtual 172, 3) := by decide +kernel
theorem d_PF_check_59 : decode b_PF_check 59 = .ok (.iconst 0, 1) := by decide +kernel
theorem d_PF_check_60 : decode b_PF_check 60 = .ok (.istore 7, 2) := by decide +kernel
theorem d_PF_check_62 : decode b_PF_check 62 = .ok (.iload 7, 2) := by decide +kernel
theorem d_PF_check_64 : decode b_PF_check 64 = .ok (.iload_n 1, 1) := by decide +kernel
theorem d_PF_check_65 : decode b_PF_check 65 = .ok (.if_icmp .gt 87, 3) := by decide +kernel
theorem d_PF_check_68 : decode b_PF_check 68 = .ok (.iload 6, 2) := by decide +kernel
theorem d_PF_check_70 : decode b_PF_check 70 = .ok (.iconst (-1), 1) := by decide +kernel
theorem d_PF_check_71 : decode b_PF_check 71 = .ok (.if_icmp .ne 81, 3) := by decide +kernel
theorem d_PF_check_74 : decode b_PF_check 74 = .ok (.lload_n 2, 1) := by decide +kernel
theorem d_PF_check_75 : decode b_PF_check 75 = .ok (.iload 7, 2) := by decide +kernel
theorem d_PF_check_77 : decode b_PF_check 77 = .ok (.i2l, 1) := by decide +kernel
theorem d_PF_check_78 : decode b_PF_check 78 = .ok (.lload 4, 2) := by decide +kernel
theorem d_PF_check_80 : decode b_PF_check 80 = .ok (.lmul, 1) := by decide +kernel
theorem d_PF_check_81 : decode b_PF_check 81 = .ok (.ladd, 1) := by decide +kernel
theorem d_PF_check_82 : decode b_PF_check 82 = .ok (.lstore 8, 2) := by decide +kernel
theorem d_PF_check_84 : decode b_PF_check 84 = .ok (.lload 8, 2) := by decide +kernel
theorem d_PF_check_86 : decode b_PF_check 86 = .ok (.ldc2_w 89, 3) := by decide +kernel
theorem d_PF_check_89 : decode b_PF_check 89 = .ok (.lcmp, 1) := by decide +kernel
theorem d_PF_check_90 : decode b_PF_check 90 = .ok (.ifCond .le 6, 3) := by decide +kernel
theorem d_PF_check_93 : decode b_PF_check 93 = .ok (.goto 59, 3) := by decide +kernel
theorem d_PF_check_96 : decode b_PF_check 96 = .ok (.aload_n 0, 1) := by decide +kernel
theorem d_PF_check_97 : decode b_PF_check 97 = .ok (.getfield 33, 3) := by decide +kernel
theorem d_PF_check_100 : decode b_PF_check 100 = .ok (.getfield 166, 3) := by decide +kernel
theorem d_PF_check_103 : decode b_PF_check 103 = .ok (.iconst 0, 1) := by decide +kernel
theorem d_PF_check_104 : decode b_PF_check 104 = .ok (.lload 8, 2) := by decide +kernel
theorem d_PF_check_106 : decode b_PF_check 106 = .ok (.lastore, 1) := by decide +kernel
theorem d_PF_check_107 : decode b_PF_check 107 = .ok (.aload_n 0, 1) := by decide +kernel
theorem d_PF_check_108 : decode b_PF_check 108 = .ok (.getfield 33, 3) := by decide +kernel
theorem d_PF_check_111 : decode b_PF_check 111 = .ok (.aload_n 0, 1) := by decide +kernel
theorem d_PF_check_112 : decode b_PF_check 112 = .ok (.getfield 19, 3) := by decide +kernel
theorem d_PF_check_115 : decode b_PF_check 115 = .ok (.iconst 0, 1) := by decide +kernel
theorem d_PF_check_116 : decode b_PF_check 116 = .ok (.aload_n 0, 1) := by decide +kernel
theorem d_PF_check_117 : decode b_PF_check 117 = .ok (.getfield 44, 3) := by decide +kernel
theorem d_PF_check_120 : decode b_PF_check 120 = .ok (.invokevirtual 104, 3) := by decide +kernel
theorem d_PF_check_123 : decode b_PF_check 123 = .ok (.pop, 1) := by decide +kernel
theorem d_PF_check_124 : decode b_PF_check 124 = .ok (.aload_n 0, 1) := by decide +kernel
theorem d_PF_check_125 : decode b_PF_check 125 = .ok (.getfield 33, 3) := by decide +kernel
theorem d_PF_check_128 : decode b_PF_check 128 = .ok (.aload_n 0, 1) := by decide +kernel
theorem d_PF_check_129 : decode b_PF_check 129 = .ok (.getfield 19, 3) := by decide +kernel
theorem d_PF_check_132 : decode b_PF_check 132 = .ok (.aload_n 0, 1) := by decide +kernel
theorem d_PF_check_133 : decode b_PF_check 133 = .ok (.getfield 44, 3) := by decide +kernel
theorem d_PF_check_136 : decode b_PF_check 136 = .ok (.invokevirtual 176, 3) := by decide +kernel
theorem d_PF_check_139 : decode b_PF_check 139 = .ok (.ifCond .eq 7, 3) := by decide +kernel
theorem d_PF_check_142 : decode b_PF_check 142 = .ok (.iload 7, 2) := by decide +kernel
theorem d_PF_check_144 : decode b_PF_check 144 = .ok (.istore 6, 2) := by decide +kernel
theorem d_PF_check_146 : decode b_PF_check 146 = .ok (.iinc 7 1, 3) := by decide +kernel
theorem d_PF_check_149 : decode b_PF_check 149 = .ok (.goto (-87), 3) := by decide +kernel
theorem d_PF_check_152 : decode b_PF_check 152 = .ok (.aload_n 0, 1) := by decide +kernel
theorem d_PF_check_153 : decode b_PF_check 153 = .ok (.getfield 33, 3) := by decide +kernel
theorem d_PF_check_156 : decode b_PF_check 156 = .ok (.getfield 166, 3) := by decide +kernel
theorem d_PF_check_159 : decode b_PF_check 159 = .ok (.iconst 0, 1) := by decide +kernel
theorem d_PF_check_160 : decode b_PF_check 160 = .ok (.lload_n 2, 1) := by decide +kernel
theorem d_PF_check_161 : decode b_PF_check 161 = .ok (.lastore, 1) := by decide +kernel
theorem d_PF_check_162 : decode b_PF_check 162 = .ok (.iload 6, 2) := by decide +kernel
theorem d_PF_check_164 : decode b_PF_check 164 = .ok (.ireturn, 1) := by decide +kernel
theorem d_PF_condition_0 : decode b_PF_condition 0 = .ok (.aload_n 0, 1) := by decide +kernel
theorem d_PF_condition_1 : decode b_PF_condition 1 = .ok (.invokevirtual 125, 3) := by decide +kernel
theorem d_PF_condition_4 : decode b_PF_condition 4 = .ok (.aload_n 0, 1) := by decide +kernel
theorem d_PF_condition_5 : decode b_PF_condition 5 = .ok (.getfield 40, 3) := by decide +kernel
theorem d_PF_condition_8 : decode b_PF_condition 8 = .ok (.getfield 151, 3) := by decide +kernel
theorem d_PF_condition_11 : decode b_PF_condition 11 = .ok (.iload_n 1, 1) := by decide +kernel
theorem d_PF_condition_12 : decode b_PF_condition 12 = .ok (.iload_n 2, 1) := by decide +kernel
theorem d_PF_condition_13 : decode b_PF_condition 13 = .ok (.invokestatic 128, 3) := by decide +kernel
theorem d_PF_condition_16 : decode b_PF_condition 16 = .ok (.iaload, 1) := by decide +kernel
theorem d_PF_condition_17 : decode b_PF_condition 17 = .ok (.ireturn, 1) := by decide +kernel
theorem d_PF_demandIndex_0 : decode b_PF_demandIndex 0 = .ok (.iload_n 0, 1) := by decide +kernel
theorem d_PF_demandIndex_1 : decode b_PF_demandIndex 1 = .ok (.ifCond .lt 8, 3) := by decide +kernel
theorem d_PF_demandIndex_4 : decode b_PF_demandIndex 4 = .ok (.iload_n 0, 1) := by decide +kernel
theorem d_PF_demandIndex_5 : decode b_PF_demandIndex 5 = .ok (.iload_n 1, 1) := by decide +kernel
theorem d_PF_demandIndex_6 : decode b_PF_demandIndex 6 = .ok (.if_icmp .lt 13, 3) := by decide +kernel
theorem d_PF_demandIndex_9 : decode b_PF_demandIndex 9 = .ok (.new 190, 3) := by decide +kernel
theorem d_PF_demandIndex_12 : decode b_PF_demandIndex 12 = .ok (.dup, 1) := by decide +kernel
theorem d_PF_demandIndex_13 : decode b_PF_demandIndex 13 = .ok (.ldc 192, 2) := by decide +kernel
theorem d_PF_demandIndex_15 : decode b_PF_demandIndex 15 = .ok (.invokespecial 194, 3) := by decide +kernel
theorem d_PF_demandIndex_18 : decode b_PF_demandIndex 18 = .ok (.athrow, 1) := by decide +kernel
theorem d_PF_demandIndex_19 : decode b_PF_demandIndex 19 = .ok (.return_, 1) := by decide +kernel
theorem d_PF_demandNotNegative_0 : decode b_PF_demandNotNegative 0 = .ok (.iload_n 0, 1) := by decide +kernel
theorem d_PF_demandNotNegative_1 : decode b_PF_demandNotNegative 1 = .ok (.ifCond .ge 13, 3) := by decide +kernel
theorem d_PF_demandNotNegative_4 : decode b_PF_demandNotNegative 4 = .ok (.new 93, 3) := by decide +kernel
theorem d_PF_demandNotNegative_7 : decode b_PF_demandNotNegative 7 = .ok (.dup, 1) := by decide +kernel
theorem d_PF_demandNotNegative_8 : decode b_PF_demandNotNegative 8 = .ok (.ldc 195, 2) := by decide +kernel
theorem d_PF_demandNotNegative_10 : decode b_PF_demandNotNegative 10 = .ok (.invokespecial 97, 3) := by decide +kernel
theorem d_PF_demandNotNegative_13 : decode b_PF_demandNotNegative 13 = .ok (.athrow, 1) := by decide +kernel
theorem d_PF_demandNotNegative_14 : decode b_PF_demandNotNegative 14 = .ok (.return_, 1) := by decide +kernel
theorem d_PF_demandRead_0 : decode b_PF_demandRead 0 = .ok (.aload_n 0, 1) := by decide +kernel
theorem d_PF_demandRead_1 : decode b_PF_demandRead 1 = .ok (.getfield 23, 3) := by decide +kernel
theorem d_PF_demandRead_4 : decode b_PF_demandRead 4 = .ok (.ifCond .ne 13, 3) := by decide +kernel
theorem d_PF_demandRead_7 : decode b_PF_demandRead 7 = .ok (.new 135, 3) := by decide +kernel
theorem d_PF_demandRead_10 : decode b_PF_demandRead 10 = .ok (.dup, 1) := by decide +kernel
theorem d_PF_demandRead_11 : decode b_PF_demandRead 11 = .ok (.ldc 186, 2) := by decide +kernel
theorem d_PF_demandRead_13 : decode b_PF_demandRead 13 = .ok (.invokespecial 139, 3) := by decide +kernel
theorem d_PF_demandRead_16 : decode b_PF_demandRead 16 = .ok (.athrow, 1) := by decide +kernel
theorem d_PF_demandRead_17 : decode b_PF_demandRead 17 = .ok (.return_, 1) := by decide +kernel
theorem d_PF_demandWorkedOut_0 : decode b_PF_demandWorkedOut 0 = .ok (.aload_n 0, 1) := by decide +kernel
theorem d_PF_demandWorkedOut_1 : decode b_PF_demandWorkedOut 1 = .ok (.getfield 27, 3) := by decide +kernel
theorem d_PF_demandWorkedOut_4 : decode b_PF_demandWorkedOut 4 = .ok (.ifCond .ne 13, 3) := by decide +kernel
theorem d_PF_demandWorkedOut_7 : decode b_PF_demandWorkedOut 7 = .ok (.new 135, 3) := by decide +kernel
theorem d_PF_demandWorkedOut_10 : decode b_PF_demandWorkedOut 10 = .ok (.dup, 1) := by decide +kernel
theorem d_PF_demandWorkedOut_11 : decode b_PF_demandWorkedOut 11 = .ok (.ldc 188, 2) := by decide +kernel
theorem d_PF_demandWorkedOut_13 : decode b_PF_demandWorkedOut 13 = .ok (.invokespecial 139, 3) := by decide +kernel
theorem d_PF_demandWorkedOut_16 : decode b_PF_demandWorkedOut 16 = .ok (.athrow, 1) := by decide +kernel
theorem d_PF_demandWorkedOut_17 : decode b_PF_demandWorkedOut 17 = .ok (.return_, 1) := by decide +kernel
theorem d_PF_demandZeroOrOne_0 : decode b_PF_demandZeroOrOne 0 = .ok (.iload_n 0, 1) := by decide +kernel
theorem d_PF_demandZeroOrOne_1 : decode b_PF_demandZeroOrOne 1 = .ok (.ifCond .eq 18, 3) := by decide +kernel
theorem d_PF_demandZeroOrOne_4 : decode b_PF_demandZeroOrOne 4 = .ok (.iload_n 0, 1) := by decide +kernel
theorem d_PF_demandZeroOrOne_5 : decode b_PF_demandZeroOrOne 5 = .ok (.iconst 1, 1) := by decide +kernel
theorem d_PF_demandZeroOrOne_6 : decode b_PF_demandZeroOrOne 6 = .ok (.if_icmp .eq 13, 3) := by decide +kernel
theorem d_PF_demandZeroOrOne_9 : decode b_PF_demandZeroOrOne 9 = .ok (.new 93, 3) := by decide +kernel
theorem d_PF_demandZeroOrOne_12 : decode b_PF_demandZeroOrOne 12 = .ok (.dup, 1) := by decide +kernel
theorem d_PF_demandZeroOrOne_13 : decode b_PF_demandZeroOrOne 13 = .ok (.ldc 197, 2) := by decide +kernel
theorem d_PF_demandZeroOrOne_15 : decode b_PF_demandZeroOrOne 15 = .ok (.invokespecial 97, 3) := by decide +kernel
theorem d_PF_demandZeroOrOne_18 : decode b_PF_demandZeroOrOne 18 = .ok (.athrow, 1) := by decide +kernel
theorem d_PF_demandZeroOrOne_19 : decode b_PF_demandZeroOrOne 19 = .ok (.return_, 1) := by decide +kernel
theorem d_PF_limit_0 : decode b_PF_limit 0 = .ok (.aload_n 0, 1) := by decide +kernel
theorem d_PF_limit_1 : decode b_PF_limit 1 = .ok (.invokevirtual 125, 3) := by decide +kernel
theorem d_PF_limit_4 : decode b_PF_limit 4 = .ok (.iload_n 1, 1) := by decide +kernel
theorem d_PF_limit_5 : decode b_PF_limit 5 = .ok (.invokestatic 74, 3) := by decide +kernel
theorem d_PF_limit_8 : decode b_PF_limit 8 = .ok (.iload_n 2, 1) := by decide +kernel
theorem d_PF_limit_9 : decode b_PF_limit 9 = .ok (.invokestatic 132, 3) := by decide +kernel
theorem d_PF_limit_12 : decode b_PF_limit 12 = .ok (.iconst 0, 1) := by decide +kernel
theorem d_PF_limit_13 : decode b_PF_limit 13 = .ok (.istore_n 3, 1) := by decide +kernel
theorem d_PF_limit_14 : decode b_PF_limit 14 = .ok (.iconst 0, 1) := by decide +kernel
theorem d_PF_limit_15 : decode b_PF_limit 15 = .ok (.istore 4, 2) := by decide +kernel
theorem d_PF_limit_17 : decode b_PF_limit 17 = .ok (.iload 4, 2) := by decide +kernel
theorem d_PF_limit_19 : decode b_PF_limit 19 = .ok (.aload_n 0, 1) := by decide +kernel
theorem d_PF_limit_20 : decode b_PF_limit 20 = .ok (.getfield 19, 3) := by decide +kernel
theorem d_PF_limit_23 : decode b_PF_limit 23 = .ok (.getfield 115, 3) := by decide +kernel
theorem d_PF_limit_26 : decode b_PF_limit 26 = .ok (.if_icmp .ge 53, 3) := by decide +kernel
theorem d_PF_limit_29 : decode b_PF_limit 29 = .ok (.aload_n 0, 1) := by decide +kernel
theorem d_PF_limit_30 : decode b_PF_limit 30 = .ok (.getfield 33, 3) := by decide +kernel
theorem d_PF_limit_33 : decode b_PF_limit 33 = .ok (.aload_n 0, 1) := by decide +kernel
theorem d_PF_limit_34 : decode b_PF_limit 34 = .ok (.getfield 19, 3) := by decide +kernel
theorem d_PF_limit_37 : decode b_PF_limit 37 = .ok (.iload 4, 2) := by decide +kernel
theorem d_PF_limit_39 : decode b_PF_limit 39 = .ok (.aload_n 0, 1) := by decide +kernel
theorem d_PF_limit_40 : decode b_PF_limit 40 = .ok (.getfield 40, 3) := by decide +kernel
theorem d_PF_limit_43 : decode b_PF_limit 43 = .ok (.invokevirtual 161, 3) := by decide +kernel
theorem d_PF_limit_46 : decode b_PF_limit 46 = .ok (.istore 5, 2) := by decide +kernel
theorem d_PF_limit_48 : decode b_PF_limit 48 = .ok (.iload 5, 2) := by decide +kernel
theorem d_PF_limit_50 : decode b_PF_limit 50 = .ok (.ifCond .eq 23, 3) := by decide +kernel
theorem d_PF_limit_53 : decode b_PF_limit 53 = .ok (.iload_n 3, 1) := by decide +kernel
theorem d_PF_limit_54 : decode b_PF_limit 54 = .ok (.iload_n 1, 1) := by decide +kernel
theorem d_PF_limit_55 : decode b_PF_limit 55 = .ok (.if_icmp .ne 15, 3) := by decide +kernel
theorem d_PF_limit_58 : decode b_PF_limit 58 = .ok (.iload_n 2, 1) := by decide +kernel
theorem d_PF_limit_59 : decode b_PF_limit 59 = .ok (.ifCond .ne 8, 3) := by decide +kernel
theorem d_PF_limit_62 : decode b_PF_limit 62 = .ok (.iload 4, 2) := by decide +kernel
theorem d_PF_limit_64 : decode b_PF_limit 64 = .ok (.goto 5, 3) := by decide +kernel
theorem d_PF_limit_67 : decode b_PF_limit 67 = .ok (.iload 5, 2) := by decide +kernel
theorem d_PF_limit_69 : decode b_PF_limit 69 = .ok (.ireturn, 1) := by decide +kernel
theorem d_PF_limit_70 : decode b_PF_limit 70 = .ok (.iinc 3 1, 3) := by decide +kernel
theorem d_PF_limit_73 : decode b_PF_limit 73 = .ok (.iinc 4 1, 3) := by decide +kernel
theorem d_PF_limit_76 : decode b_PF_limit 76 = .ok (.goto (-59), 3) := by decide +kernel
theorem d_PF_limit_79 : decode b_PF_limit 79 = .ok (.iconst (-1), 1) := by decide +kernel
theorem d_PF_limit_80 : decode b_PF_limit 80 = .ok (.ireturn, 1) := by decide +kernel
theorem d_PF_line_0 : decode b_PF_line 0 = .ok (.aload_n 0, 1) := by decide +kernel
theorem d_PF_line_1 : decode b_PF_line 1 = .ok (.invokevirtual 71, 3) := by decide +kernel
theorem d_PF_line_4 : decode b_PF_line 4 = .ok (.aload_n 0, 1) := by decide +kernel
theorem d_PF_line_5 : decode b_PF_line 5 = .ok (.getfield 19, 3) := by decide +kernel
theorem d_PF_line_8 : decode b_PF_line 8 = .ok (.getfield 154, 3) := by decide +kernel
theorem d_PF_line_11 : decode b_PF_line 11 = .ok (.iload_n 1, 1) := by decide +kernel
theorem d_PF_line_12 : decode b_PF_line 12 = .ok (.iload_n 2, 1) := by decide +kernel
theorem d_PF_line_13 : decode b_PF_line 13 = .ok (.invokestatic 128, 3) := by decide +kernel
theorem d_PF_line_16 : decode b_PF_line 16 = .ok (.iaload, 1) := by decide +kernel
theorem d_PF_line_17 : decode b_PF_line 17 = .ok (.ireturn, 1) := by decide +kernel
theorem d_PF_needs_0 : decode b_PF_needs 0 = .ok (.aload_n 0, 1) := by decide +kernel
theorem d_PF_needs_1 : decode b_PF_needs 1 = .ok (.invokevirtual 71, 3) := by decide +kernel
theorem d_PF_needs_4 : decode b_PF_needs 4 = .ok (.iload_n 1, 1) := by decide +kernel
theorem d_PF_needs_5 : decode b_PF_needs 5 = .ok (.bipush 60, 2) := by decide +kernel
theorem d_PF_needs_7 : decode b_PF_needs 7 = .ok (.invokestatic 85, 3) := by decide +kernel
theorem d_PF_needs_10 : decode b_PF_needs 10 = .ok (.iload_n 2, 1) := by decide +kernel
theorem d_PF_needs_11 : decode b_PF_needs 11 = .ok (.bipush 60, 2) := by decide +kernel
theorem d_PF_needs_13 : decode b_PF_needs 13 = .ok (.invokestatic 85, 3) := by decide +kernel
theorem d_PF_needs_16 : decode b_PF_needs 16 = .ok (.aload_n 0, 1) := by decide +kernel
theorem d_PF_needs_17 : decode b_PF_needs 17 = .ok (.getfield 19, 3) := by decide +kernel
theorem d_PF_needs_20 : decode b_PF_needs 20 = .ok (.iload_n 1, 1) := by decide +kernel
theorem d_PF_needs_21 : decode b_PF_needs 21 = .ok (.iload_n 2, 1) := by decide +kernel
theorem d_PF_needs_22 : decode b_PF_needs 22 = .ok (.invokevirtual 157, 3) := by decide +kernel
theorem d_PF_needs_25 : decode b_PF_needs 25 = .ok (.ireturn, 1) := by decide +kernel
theorem d_PF_ring_0 : decode b_PF_ring 0 = .ok (.aload_n 0, 1) := by decide +kernel
theorem d_PF_ring_1 : decode b_PF_ring 1 = .ok (.invokevirtual 71, 3) := by decide +kernel
theorem d_PF_ring_4 : decode b_PF_ring 4 = .ok (.iload_n 1, 1) := by decide +kernel
theorem d_PF_ring_5 : decode b_PF_ring 5 = .ok (.invokestatic 74, 3) := by decide +kernel
theorem d_PF_ring_8 : decode b_PF_ring 8 = .ok (.iconst 0, 1) := by decide +kernel
theorem d_PF_ring_9 : decode b_PF_ring 9 = .ok (.istore_n 2, 1) := by decide +kernel
theorem d_PF_ring_10 : decode b_PF_ring 10 = .ok (.iconst 0, 1) := by decide +kernel
theorem d_PF_ring_11 : decode b_PF_ring 11 = .ok (.istore_n 3, 1) := by decide +kernel
theorem d_PF_ring_12 : decode b_PF_ring 12 = .ok (.iload_n 3, 1) := by decide +kernel
theorem d_PF_ring_13 : decode b_PF_ring 13 = .ok (.bipush 60, 2) := by decide +kernel
theorem d_PF_ring_15 : decode b_PF_ring 15 = .ok (.if_icmp .ge 30, 3) := by decide +kernel
theorem d_PF_ring_18 : decode b_PF_ring 18 = .ok (.aload_n 0, 1) := by decide +kernel
theorem d_PF_ring_19 : decode b_PF_ring 19 = .ok (.getfield 19, 3) := by decide +kernel
theorem d_PF_ring_22 : decode b_PF_ring 22 = .ok (.iload_n 3, 1) := by decide +kernel
theorem d_PF_ring_23 : decode b_PF_ring 23 = .ok (.invokevirtual 147, 3) := by decide +kernel
theorem d_PF_ring_26 : decode b_PF_ring 26 = .ok (.ifCond .eq 13, 3) := by decide +kernel
theorem d_PF_ring_29 : decode b_PF_ring 29 = .ok (.iload_n 2, 1) := by decide +kernel
theorem d_PF_ring_30 : decode b_PF_ring 30 = .ok (.iload_n 1, 1) := by decide +kernel
theorem d_PF_ring_31 : decode b_PF_ring 31 = .ok (.if_icmp .ne 5, 3) := by decide +kernel
theorem d_PF_ring_34 : decode b_PF_ring 34 = .ok (.iload_n 3, 1) := by decide +kernel
theorem d_PF_ring_35 : decode b_PF_ring 35 = .ok (.ireturn, 1) := by decide +kernel
theorem d_PF_ring_36 : decode b_PF_ring 36 = .ok (.iinc 2 1, 3) := by decide +kernel
theorem d_PF_ring_39 : decode b_PF_ring 39 = .ok (.iinc 3 1, 3) := by decide +kernel
theorem d_PF_ring_42 : decode b_PF_ring 42 = .ok (.goto (-30), 3) := by decide +kernel
theorem d_PF_ring_45 : decode b_PF_ring 45 = .ok (.iconst (-1), 1) := by decide +kernel
theorem d_PF_ring_46 : decode b_PF_ring 46 = .ok (.ireturn, 1) := by decide +kernel
theorem d_PF_run_0 : decode b_PF_run 0 = .ok (.aload_n 0, 1) := by decide +kernel
theorem d_PF_run_1 : decode b_PF_run 1 = .ok (.invokevirtual 71, 3) := by decide +kernel
theorem d_PF_run_4 : decode b_PF_run 4 = .ok (.aload_n 0, 1) := by decide +kernel
theorem d_PF_run_5 : decode b_PF_run 5 = .ok (.getfield 33, 3) := by decide +kernel
theorem d_PF_run_8 : decode b_PF_run 8 = .ok (.aload_n 0, 1) := by decide +kernel
theorem d_PF_run_9 : decode b_PF_run 9 = .ok (.getfield 19, 3) := by decide +kernel
theorem d_PF_run_12 : decode b_PF_run 12 = .ok (.aload_n 0, 1) := by decide +kernel
theorem d_PF_run_13 : decode b_PF_run 13 = .ok (.getfield 40, 3) := by decide +kernel
theorem d_PF_run_16 : decode b_PF_run 16 = .ok (.invokevirtual 108, 3) := by decide +kernel
theorem d_PF_run_19 : decode b_PF_run 19 = .ok (.aload_n 0, 1) := by decide +kernel
theorem d_PF_run_20 : decode b_PF_run 20 = .ok (.iconst 1, 1) := by decide +kernel
theorem d_PF_run_21 : decode b_PF_run 21 = .ok (.putfield 27, 3) := by decide +kernel
theorem d_PF_run_24 : decode b_PF_run 24 = .ok (.aload_n 0, 1) := by decide +kernel
theorem d_PF_run_25 : decode b_PF_run 25 = .ok (.dup, 1) := by decide +kernel
theorem d_PF_run_26 : decode b_PF_run 26 = .ok (.getfield 55, 3) := by decide +kernel
theorem d_PF_run_29 : decode b_PF_run 29 = .ok (.aload_n 0, 1) := by decide +kernel
theorem d_PF_run_30 : decode b_PF_run 30 = .ok (.getfield 19, 3) := by decide +kernel
theorem d_PF_run_33 : decode b_PF_run 33 = .ok (.getfield 112, 3) := by decide +kernel
theorem d_PF_run_36 : decode b_PF_run 36 = .ok (.i2l, 1) := by decide +kernel
theorem d_PF_run_37 : decode b_PF_run 37 = .ok (.ladd, 1) := by decide +kernel
theorem d_PF_run_38 : decode b_PF_run 38 = .ok (.putfield 55, 3) := by decide +kernel
theorem d_PF_run_41 : decode b_PF_run 41 = .ok (.iconst 0, 1) := by decide +kernel
theorem d_PF_run_42 : decode b_PF_run 42 = .ok (.istore_n 1, 1) := by decide +kernel
theorem d_PF_run_43 : decode b_PF_run 43 = .ok (.iload_n 1, 1) := by decide +kernel
theorem d_PF_run_44 : decode b_PF_run 44 = .ok (.aload_n 0, 1) := by decide +kernel
theorem d_PF_run_45 : decode b_PF_run 45 = .ok (.getfield 19, 3) := by decide +kernel
theorem d_PF_run_48 : decode b_PF_run 48 = .ok (.getfield 115, 3) := by decide +kernel
theorem d_PF_run_51 : decode b_PF_run 51 = .ok (.if_icmp .ge 41, 3) := by decide +kernel
theorem d_PF_run_54 : decode b_PF_run 54 = .ok (.aload_n 0, 1) := by decide +kernel
theorem d_PF_run_55 : decode b_PF_run 55 = .ok (.getfield 19, 3) := by decide +kernel
theorem d_PF_run_58 : decode b_PF_run 58 = .ok (.getfield 118, 3) := by decide +kernel
theorem d_PF_run_61 : decode b_PF_run 61 = .ok (.iload_n 1, 1) := by decide +kernel
theorem d_PF_run_62 : decode b_PF_run 62 = .ok (.iaload, 1) := by decide +kernel
theorem d_PF_run_63 : decode b_PF_run 63 = .ok (.istore_n 2, 1) := by decide +kernel
theorem d_PF_run_64 : decode b_PF_run 64 = .ok (.iload_n 2, 1) := by decide +kernel
theorem d_PF_run_65 : decode b_PF_run 65 = .ok (.iconst (-1), 1) := by decide +kernel
theorem d_PF_run_66 : decode b_PF_run 66 = .ok (.if_icmp .eq 20, 3) := by decide +kernel
theorem d_PF_run_69 : decode b_PF_run 69 = .ok (.aload_n 0, 1) := by decide +kernel
theorem d_PF_run_70 : decode b_PF_run 70 = .ok (.getfield 40, 3) := by decide +kernel
theorem d_PF_run_73 : decode b_PF_run 73 = .ok (.getfield 122, 3) := by decide +kernel
theorem d_PF_run_76 : decode b_PF_run 76 = .ok (.iload_n 2, 1) := by decide +kernel
theorem d_PF_run_77 : decode b_PF_run 77 = .ok (.iaload, 1) := by decide +kernel
theorem d_PF_run_78 : decode b_PF_run 78 = .ok (.iconst 1, 1) := by decide +kernel
theorem d_PF_run_79 : decode b_PF_run 79 = .ok (.if_icmp .eq 7, 3) := by decide +kernel
theorem d_PF_run_82 : decode b_PF_run 82 = .ok (.iconst 1, 1) := by decide +kernel
theorem d_PF_run_83 : decode b_PF_run 83 = .ok (.iload_n 1, 1) := by decide +kernel
theorem d_PF_run_84 : decode b_PF_run 84 = .ok (.iadd, 1) := by decide +kernel
theorem d_PF_run_85 : decode b_PF_run 85 = .ok (.ireturn, 1) := by decide +kernel
theorem d_PF_run_86 : decode b_PF_run 86 = .ok (.iinc 1 1, 3) := by decide +kernel
theorem d_PF_run_89 : decode b_PF_run 89 = .ok (.goto (-46), 3) := by decide +kernel
theorem d_PF_run_92 : decode b_PF_run 92 = .ok (.iconst 0, 1) := by decide +kernel
theorem d_PF_run_93 : decode b_PF_run 93 = .ok (.ireturn, 1) := by decide +kernel
theorem d_PF_same_0 : decode b_PF_same 0 = .ok (.aload_n 0, 1) := by decide +kernel
theorem d_PF_same_1 : decode b_PF_same 1 = .ok (.invokevirtual 125, 3) := by decide +kernel
theorem d_PF_same_4 : decode b_PF_same 4 = .ok (.aload_n 0, 1) := by decide +kernel
theorem d_PF_same_5 : decode b_PF_same 5 = .ok (.getfield 33, 3) := by decide +kernel
theorem d_PF_same_8 : decode b_PF_same 8 = .ok (.aload_n 0, 1) := by decide +kernel
theorem d_PF_same_9 : decode b_PF_same 9 = .ok (.getfield 19, 3) := by decide +kernel
theorem d_PF_same_12 : decode b_PF_same 12 = .ok (.aload_n 0, 1) := by decide +kernel
theorem d_PF_same_13 : decode b_PF_same 13 = .ok (.getfield 44, 3) := by decide +kernel
theorem d_PF_same_16 : decode b_PF_same 16 = .ok (.invokevirtual 108, 3) := by decide +kernel
theorem d_PF_same_19 : decode b_PF_same 19 = .ok (.iconst 0, 1) := by decide +kernel
theorem d_PF_same_20 : decode b_PF_same 20 = .ok (.istore_n 1, 1) := by decide +kernel
theorem d_PF_same_21 : decode b_PF_same 21 = .ok (.iload_n 1, 1) := by decide +kernel
theorem d_PF_same_22 : decode b_PF_same 22 = .ok (.bipush 60, 2) := by decide +kernel
theorem d_PF_same_24 : decode b_PF_same 24 = .ok (.if_icmp .ge 47, 3) := by decide +kernel
theorem d_PF_same_27 : decode b_PF_same 27 = .ok (.aload_n 0, 1) := by decide +kernel
theorem d_PF_same_28 : decode b_PF_same 28 = .ok (.getfield 40, 3) := by decide +kernel
theorem d_PF_same_31 : decode b_PF_same 31 = .ok (.aload_n 0, 1) := by decide +kernel
theorem d_PF_same_32 : decode b_PF_same 32 = .ok (.getfield 44, 3) := by decide +kernel
theorem d_PF_same_35 : decode b_PF_same 35 = .ok (.iload_n 1, 1) := by decide +kernel
theorem d_PF_same_36 : decode b_PF_same 36 = .ok (.invokevirtual 182, 3) := by decide +kernel
theorem d_PF_same_39 : decode b_PF_same 39 = .ok (.ifCond .eq 24, 3) := by decide +kernel
theorem d_PF_same_42 : decode b_PF_same 42 = .ok (.aload_n 0, 1) := by decide +kernel
theorem d_PF_same_43 : decode b_PF_same 43 = .ok (.getfield 40, 3) := by decide +kernel
theorem d_PF_same_46 : decode b_PF_same 46 = .ok (.getfield 151, 3) := by decide +kernel
theorem d_PF_same_49 : decode b_PF_same 49 = .ok (.iload_n 1, 1) := by decide +kernel
theorem d_PF_same_50 : decode b_PF_same 50 = .ok (.iaload, 1) := by decide +kernel
theorem d_PF_same_51 : decode b_PF_same 51 = .ok (.aload_n 0, 1) := by decide +kernel
theorem d_PF_same_52 : decode b_PF_same 52 = .ok (.getfield 44, 3) := by decide +kernel
theorem d_PF_same_55 : decode b_PF_same 55 = .ok (.getfield 151, 3) := by decide +kernel
theorem d_PF_same_58 : decode b_PF_same 58 = .ok (.iload_n 1, 1) := by decide +kernel
theorem d_PF_same_59 : decode b_PF_same 59 = .ok (.iaload, 1) := by decide +kernel
theorem d_PF_same_60 : decode b_PF_same 60 = .ok (.if_icmp .eq 5, 3) := by decide +kernel
theorem d_PF_same_63 : decode b_PF_same 63 = .ok (.iconst 0, 1) := by decide +kernel
theorem d_PF_same_64 : decode b_PF_same 64 = .ok (.ireturn, 1) := by decide +kernel
theorem d_PF_same_65 : decode b_PF_same 65 = .ok (.iinc 1 1, 3) := by decide +kernel
theorem d_PF_same_68 : decode b_PF_same 68 = .ok (.goto (-47), 3) := by decide +kernel
theorem d_PF_same_71 : decode b_PF_same 71 = .ok (.iconst 1, 1) := by decide +kernel
theorem d_PF_same_72 : decode b_PF_same 72 = .ok (.ireturn, 1) := by decide +kernel
theorem d_PF_set_0 : decode b_PF_set 0 = .ok (.iload_n 1, 1) := by decide +kernel
theorem d_PF_set_1 : decode b_PF_set 1 = .ok (.bipush 8, 2) := by decide +kernel
theorem d_PF_set_3 : decode b_PF_set 3 = .ok (.invokestatic 85, 3) := by decide +kernel
theorem d_PF_set_6 : decode b_PF_set 6 = .ok (.lload 4, 2) := by decide +kernel
theorem d_PF_set_8 : decode b_PF_set 8 = .ok (.lconst 1, 1) := by decide +kernel
theorem d_PF_set_9 : decode b_PF_set 9 = .ok (.lcmp, 1) := by decide +kernel
theorem d_PF_set_10 : decode b_PF_set 10 = .ok (.ifCond .lt 28, 3) := by decide +kernel
theorem d_PF_set_13 : decode b_PF_set 13 = .ok (.lload 4, 2) := by decide +kernel
theorem d_PF_set_15 : decode b_PF_set 15 = .ok (.ldc2_w 89, 3) := by decide +kernel
theorem d_PF_set_18 : decode b_PF_set 18 = .ok (.lcmp, 1) := by decide +kernel
theorem d_PF_set_19 : decode b_PF_set 19 = .ok (.ifCond .gt 19, 3) := by decide +kernel
theorem d_PF_set_22 : decode b_PF_set 22 = .ok (.lload_n 2, 1) := by decide +kernel
theorem d_PF_set_23 : decode b_PF_set 23 = .ok (.ldc2_w 89, 3) := by decide +kernel
theorem d_PF_set_26 : decode b_PF_set 26 = .ok (.lcmp, 1) := by decide +kernel
theorem d_PF_set_27 : decode b_PF_set 27 = .ok (.ifCond .gt 11, 3) := by decide +kernel
theorem d_PF_set_30 : decode b_PF_set 30 = .ok (.lload_n 2, 1) := by decide +kernel
theorem d_PF_set_31 : decode b_PF_set 31 = .ok (.ldc2_w 91, 3) := by decide +kernel
theorem d_PF_set_34 : decode b_PF_set 34 = .ok (.lcmp, 1) := by decide +kernel
theorem d_PF_set_35 : decode b_PF_set 35 = .ok (.ifCond .ge 13, 3) := by decide +kernel
theorem d_PF_set_38 : decode b_PF_set 38 = .ok (.new 93, 3) := by decide +kernel
theorem d_PF_set_41 : decode b_PF_set 41 = .ok (.dup, 1) := by decide +kernel
theorem d_PF_set_42 : decode b_PF_set 42 = .ok (.ldc 95, 2) := by decide +kernel
theorem d_PF_set_44 : decode b_PF_set 44 = .ok (.invokespecial 97, 3) := by decide +kernel
theorem d_PF_set_47 : decode b_PF_set 47 = .ok (.athrow, 1) := by decide +kernel
theorem d_PF_set_48 : decode b_PF_set 48 = .ok (.aload_n 0, 1) := by decide +kernel
theorem d_PF_set_49 : decode b_PF_set 49 = .ok (.getfield 33, 3) := by decide +kernel
theorem d_PF_set_52 : decode b_PF_set 52 = .ok (.iload_n 1, 1) := by decide +kernel
theorem d_PF_set_53 : decode b_PF_set 53 = .ok (.lload_n 2, 1) := by decide +kernel
theorem d_PF_set_54 : decode b_PF_set 54 = .ok (.lload 4, 2) := by decide +kernel
theorem d_PF_set_56 : decode b_PF_set 56 = .ok (.invokevirtual 100, 3) := by decide +kernel
theorem d_PF_set_59 : decode b_PF_set 59 = .ok (.istore 6, 2) := by decide +kernel
theorem d_PF_set_61 : decode b_PF_set 61 = .ok (.iload 6, 2) := by decide +kernel
theorem d_PF_set_63 : decode b_PF_set 63 = .ok (.ifCond .eq 36, 3) := by decide +kernel
theorem d_PF_set_66 : decode b_PF_set 66 = .ok (.aload_n 0, 1) := by decide +kernel
theorem d_PF_set_67 : decode b_PF_set 67 = .ok (.getfield 27, 3) := by decide +kernel
theorem d_PF_set_70 : decode b_PF_set 70 = .ok (.ifCond .eq 29, 3) := by decide +kernel
theorem d_PF_set_73 : decode b_PF_set 73 = .ok (.aload_n 0, 1) := by decide +kernel
theorem d_PF_set_74 : decode b_PF_set 74 = .ok (.dup, 1) := by decide +kernel
theorem d_PF_set_75 : decode b_PF_set 75 = .ok (.getfield 55, 3) := by decide +kernel
theorem d_PF_set_78 : decode b_PF_set 78 = .ok (.aload_n 0, 1) := by decide +kernel
theorem d_PF_set_79 : decode b_PF_set 79 = .ok (.getfield 33, 3) := by decide +kernel
theorem d_PF_set_82 : decode b_PF_set 82 = .ok (.aload_n 0, 1) := by decide +kernel
theorem d_PF_set_83 : decode b_PF_set 83 = .ok (.getfield 19, 3) := by decide +kernel
theorem d_PF_set_86 : decode b_PF_set 86 = .ok (.iload_n 1, 1) := by decide +kernel
theorem d_PF_set_87 : decode b_PF_set 87 = .ok (.aload_n 0, 1) := by decide +kernel
theorem d_PF_set_88 : decode b_PF_set 88 = .ok (.getfield 40, 3) := by decide +kernel
theorem d_PF_set_91 : decode b_PF_set 91 = .ok (.invokevirtual 104, 3) := by decide +kernel
theorem d_PF_set_94 : decode b_PF_set 94 = .ok (.i2l, 1) := by decide +kernel
theorem d_PF_set_95 : decode b_PF_set 95 = .ok (.ladd, 1) := by decide +kernel
theorem d_PF_set_96 : decode b_PF_set 96 = .ok (.putfield 55, 3) := by decide +kernel
theorem d_PF_set_99 : decode b_PF_set 99 = .ok (.iload 6, 2) := by decide +kernel
theorem d_PF_set_101 : decode b_PF_set 101 = .ok (.ireturn, 1) := by decide +kernel
theorem d_PF_size_0 : decode b_PF_size 0 = .ok (.iload_n 1, 1) := by decide +kernel
theorem d_PF_size_1 : decode b_PF_size 1 = .ok (.iload_n 2, 1) := by decide +kernel
theorem d_PF_size_2 : decode b_PF_size 2 = .ok (.invokestatic 128, 3) := by decide +kernel
theorem d_PF_size_5 : decode b_PF_size 5 = .ok (.istore 4, 2) := by decide +kernel
theorem d_PF_size_7 : decode b_PF_size 7 = .ok (.iload_n 3, 1) := by decide +kernel
theorem d_PF_size_8 : decode b_PF_size 8 = .ok (.invokestatic 132, 3) := by decide +kernel
theorem d_PF_size_11 : decode b_PF_size 11 = .ok (.aload_n 0, 1) := by decide +kernel
theorem d_PF_size_12 : decode b_PF_size 12 = .ok (.invokevirtual 125, 3) := by decide +kernel
theorem d_PF_size_15 : decode b_PF_size 15 = .ok (.aload_n 0, 1) := by decide +kernel
theorem d_PF_size_16 : decode b_PF_size 16 = .ok (.getfield 40, 3) := by decide +kernel
theorem d_PF_size_19 : decode b_PF_size 19 = .ok (.getfield 122, 3) := by decide +kernel
theorem d_PF_size_22 : decode b_PF_size 22 = .ok (.iload 4, 2) := by decide +kernel
theorem d_PF_size_24 : decode b_PF_size 24 = .ok (.iaload, 1) := by decide +kernel
theorem d_PF_size_25 : decode b_PF_size 25 = .ok (.iconst 1, 1) := by decide +kernel
theorem d_PF_size_26 : decode b_PF_size 26 = .ok (.if_icmp .eq 13, 3) := by decide +kernel
theorem d_PF_size_29 : decode b_PF_size 29 = .ok (.new 135, 3) := by decide +kernel
theorem d_PF_size_32 : decode b_PF_size 32 = .ok (.dup, 1) := by decide +kernel
theorem d_PF_size_33 : decode b_PF_size 33 = .ok (.ldc 137, 2) := by decide +kernel
theorem d_PF_size_35 : decode b_PF_size 35 = .ok (.invokespecial 139, 3) := by decide +kernel
theorem d_PF_size_38 : decode b_PF_size 38 = .ok (.athrow, 1) := by decide +kernel
theorem d_PF_size_39 : decode b_PF_size 39 = .ok (.iload_n 3, 1) := by decide +kernel
theorem d_PF_size_40 : decode b_PF_size 40 = .ok (.ifCond .ne 16, 3) := by decide +kernel
theorem d_PF_size_43 : decode b_PF_size 43 = .ok (.aload_n 0, 1) := by decide +kernel
theorem d_PF_size_44 : decode b_PF_size 44 = .ok (.getfield 40, 3) := by decide +kernel
theorem d_PF_size_47 : decode b_PF_size 47 = .ok (.getfield 140, 3) := by decide +kernel
theorem d_PF_size_50 : decode b_PF_size 50 = .ok (.iload 4, 2) := by decide +kernel
theorem d_PF_size_52 : decode b_PF_size 52 = .ok (.laload, 1) := by decide +kernel
theorem d_PF_size_53 : decode b_PF_size 53 = .ok (.goto 13, 3) := by decide +kernel
theorem d_PF_size_56 : decode b_PF_size 56 = .ok (.aload_n 0, 1) := by decide +kernel
theorem d_PF_size_57 : decode b_PF_size 57 = .ok (.getfield 40, 3) := by decide +kernel
theorem d_PF_size_60 : decode b_PF_size 60 = .ok (.getfield 144, 3) := by decide +kernel
theorem d_PF_size_63 : decode b_PF_size 63 = .ok (.iload 4, 2) := by decide +kernel
theorem d_PF_size_65 : decode b_PF_size 65 = .ok (.laload, 1) := by decide +kernel
theorem d_PF_size_66 : decode b_PF_size 66 = .ok (.lreturn, 1) := by decide +kernel
theorem d_PF_state_0 : decode b_PF_state 0 = .ok (.aload_n 0, 1) := by decide +kernel
theorem d_PF_state_1 : decode b_PF_state 1 = .ok (.invokevirtual 125, 3) := by decide +kernel
theorem d_PF_state_4 : decode b_PF_state 4 = .ok (.aload_n 0, 1) := by decide +kernel
theorem d_PF_state_5 : decode b_PF_state 5 = .ok (.getfield 40, 3) := by decide +kernel
theorem d_PF_state_8 : decode b_PF_state 8 = .ok (.getfield 122, 3) := by decide +kernel
theorem d_PF_state_11 : decode b_PF_state 11 = .ok (.iload_n 1, 1) := by decide +kernel
theorem d_PF_state_12 : decode b_PF_state 12 = .ok (.iload_n 2, 1) := by decide +kernel
theorem d_PF_state_13 : decode b_PF_state 13 = .ok (.invokestatic 128, 3) := by decide +kernel
theorem d_PF_state_16 : decode b_PF_state 16 = .ok (.iaload, 1) := by decide +kernel
theorem d_PF_state_17 : decode b_PF_state 17 = .ok (.ireturn, 1) := by decide +kernel
theorem d_PF_write_0 : decode b_PF_write 0 = .ok (.aload_n 0, 1) := by decide +kernel
theorem d_PF_write_1 : decode b_PF_write 1 = .ok (.invokevirtual 71, 3) := by decide +kernel
theorem d_PF_write_4 : decode b_PF_write 4 = .ok (.iload_n 1, 1) := by decide +kernel
theorem d_PF_write_5 : decode b_PF_write 5 = .ok (.invokestatic 74, 3) := by decide +kernel
theorem d_PF_write_8 : decode b_PF_write 8 = .ok (.iload_n 1, 1) := by decide +kernel
theorem d_PF_write_9 : decode b_PF_write 9 = .ok (.aload_n 0, 1) := by decide +kernel
theorem d_PF_write_10 : decode b_PF_write 10 = .ok (.getfield 19, 3) := by decide +kernel
theorem d_PF_write_13 : decode b_PF_write 13 = .ok (.getfield 78, 3) := by decide +kernel
theorem d_PF_write_16 : decode b_PF_write 16 = .ok (.if_icmp .ge 15, 3) := by decide +kernel
theorem d_PF_write_19 : decode b_PF_write 19 = .ok (.aload_n 0, 1) := by decide +kernel
theorem d_PF_write_20 : decode b_PF_write 20 = .ok (.getfield 19, 3) := by decide +kernel
theorem d_PF_write_23 : decode b_PF_write 23 = .ok (.getfield 81, 3) := by decide +kernel
theorem d_PF_write_26 : decode b_PF_write 26 = .ok (.iload_n 1, 1) := by decide +kernel
theorem d_PF_write_27 : decode b_PF_write 27 = .ok (.caload, 1) := by decide +kernel
theorem d_PF_write_28 : decode b_PF_write 28 = .ok (.goto 4, 3) := by decide +kernel
theorem d_PF_write_31 : decode b_PF_write 31 = .ok (.iconst (-1), 1) := by decide +kernel
theorem d_PF_write_32 : decode b_PF_write 32 = .ok (.ireturn, 1) := by decide +kernel
def F_PF_demandRead  (o0 : Ob) : Option (Nat × Unit) :=
  if (g32 o0 2 0) = 0 then (some (1, ())) else (pln (some ()))
abbrev ws_PF_demandRead : List Cond := Cond.code y_PF_demandRead b_PF_demandRead 1 (none : Option Jvm.ClassFile.FieldType) :: wsAll
abbrev rm_PF_demandRead : Room := { frames := 0, cells := 0, slots := 0, locals := 0 }
set_option maxHeartbeats 4000000 in
set_option maxRecDepth 100000 in
theorem c_PF_demandRead (l : Launch) (ct dC : Nat → ClassId) (dI : Nat → Nat → Nat) (a0 : Nat → Nat) (r0_0 : Nat) (r0_1 : Nat) (r0_4 : Nat) (r0_5 : Nat) (r0_6 : Nat) (v0 : Nat → Nat) (sz : Nat)  (o0 : Ob)  (hF : F_PF_demandRead o0 = some (0, ())) : Met l y_PF_demandRead ws_PF_demandRead rm_PF_demandRead (bw_Pc [.ref (a0 0)] (dC, dI) vwCl (tyA ct) [wPF ct a0 r0_0 r0_1 r0_4 r0_5 r0_6 v0 o0] sz nx) (bw_QR none) 0 0 (fun _ => False) := by
  refine Met.ofW (cc := b_PF_demandRead) (maxL := 1) (ret := (none : Option Jvm.ClassFile.FieldType)) (by decide) rfl ?_
  intro p e s m args below meth c s₁ B hml hv
  obtain ⟨rfl, hsz, hP, hK, hN0, hnx⟩ := hv
  have hx := B.exec
  have hb := B.bytes
  have hr := B.returns
  have hts : ∀ w ∈ wsAll, w.before [.ref (a0 0)].toArray s = true := fun w h9 => atoms_spec (ws := ws_PF_demandRead) B.pre w (List.mem_cons_of_mem _ h9)
  have hown : s.vm.findClass R_PF = some m.cls := findClass_of_methodNamed B.named
  have hlocks := B.notSynchronized
  subst hsz
  have hN : bw_N (fun _ => True) [adPF a0] := hN0
  generalize hAe : (fun _ : Nat => True) = A at hN
  have hA : ∀ q : Nat, s.heap.size ≤ q → A q := fun q _ => by rw [← hAe]; trivial
  have hS : s.heap = s.heap ∧ ([] : List Loc) = [] := ⟨rfl, rfl⟩
  have hl := lv_entry ([.ref (a0 0)]) (n := 1) (Nat.le_of_ble_eq_true rfl)
  rw [lg_entry_eq]
  generalize (lg_sl ([.ref (a0 0)]) ++ List.replicate (1 - (lg_sl ([.ref (a0 0)])).length) Slot.unset).toArray = ls at hl ⊢
  have hl : lv_has ls 1 [(0, .ref (a0 0))] := hl
  have C0 : cx wsAll vwCl nx p s m [.ref (a0 0)].toArray meth c (dC, dI) (tyA ct) b_PF_demandRead 1 (none : Option Jvm.ClassFile.FieldType) R_PF A [adPF a0] := ⟨hx, hb, hr, hml, hown, hlocks, hts, hK, hN, hA, hnx⟩
  have h := hF
  rw [F_PF_demandRead] at h
  refine lv_aload_n hx hb d_PF_demandRead_0 rfl (lv_at hl 0 rfl) ?_
  refine va_get (D := (dC, dI)) (ci := 5) (v := .int (g32 o0 2 0)) (C := R_PF) (T := T_PF) (N := 10) hx hb hts in_PF hown hK (hP 0 _ rfl) 0 rfl rfl 2 (by decide) (hts _ fl_PF_23) (fun _ h9 => h9) rfl d_PF_demandRead_1 ?_
  refine lv_if_ne (tgt := 17) hx hb d_PF_demandRead_4 (by decide) (fun c1 => ?_) (fun c1 => ?_)
  · have h := ite_f c1 h
    have h := pln_some h
    exact W.vret hx hb hr (fun t ht hW => ⟨rfl, ht.trans hS.1⟩) (bw_nil hS.2) d_PF_demandRead_17
  · have h := ite_t c1 h
    exact (thr_ne h).elim
abbrev rmx_PF_demandRead : Room := { frames := 6, cells := 1, slots := 6, locals := 100 }
set_option maxHeartbeats 4000000 in
set_option maxRecDepth 100000 in
theorem x_PF_demandRead (l : Launch) (hl0 : l.stackTraces = false) (ct dC : Nat → ClassId) (dI : Nat → Nat → Nat) (a0 : Nat → Nat) (r0_0 : Nat) (r0_1 : Nat) (r0_4 : Nat) (r0_5 : Nat) (r0_6 : Nat) (v0 : Nat → Nat) (sz : Nat)  (o0 : Ob) (k : Nat)  (hF : F_PF_demandRead o0 = some (k, ())) (hk : ¬ k = 0) : MetT l y_PF_demandRead ws_PF_demandRead rmx_PF_demandRead (bw_Pc [.ref (a0 0)] (dC, dI) vwCl (tyA ct) [wPF ct a0 r0_0 r0_1 r0_4 r0_5 r0_6 v0 o0] sz thn) (bt_Q (exN k)) 1 6 := by
  refine MetT.ofW (cc := b_PF_demandRead) (maxL := 1) (ret := (none : Option Jvm.ClassFile.FieldType)) (by decide) rfl ?_
  intro p e s m args below meth c s₁ B hml hv
  obtain ⟨rfl, hsz, hP, hK, hN0, hnx, hth⟩ := hv
  have hx := B.exec
  have hb := B.bytes
  have hr := B.returns
  have hts : ∀ w ∈ wsAll, w.before [.ref (a0 0)].toArray s = true := fun w h9 => atoms_spec (ws := ws_PF_demandRead) B.pre w (List.mem_cons_of_mem _ h9)
  have hex : c.exceptionTable.isEmpty = true := B.noHandlers (atoms_spec (ws := ws_PF_demandRead) B.pre _ List.mem_cons_self)
  have hown : s.vm.findClass R_PF = some m.cls := findClass_of_methodNamed B.named
  have hlocks := B.notSynchronized
  subst hsz
  have hN : bw_N (fun _ => True) [adPF a0] := hN0
  have hS : s.heap = s.heap ∧ ([] : List Loc) = [] := ⟨rfl, rfl⟩
  have hl := lv_entry ([.ref (a0 0)]) (n := 1) (Nat.le_of_ble_eq_true rfl)
  rw [lg_entry_eq]
  generalize (lg_sl ([.ref (a0 0)]) ++ List.replicate (1 - (lg_sl ([.ref (a0 0)])).length) Slot.unset).toArray = ls at hl ⊢
  have hl : lv_has ls 1 [(0, .ref (a0 0))] := hl
  have h := hF
  rw [F_PF_demandRead] at h
  refine lv_aload_n hx hb d_PF_demandRead_0 rfl (lv_at hl 0 rfl) ?_
  refine va_get (D := (dC, dI)) (ci := 5) (v := .int (g32 o0 2 0)) (C := R_PF) (T := T_PF) (N := 10) hx hb hts in_PF hown hK (hP 0 _ rfl) 0 rfl rfl 2 (by decide) (hts _ fl_PF_23) (fun _ h9 => h9) rfl d_PF_demandRead_1 ?_
  refine lv_if_ne (tgt := 17) hx hb d_PF_demandRead_4 (by decide) (fun c1 => ?_) (fun c1 => ?_)
  · have h := ite_f c1 h
    exact absurd (pln_0 h) hk
  · have h := ite_t c1 h
    have e9 := (res2 h).1
    rw [e9]
    obtain ⟨q9, hq9⟩ := thx_s4 hth
    exact bt_throw hx hb hl0 hown (by decide) (by decide) (at_1 hts hth) (hts _ cl_PF_135) (hts _ ins_IllegalStateException) (hts _ ini_IllegalStateException) hq9 d_PF_demandRead_7 d_PF_demandRead_10 d_PF_demandRead_11 d_PF_demandRead_13 d_PF_demandRead_16 hex (hl.1.trans hml.symm) hlocks (Nat.le_of_ble_eq_true rfl) (Nat.le_of_ble_eq_true rfl) (Nat.le_of_ble_eq_true rfl) (Nat.le_of_ble_eq_true rfl)
def F_PF_demandNotNegative (x0 : Int32)  : Option (Nat × Unit) :=
  if 0 ≤ x0 then (pln (some ())) else (some (2, ()))
abbrev ws_PF_demandNotNegative : List Cond := Cond.code y_PF_demandNotNegative b_PF_demandNotNegative 1 (none : Option Jvm.ClassFile.FieldType) :: wsAll
abbrev rm_PF_demandNotNegative : Room := { frames := 0, cells := 0, slots := 0, locals := 0 }
set_option maxHeartbeats 4000000 in
set_option maxRecDepth 100000 in
theorem c_PF_demandNotNegative (l : Launch) (ct dC : Nat → ClassId) (dI : Nat → Nat → Nat)   (sz : Nat) (x0 : Int32)   (hF : F_PF_demandNotNegative x0 = some (0, ())) : Met l y_PF_demandNotNegative ws_PF_demandNotNegative rm_PF_demandNotNegative (bw_Pc [.int x0] (dC, dI) vwCl (tyA ct) [] sz nx) (bw_QR none) 0 0 (fun _ => False) := by
  refine Met.ofW (cc := b_PF_demandNotNegative) (maxL := 1) (ret := (none : Option Jvm.ClassFile.FieldType)) (by decide) rfl ?_
  intro p e s m args below meth c s₁ B hml hv
  obtain ⟨rfl, hsz, hP, hK, hN0, hnx⟩ := hv
  have hx := B.exec
  have hb := B.bytes
  have hr := B.returns
  have hts : ∀ w ∈ wsAll, w.before [.int x0].toArray s = true := fun w h9 => atoms_spec (ws := ws_PF_demandNotNegative) B.pre w (List.mem_cons_of_mem _ h9)
  have hown : s.vm.findClass R_PF = some m.cls := findClass_of_methodNamed B.named
  have hlocks := B.notSynchronized
  subst hsz
  have hN : bw_N (fun _ => True) [] := hN0
  generalize hAe : (fun _ : Nat => True) = A at hN
  have hA : ∀ q : Nat, s.heap.size ≤ q → A q := fun q _ => by rw [← hAe]; trivial
  have hS : s.heap = s.heap ∧ ([] : List Loc) = [] := ⟨rfl, rfl⟩
  have hl := lv_entry ([.int x0]) (n := 1) (Nat.le_of_ble_eq_true rfl)
  rw [lg_entry_eq]
  generalize (lg_sl ([.int x0]) ++ List.replicate (1 - (lg_sl ([.int x0])).length) Slot.unset).toArray = ls at hl ⊢
  have hl : lv_has ls 1 [(0, .int x0)] := hl
  have C0 : cx wsAll vwCl nx p s m [.int x0].toArray meth c (dC, dI) (tyA ct) b_PF_demandNotNegative 1 (none : Option Jvm.ClassFile.FieldType) R_PF A [] := ⟨hx, hb, hr, hml, hown, hlocks, hts, hK, hN, hA, hnx⟩
  have h := hF
  rw [F_PF_demandNotNegative] at h
  refine lv_iload_n hx hb d_PF_demandNotNegative_0 rfl (lv_at hl 0 rfl) ?_
  refine lv_if_ge (tgt := 14) hx hb d_PF_demandNotNegative_1 (by decide) (fun c1 => ?_) (fun c1 => ?_)
  · have h := ite_t c1 h
    have h := pln_some h
    exact W.vret hx hb hr (fun t ht hW => ⟨rfl, ht.trans hS.1⟩) (bw_nil hS.2) d_PF_demandNotNegative_14
  · have h := ite_f c1 h
    exact (thr_ne h).elim
abbrev rmx_PF_demandNotNegative : Room := { frames := 6, cells := 1, slots := 6, locals := 100 }
set_option maxHeartbeats 4000000 in
set_option maxRecDepth 100000 in
theorem x_PF_demandNotNegative (l : Launch) (hl0 : l.stackTraces = false) (ct dC : Nat → ClassId) (dI : Nat → Nat → Nat)   (sz : Nat) (x0 : Int32)  (k : Nat)  (hF : F_PF_demandNotNegative x0 = some (k, ())) (hk : ¬ k = 0) : MetT l y_PF_demandNotNegative ws_PF_demandNotNegative rmx_PF_demandNotNegative (bw_Pc [.int x0] (dC, dI) vwCl (tyA ct) [] sz thn) (bt_Q (exN k)) 1 6 := by
  refine MetT.ofW (cc := b_PF_demandNotNegative) (maxL := 1) (ret := (none : Option Jvm.ClassFile.FieldType)) (by decide) rfl ?_
  intro p e s m args below meth c s₁ B hml hv
  obtain ⟨rfl, hsz, hP, hK, hN0, hnx, hth⟩ := hv
  have hx := B.exec
  have hb := B.bytes
  have hr := B.returns
  have hts : ∀ w ∈ wsAll, w.before [.int x0].toArray s = true := fun w h9 => atoms_spec (ws := ws_PF_demandNotNegative) B.pre w (List.mem_cons_of_mem _ h9)
  have hex : c.exceptionTable.isEmpty = true := B.noHandlers (atoms_spec (ws := ws_PF_demandNotNegative) B.pre _ List.mem_cons_self)
  have hown : s.vm.findClass R_PF = some m.cls := findClass_of_methodNamed B.named
  have hlocks := B.notSynchronized
  subst hsz
  have hN : bw_N (fun _ => True) [] := hN0
  have hS : s.heap = s.heap ∧ ([] : List Loc) = [] := ⟨rfl, rfl⟩
  have hl := lv_entry ([.int x0]) (n := 1) (Nat.le_of_ble_eq_true rfl)
  rw [lg_entry_eq]
  generalize (lg_sl ([.int x0]) ++ List.replicate (1 - (lg_sl ([.int x0])).length) Slot.unset).toArray = ls at hl ⊢
  have hl : lv_has ls 1 [(0, .int x0)] := hl
  have h := hF
  rw [F_PF_demandNotNegative] at h
  refine lv_iload_n hx hb d_PF_demandNotNegative_0 rfl (lv_at hl 0 rfl) ?_
  refine lv_if_ge (tgt := 14) hx hb d_PF_demandNotNegative_1 (by decide) (fun c1 => ?_) (fun c1 => ?_)
  · have h := ite_t c1 h
    exact absurd (pln_0 h) hk
  · have h := ite_f c1 h
    have e9 := (res2 h).1
    rw [e9]
    obtain ⟨q9, hq9⟩ := thx_s7 hth
    exact bt_throw hx hb hl0 hown (by decide) (by decide) (at_2 hts hth) (hts _ cl_PF_93) (hts _ ins_IllegalArgumentException) (hts _ ini_IllegalArgumentException) hq9 d_PF_demandNotNegative_4 d_PF_demandNotNegative_7 d_PF_demandNotNegative_8 d_PF_demandNotNegative_10 d_PF_demandNotNegative_13 hex (hl.1.trans hml.symm) hlocks (Nat.le_of_ble_eq_true rfl) (Nat.le_of_ble_eq_true rfl) (Nat.le_of_ble_eq_true rfl) (Nat.le_of_ble_eq_true rfl)
theorem g_PF_71 : GoodIn wsAll (wsV R_PF 71 R_PF y_PF_demandRead ws_PF_demandRead) := gd_V ml_PF_71 im_PF_demandRead se_PF_demandRead ini_PF cd_PF_demandRead
theorem g_PF_74 : GoodIn wsAll (wsS R_PF 74 y_PF_demandNotNegative ws_PF_demandNotNegative) := gd_S ml_PF_74 st_PF_demandNotNegative ini_PF cd_PF_demandNotNegative
def F_PF_write (x1 : Int32) (o0 o1 : Ob) : Option (Nat × Int32) :=
  bind2 (F_PF_demandRead o0) (fun k_2 u_3 => if k_2 = 0 then (bind2 (F_PF_demandNotNegative x1) (fun k_6 u_7 => if k_6 = 0 then (pln (if (g32 o1 1 0) ≤ x1 then (some (-1 : Int32)) else (chk (inb x1 400) (some (g32 o1 0 (Int32.toNatClampNeg x1)))))) else (some (k_6, (0 : Int32))))) else (some (k_2, (0 : Int32))))
abbrev ws_PF_write : List Cond := Cond.code y_PF_write b_PF_write 2 (some .int) :: wsAll
abbrev rm_PF_write : Room := { frames := 1, cells := 0, slots := 0, locals := 20 }
set_option maxHeartbeats 4000000 in
set_option maxRecDepth 100000 in
theorem c_PF_write (l : Launch) (ct dC : Nat → ClassId) (dI : Nat → Nat → Nat) (a0 a1 : Nat → Nat) (r0_0 : Nat) (r0_4 : Nat) (r0_5 : Nat) (r0_6 : Nat) (v0 : Nat → Nat) (r1_2 : Nat) (sz : Nat) (x1 : Int32) (o0 o1 : Ob) (r : Int32) (hF : F_PF_write x1 o0 o1 = some (0, r)) : Met l y_PF_write ws_PF_write rm_PF_write (bw_Pc [.ref (a0 0), .int x1] (dC, dI) vwCl (tyA ct) [wPF ct a0 r0_0 (a1 0) r0_4 r0_5 r0_6 v0 o0, wText ct a1 r1_2 o1] sz nx) (bw_QR (some (.int r))) 0 0 (fun _ => False) := by
  refine Met.ofW (cc := b_PF_write) (maxL := 2) (ret := (some .int)) (by decide) rfl ?_
  intro p e s m args below meth c s₁ B hml hv
  obtain ⟨rfl, hsz, hP, hK, hN0, hnx⟩ := hv
  have hx := B.exec
  have hb := B.bytes
  have hr := B.returns
  have hts : ∀ w ∈ wsAll, w.before [.ref (a0 0), .int x1].toArray s = true := fun w h9 => atoms_spec (ws := ws_PF_write) B.pre w (List.mem_cons_of_mem _ h9)
  have hown : s.vm.findClass R_PF = some m.cls := findClass_of_methodNamed B.named
  have hlocks := B.notSynchronized
  subst hsz
  have hN : bw_N (fun _ => True) [adPF a0, adText a1] := hN0
  generalize hAe : (fun _ : Nat => True) = A at hN
  have hA : ∀ q : Nat, s.heap.size ≤ q → A q := fun q _ => by rw [← hAe]; trivial
  have hS : s.heap = s.heap ∧ ([] : List Loc) = [] := ⟨rfl, rfl⟩
  have hl := lv_entry ([.ref (a0 0), .int x1]) (n := 2) (Nat.le_of_ble_eq_true rfl)
  rw [lg_entry_eq]
  generalize (lg_sl ([.ref (a0 0), .int x1]) ++ List.replicate (2 - (lg_sl ([.ref (a0 0), .int x1])).length) Slot.unset).toArray = ls at hl ⊢
  have hl : lv_has ls 2 [(0, .ref (a0 0)), (1, .int x1)] := hl
  have C0 : cx wsAll vwCl nx p s m [.ref (a0 0), .int x1].toArray meth c (dC, dI) (tyA ct) b_PF_write 2 (some .int) R_PF A [adPF a0, adText a1] := ⟨hx, hb, hr, hml, hown, hlocks, hts, hK, hN, hA, hnx⟩
  have h := hF
  rw [F_PF_write] at h
  refine lv_aload_n hx hb d_PF_write_0 rfl (lv_at hl 0 rfl) ?_
  obtain ⟨k_2, u_3, hG1, h⟩ := bind2_some h
  by_cases hk4 : k_2 = 0
  · subst hk4
    have h := ite_t rfl h
    refine bw_callR (va_runV (As := []) (rest := []) ⟨hx, hb, hml, hown, hts⟩ (c_PF_demandRead l ct dC dI a0 r0_0 (a1 0) r0_4 r0_5 r0_6 v0 _ o0 hG1) (cwV 0 hts g_PF_71 rfl rfl rfl (by decide +kernel) ⟨Nat.le_of_ble_eq_true rfl, Nat.le_of_ble_eq_true rfl⟩) ⟨bw_blind nx_call, va_recv hK (hP 0 _ rfl) (ci := 5) (q0 := 0) rfl rfl, fun U hU hW => ⟨rfl, by rw [hU], by rw [hU]; exact hP.sub [0] rfl, va_K.moved hW.alike hK, (hN.sub [0] (by decide) rfl).weaken (fun _ _ => trivial), nx_warm hW hnx⟩⟩ rfl rfl hl.1 rfl (Nat.le_of_ble_eq_true rfl) d_PF_write_1 ⟨Nat.le_of_ble_eq_true rfl, Nat.le_of_ble_eq_true rfl⟩) ?_
    refine lv_iload_n hx hb d_PF_write_4 rfl (lv_at hl 1 rfl) ?_
    obtain ⟨k_6, u_7, hG5, h⟩ := bind2_some h
    by_cases hk8 : k_6 = 0
    · subst hk8
      have h := ite_t rfl h
      refine bw_callR (va_runS (As := [.int x1]) (rest := []) ⟨hx, hb, hml, hown, hts⟩ (c_PF_demandNotNegative l ct dC dI _ x1 hG5) (cwS 1 hts g_PF_74 rfl rfl rfl (by decide +kernel) ⟨Nat.le_of_ble_eq_true rfl, Nat.le_of_ble_eq_true rfl⟩) ⟨bw_blind nx_call, fun U hU hW => ⟨rfl, by rw [hU], by rw [hU]; exact hP.sub [] rfl, va_K.moved hW.alike hK, (hN.sub [] (by decide) rfl).weaken (fun _ _ => trivial), nx_warm hW hnx⟩⟩ rfl rfl hl.1 rfl (Nat.le_of_ble_eq_true rfl) d_PF_write_5 ⟨Nat.le_of_ble_eq_true rfl, Nat.le_of_ble_eq_true rfl⟩) ?_
      have h := pln_some h
      refine lv_iload_n hx hb d_PF_write_8 rfl (lv_at hl 1 rfl) ?_
      refine lv_aload_n hx hb d_PF_write_9 rfl (lv_at hl 0 rfl) ?_
      refine va_get (D := (dC, dI)) (ci := 5) (v := .ref (a1 0)) (C := R_PF) (T := T_PF) (N := 10) hx hb hts in_PF hown hK (hP 0 _ rfl) 0 rfl rfl 1 (by decide) (hts _ fl_PF_19) (fun _ h9 => h9) rfl d_PF_write_10 ?_
      refine va_get (D := (dC, dI)) (ci := 2) (v := .int (g32 o1 1 0)) (C := R_Text) (T := T_Text) (N := 12) hx hb hts in_Text hown hK (hP 1 _ rfl) 0 rfl rfl 1 (by decide) (hts _ fl_PF_78) (fun _ h9 => h9) rfl d_PF_write_13 ?_
      refine lv_icmp_ge (tgt := 31) hx hb d_PF_write_16 (by decide) (fun c9 => ?_) (fun c9 => ?_)
      · have h := ite_t c9 h
        refine lv_iconst (v := -1) hx hb d_PF_write_31 (by decide) ?_
        obtain rfl := res1 h
        exact W.iret hx hb hr (fun t ht hW => ⟨rfl, ht.trans hS.1⟩) (bw_nil hS.2) d_PF_write_32
      · have h := ite_f c9 h
        refine lv_aload_n hx hb d_PF_write_19 rfl (lv_at hl 0 rfl) ?_
        refine va_get (D := (dC, dI)) (ci := 5) (v := .ref (a1 0)) (C := R_PF) (T := T_PF) (N := 10) hx hb hts in_PF hown hK (hP 0 _ rfl) 0 rfl rfl 1 (by decide) (hts _ fl_PF_19) (fun _ h9 => h9) rfl d_PF_write_20 ?_
        refine va_get (D := (dC, dI)) (ci := 2) (v := .ref (a1 1)) (C := R_Text) (T := T_Text) (N := 12) hx hb hts in_Text hown hK (hP 1 _ rfl) 0 rfl rfl 0 (by decide) (hts _ fl_PF_81) (fun _ h9 => h9) rfl d_PF_write_23 ?_
        refine lv_iload_n hx hb d_PF_write_26 rfl (lv_at hl 1 rfl) ?_
        obtain ⟨hi10, h⟩ := chk_some h
        refine va_cald (f := g32 o1 0) hx hb hK (hP 1 _ rfl) 1 2 rfl rfl (inb_in hi10) d_PF_write_27 ?_
        refine lv_goto (tgt := 32) hx hb d_PF_write_28 (by decide) ?_
        obtain rfl := res1 h
        exact W.iret hx hb hr (fun t ht hW => ⟨rfl, ht.trans hS.1⟩) (bw_nil hS.2) d_PF_write_32
    · have h := ite_f hk8 h
      exact absurd (thr_eq h) hk8
  · have h := ite_f hk4 h
    exact absurd (thr_eq h) hk4
abbrev rmx_PF_write : Room := { frames := 7, cells := 1, slots := 6, locals := 120 }
set_option maxHeartbeats 4000000 in
set_option maxRecDepth 100000 in
theorem x_PF_write (l : Launch) (hl0 : l.stackTraces = false) (ct dC : Nat → ClassId) (dI : Nat → Nat → Nat) (a0 a1 : Nat → Nat) (r0_0 : Nat) (r0_4 : Nat) (r0_5 : Nat) (r0_6 : Nat) (v0 : Nat → Nat) (r1_2 : Nat) (sz : Nat) (x1 : Int32) (o0 o1 : Ob) (k : Nat) (r : Int32) (hF : F_PF_write x1 o0 o1 = some (k, r)) (hk : ¬ k = 0) : MetT l y_PF_write ws_PF_write rmx_PF_write (bw_Pc [.ref (a0 0), .int x1] (dC, dI) vwCl (tyA ct) [wPF ct a0 r0_0 (a1 0) r0_4 r0_5 r0_6 v0 o0, wText ct a1 r1_2 o1] sz thn) (bt_Q (exN k)) 1 6 := by
  refine MetT.ofW (cc := b_PF_write) (maxL := 2) (ret := (some .int)) (by decide) rfl ?_
  intro p e s m args below meth c s₁ B hml hv
  obtain ⟨rfl, hsz, hP, hK, hN0, hnx, hth⟩ := hv
  have hx := B.exec
  have hb := B.bytes
  have hr := B.returns
  have hts : ∀ w ∈ wsAll, w.before [.ref (a0 0), .int x1].toArray s = true := fun w h9 => atoms_spec (ws := ws_PF_write) B.pre w (List.mem_cons_of_mem _ h9)
  have hex : c.exceptionTable.isEmpty = true := B.noHandlers (atoms_spec (ws := ws_PF_write) B.pre _ List.mem_cons_self)
  have hown : s.vm.findClass R_PF = some m.cls := findClass_of_methodNamed B.named
  have hlocks := B.notSynchronized
  subst hsz
  have hN : bw_N (fun _ => True) [adPF a0, adText a1] := hN0
  have hS : s.heap = s.heap ∧ ([] : List Loc) = [] := ⟨rfl, rfl⟩
  have hl := lv_entry ([.ref (a0 0), .int x1]) (n := 2) (Nat.le_of_ble_eq_true rfl)
  rw [lg_entry_eq]
  generalize (lg_sl ([.ref (a0 0), .int x1]) ++ List.replicate (2 - (lg_sl ([.ref (a0 0), .int x1])).length) Slot.unset).toArray = ls at hl ⊢
  have hl : lv_has ls 2 [(0, .ref (a0 0)), (1, .int x1)] := hl
  have h := hF
  rw [F_PF_write] at h
  refine lv_aload_n hx hb d_PF_write_0 rfl (lv_at hl 0 rfl) ?_
  obtain ⟨k_2, u_3, hG1, h⟩ := bind2_some h
  by_cases hk4 : k_2 = 0
  · subst hk4
    have h := ite_t rfl h
    refine bw_callR (va_runV (As := []) (rest := []) ⟨hx, hb, hml, hown, hts⟩ (c_PF_demandRead l ct dC dI a0 r0_0 (a1 0) r0_4 r0_5 r0_6 v0 _ o0 hG1) (cwV 0 hts g_PF_71 rfl rfl rfl (by decide +kernel) ⟨Nat.le_of_ble_eq_true rfl, Nat.le_of_ble_eq_true rfl⟩) ⟨bw_blind nx_call, va_recv hK (hP 0 _ rfl) (ci := 5) (q0 := 0) rfl rfl, fun U hU hW => ⟨rfl, by rw [hU], by rw [hU]; exact hP.sub [0] rfl, va_K.moved hW.alike hK, (hN.sub [0] (by decide) rfl).weaken (fun _ _ => trivial), nx_warm hW hnx⟩⟩ rfl rfl hl.1 rfl (Nat.le_of_ble_eq_true rfl) d_PF_write_1 ⟨Nat.le_of_ble_eq_true rfl, Nat.le_of_ble_eq_true rfl⟩) ?_
    refine lv_iload_n hx hb d_PF_write_4 rfl (lv_at hl 1 rfl) ?_
    obtain ⟨k_6, u_7, hG5, h⟩ := bind2_some h
    by_cases hk8 : k_6 = 0
    · subst hk8
      have h := ite_t rfl h
      refine bw_callR (va_runS (As := [.int x1]) (rest := []) ⟨hx, hb, hml, hown, hts⟩ (c_PF_demandNotNegative l ct dC dI _ x1 hG5) (cwS 1 hts g_PF_74 rfl rfl rfl (by decide +kernel) ⟨Nat.le_of_ble_eq_true rfl, Nat.le_of_ble_eq_true rfl⟩) ⟨bw_blind nx_call, fun U hU hW => ⟨rfl, by rw [hU], by rw [hU]; exact hP.sub [] rfl, va_K.moved hW.alike hK, (hN.sub [] (by decide) rfl).weaken (fun _ _ => trivial), nx_warm hW hnx⟩⟩ rfl rfl hl.1 rfl (Nat.le_of_ble_eq_true rfl) d_PF_write_5 ⟨Nat.le_of_ble_eq_true rfl, Nat.le_of_ble_eq_true rfl⟩) ?_
      exact absurd (pln_0 h) hk
    · have h := ite_f hk8 h
      have e9 := (res2 h).1
      rw [e9]
      exact bt_outS (As := [.int x1]) (rest := []) ⟨hx, hb, hml, hown, hts⟩ (x_PF_demandNotNegative l hl0 ct dC dI _ x1 k_6 hG5 hk8) (cwS 1 hts g_PF_74 rfl rfl rfl (by decide +kernel) ⟨Nat.le_of_ble_eq_true rfl, Nat.le_of_ble_eq_true rfl⟩) ⟨bw_blind thx_call, fun U hU hW => ⟨rfl, by rw [hU], by rw [hU]; exact hP.sub [] rfl, va_K.moved hW.alike hK, (hN.sub [] (by decide) rfl).weaken (fun _ _ => trivial), ⟨nx_warm hW hnx, thx_warm hW hU hth⟩⟩⟩ rfl hl.1 rfl (Nat.le_of_ble_eq_true rfl) d_PF_write_5 hex hlocks ⟨Nat.le_of_ble_eq_true rfl, Nat.le_of_ble_eq_true rfl⟩
  · have h := ite_f hk4 h
    have e9 := (res2 h).1
    rw [e9]
    exact bt_outV (As := []) (rest := []) ⟨hx, hb, hml, hown, hts⟩ (x_PF_demandRead l hl0 ct dC dI a0 r0_0 (a1 0) r0_4 r0_5 r0_6 v0 _ o0 k_2 hG1 hk4) (cwV 0 hts g_PF_71 rfl rfl rfl (by decide +kernel) ⟨Nat.le_of_ble_eq_true rfl, Nat.le_of_ble_eq_true rfl⟩) ⟨bw_blind thx_call, va_recv hK (hP 0 _ rfl) (ci := 5) (q0 := 0) rfl rfl, fun U hU hW => ⟨rfl, by rw [hU], by rw [hU]; exact hP.sub [0] rfl, va_K.moved hW.alike hK, (hN.sub [0] (by decide) rfl).weaken (fun _ _ => trivial), ⟨nx_warm hW hnx, thx_warm hW hU hth⟩⟩⟩ rfl hl.1 rfl (Nat.le_of_ble_eq_true rfl) d_PF_write_1 hex hlocks ⟨Nat.le_of_ble_eq_true rfl, Nat.le_of_ble_eq_true rfl⟩
def F_PF_demandIndex (x0 : Int32) (x1 : Int32)  : Option (Nat × Unit) :=
  if x0 < 0 then (some (3, ())) else (if x0 < x1 then (pln (some ())) else (some (3, ())))
abbrev ws_PF_demandIndex : List Cond := Cond.code y_PF_demandIndex b_PF_demandIndex 2 (none : Option Jvm.ClassFile.FieldType) :: wsAll
abbrev rm_PF_demandIndex : Room := { frames := 0, cells := 0, slots := 0, locals := 0 }
set_option maxHeartbeats 4000000 in
set_option maxRecDepth 100000 in
theorem c_PF_demandIndex (l : Launch) (ct dC : Nat → ClassId) (dI : Nat → Nat → Nat)   (sz : Nat) (x0 : Int32) (x1 : Int32)   (hF : F_PF_demandIndex x0 x1 = some (0, ())) : Met l y_PF_demandIndex ws_PF_demandIndex rm_PF_demandIndex (bw_Pc [.int x0, .int x1] (dC, dI) vwCl (tyA ct) [] sz nx) (bw_QR none) 0 0 (fun _ => False) := by
  refine Met.ofW (cc := b_PF_demandIndex) (maxL := 2) (ret := (none : Option Jvm.ClassFile.FieldType)) (by decide) rfl ?_
  intro p e s m args below meth c s₁ B hml hv
  obtain ⟨rfl, hsz, hP, hK, hN0, hnx⟩ := hv
  have hx := B.exec
  have hb := B.bytes
  have hr := B.returns
  have hts : ∀ w ∈ wsAll, w.before [.int x0, .int x1].toArray s = true := fun w h9 => atoms_spec (ws := ws_PF_demandIndex) B.pre w (List.mem_cons_of_mem _ h9)
  have hown : s.vm.findClass R_PF = some m.cls := findClass_of_methodNamed B.named
  have hlocks := B.notSynchronized
  subst hsz
  have hN : bw_N (fun _ => True) [] := hN0
  generalize hAe : (fun _ : Nat => True) = A at hN
  have hA : ∀ q : Nat, s.heap.size ≤ q → A q := fun q _ => by rw [← hAe]; trivial
  have hS : s.heap = s.heap ∧ ([] : List Loc) = [] := ⟨rfl, rfl⟩
  have hl := lv_entry ([.int x0, .int x1]) (n := 2) (Nat.le_of_ble_eq_true rfl)
  rw [lg_entry_eq]
  generalize (lg_sl ([.int x0, .int x1]) ++ List.replicate (2 - (lg_sl ([.int x0, .int x1])).length) Slot.unset).toArray = ls at hl ⊢
  have hl : lv_has ls 2 [(0, .int x0), (1, .int x1)] := hl
  have C0 : cx wsAll vwCl nx p s m [.int x0, .int x1].toArray meth c (dC, dI) (tyA ct) b_PF_demandIndex 2 (none : Option Jvm.ClassFile.FieldType) R_PF A [] := ⟨hx, hb, hr, hml, hown, hlocks, hts, hK, hN, hA, hnx⟩
  have h := hF
  rw [F_PF_demandIndex] at h
  refine lv_iload_n hx hb d_PF_demandIndex_0 rfl (lv_at hl 0 rfl) ?_
  refine lv_if_lt (tgt := 9) hx hb d_PF_demandIndex_1 (by decide) (fun c1 => ?_) (fun c1 => ?_)
  · have h := ite_t c1 h
    exact (thr_ne h).elim
  · have h := ite_f c1 h
    refine lv_iload_n hx hb d_PF_demandIndex_4 rfl (lv_at hl 0 rfl) ?_
    refine lv_iload_n hx hb d_PF_demandIndex_5 rfl (lv_at hl 1 rfl) ?_
    refine lv_icmp_lt (tgt := 19) hx hb d_PF_demandIndex_6 (by decide) (fun c2 => ?_) (fun c2 => ?_)
    · have h := ite_t c2 h
      have h := pln_some h
      exact W.vret hx hb hr (fun t ht hW => ⟨rfl, ht.trans hS.1⟩) (bw_nil hS.2) d_PF_demandIndex_19
    · have h := ite_f c2 h
      exact (thr_ne h).elim
abbrev rmx_PF_demandIndex : Room := { frames := 6, cells := 1, slots := 6, locals := 100 }
set_option maxHeartbeats 4000000 in
set_option maxRecDepth 100000 in
theorem x_PF_demandIndex (l : Launch) (hl0 : l.stackTraces = false) (ct dC : Nat → ClassId) (dI : Nat → Nat → Nat)   (sz : Nat) (x0 : Int32) (x1 : Int32)  (k : Nat)  (hF : F_PF_demandIndex x0 x1 = some (k, ())) (hk : ¬ k = 0) : MetT l y_PF_demandIndex ws_PF_demandIndex rmx_PF_demandIndex (bw_Pc [.int x0, .int x1] (dC, dI) vwCl (tyA ct) [] sz thn) (bt_Q (exN k)) 1 6 := by
  refine MetT.ofW (cc := b_PF_demandIndex) (maxL := 2) (ret := (none : Option Jvm.ClassFile.FieldType)) (by decide) rfl ?_
  intro p e s m args below meth c s₁ B hml hv
  obtain ⟨rfl, hsz, hP, hK, hN0, hnx, hth⟩ := hv
  have hx := B.exec
  have hb := B.bytes
  have hr := B.returns
  have hts : ∀ w ∈ wsAll, w.before [.int x0, .int x1].toArray s = true := fun w h9 => atoms_spec (ws := ws_PF_demandIndex) B.pre w (List.mem_cons_of_mem _ h9)
  have hex : c.exceptionTable.isEmpty = true := B.noHandlers (atoms_spec (ws := ws_PF_demandIndex) B.pre _ List.mem_cons_self)
  have hown : s.vm.findClass R_PF = some m.cls := findClass_of_methodNamed B.named
  have hlocks := B.notSynchronized
  subst hsz
  have hN : bw_N (fun _ => True) [] := hN0
  have hS : s.heap = s.heap ∧ ([] : List Loc) = [] := ⟨rfl, rfl⟩
  have hl := lv_entry ([.int x0, .int x1]) (n := 2) (Nat.le_of_ble_eq_true rfl)
  rw [lg_entry_eq]
  generalize (lg_sl ([.int x0, .int x1]) ++ List.replicate (2 - (lg_sl ([.int x0, .int x1])).length) Slot.unset).toArray = ls at hl ⊢
  have hl : lv_has ls 2 [(0, .int x0), (1, .int x1)] := hl
  have h := hF
  rw [F_PF_demandIndex] at h
  refine lv_iload_n hx hb d_PF_demandIndex_0 rfl (lv_at hl 0 rfl) ?_
  refine lv_if_lt (tgt := 9) hx hb d_PF_demandIndex_1 (by decide) (fun c1 => ?_) (fun c1 => ?_)
  · have h := ite_t c1 h
    have e9 := (res2 h).1
    rw [e9]
    obtain ⟨q9, hq9⟩ := thx_s6 hth
    exact bt_throw hx hb hl0 hown (by decide) (by decide) (at_3 hts hth) (hts _ cl_PF_190) (hts _ ins_IndexOutOfBoundsException) (hts _ ini_IndexOutOfBoundsException) hq9 d_PF_demandIndex_9 d_PF_demandIndex_12 d_PF_demandIndex_13 d_PF_demandIndex_15 d_PF_demandIndex_18 hex (hl.1.trans hml.symm) hlocks (Nat.le_of_ble_eq_true rfl) (Nat.le_of_ble_eq_true rfl) (Nat.le_of_ble_eq_true rfl) (Nat.le_of_ble_eq_true rfl)
  · have h := ite_f c1 h
    refine lv_iload_n hx hb d_PF_demandIndex_4 rfl (lv_at hl 0 rfl) ?_
    refine lv_iload_n hx hb d_PF_demandIndex_5 rfl (lv_at hl 1 rfl) ?_
    refine lv_icmp_lt (tgt := 19) hx hb d_PF_demandIndex_6 (by decide) (fun c2 => ?_) (fun c2 => ?_)
    · have h := ite_t c2 h
      exact absurd (pln_0 h) hk
    · have h := ite_f c2 h
      have e9 := (res2 h).1
      rw [e9]
      obtain ⟨q9, hq9⟩ := thx_s6 hth
      exact bt_throw hx hb hl0 hown (by decide) (by decide) (at_3 hts hth) (hts _ cl_PF_190) (hts _ ins_IndexOutOfBoundsException) (hts _ ini_IndexOutOfBoundsException) hq9 d_PF_demandIndex_9 d_PF_demandIndex_12 d_PF_demandIndex_13 d_PF_demandIndex_15 d_PF_demandIndex_18 hex (hl.1.trans hml.symm) hlocks (Nat.le_of_ble_eq_true rfl) (Nat.le_of_ble_eq_true rfl) (Nat.le_of_ble_eq_true rfl) (Nat.le_of_ble_eq_true rfl)
theorem g_PF_85 : GoodIn wsAll (wsS R_PF 85 y_PF_demandIndex ws_PF_demandIndex) := gd_S ml_PF_85 st_PF_demandIndex ini_PF cd_PF_demandIndex
theorem g_PF_100 : GoodIn wsAll (wsV R_PF 100 R_Reckoner y_Reckoner_changeOption ws_Reckoner_changeOption) := gd_V ml_PF_100 im_Reckoner_changeOption se_Reckoner_changeOption ini_Reckoner cd_Reckoner_changeOption
theorem g_PF_104 : GoodIn wsAll (wsV R_PF 104 R_Reckoner y_Reckoner_workOutHanging ws_Reckoner_workOutHanging) := gd_V ml_PF_104 im_Reckoner_workOutHanging se_Reckoner_workOutHanging ini_Reckoner cd_Reckoner_workOutHanging
def F_PF_set (x1 : Int32) (x2 : Int64) (x4 : Int64) (o0 o1 o2 o3 o4 : Ob) : Option (Nat × Bool × Ob × Ob × Ob) :=
  bind2 (F_PF_demandIndex x1 (8 : Int32)) (fun k_2 u_3 => if k_2 = 0 then (if (lg_cmp x4 (1 : Int64)) < 0 then (some (2, (false, o0, o1, o2))) else (if 0 < (lg_cmp x4 (1000000000 : Int64)) then (some (2, (false, o0, o1, o2))) else (if 0 < (lg_cmp x2 (1000000000 : Int64)) then (some (2, (false, o0, o1, o2))) else (if 0 ≤ (lg_cmp x2 (-1000000000 : Int64)) then (pln (bind2 (F_Reckoner_changeOption x1 x2 x4 o2) (fun v10 o_11 => if (b2i v10) = 0 then (some (v10, o0, o1, o_11)) else (if (g32 o0 3 0) = 0 then (some (v10, o0, o1, o_11)) else (bind3 (F_Reckoner_workOutHanging x1 o_11 o3 o4 o1) (fun v15 o_16 o_17 => some (v10, (s64 o0 9 0 ((g64 o0 9 0) + (Int32.toInt64 v15))), o_17, o_16))))))) else (some (2, (false, o0, o1, o2))))))) else (some (k_2, (false, o0, o1, o2))))
abbrev ws_PF_set : List Cond := Cond.code y_PF_set b_PF_set 7 (some .boolean) :: wsAll
abbrev rm_PF_set : Room := { frames := 7, cells := 0, slots := 0, locals := 197 }
set_option maxHeartbeats 4000000 in
set_option maxRecDepth 100000 in
theorem c_PF_set (l : Launch) (ct dC : Nat → ClassId) (dI : Nat → Nat → Nat) (a0 a1 a2 a3 a4 : Nat → Nat) (r0_0 : Nat) (r0_6 : Nat) (v0 : Nat → Nat) (sz : Nat) (x1 : Int32) (x2 : Int64) (x4 : Int64) (o0 o1 o2 o3 o4 : Ob) (r : Bool) (n0 n1 n2 : Ob) (hF : F_PF_set x1 x2 x4 o0 o1 o2 o3 o4 = some (0, (r, n0, n1, n2))) : Met l y_PF_set ws_PF_set rm_PF_set (bw_Pc [.ref (a0 0), .int x1, .long x2, .long x4] (dC, dI) vwCl (tyA ct) [wPF ct a0 r0_0 (a3 0) (a2 0) (a1 0) r0_6 v0 o0, wCells ct a1 o1, wReckoner ct a2 o2, wText ct a3 (a4 0) o3, wSteps ct a4 o4] sz nx) (bw_Q (dC, dI) vwCl (some (.int (b2i r))) [wPF ct a0 r0_0 (a3 0) (a2 0) (a1 0) r0_6 v0 n0, wCells ct a1 n1, wReckoner ct a2 n2, wText ct a3 (a4 0) o3, wSteps ct a4 o4] (bw_A [adPF a0, adCells a1, adReckoner a2, adText a3, adSteps a4] sz)) 0 0 (bw_A [adPF a0, adCells a1, adReckoner a2, adText a3, adSteps a4] sz) := by
  refine Met.ofW (cc := b_PF_set) (maxL := 7) (ret := (some .boolean)) (by decide) rfl ?_
  intro p e s m args below meth c s₁ B hml hv
  obtain ⟨rfl, hsz, hP, hK, hN0, hnx⟩ := hv
  have hx := B.exec
  have hb := B.bytes
  have hr := B.returns
  have hts : ∀ w ∈ wsAll, w.before [.ref (a0 0), .int x1, .long x2, .long x4].toArray s = true := fun w h9 => atoms_spec (ws := ws_PF_set) B.pre w (List.mem_cons_of_mem _ h9)
  have hown : s.vm.findClass R_PF = some m.cls := findClass_of_methodNamed B.named
  have hlocks := B.notSynchronized
  subst hsz
  have hN : bw_N (bw_A [adPF a0, adCells a1, adReckoner a2, adText a3, adSteps a4] s.heap.size) [adPF a0, adCells a1, adReckoner a2, adText a3, adSteps a4] := hN0.self s.heap.size
  generalize hAe : bw_A [adPF a0, adCells a1, adReckoner a2, adText a3, adSteps a4] s.heap.size = A at hN ⊢
  have hA : ∀ q : Nat, s.heap.size ≤ q → A q := fun q h => by rw [← hAe]; exact Or.inr h
  have hS : va_S A s.heap s.heap [] := va_S.rf
  have hl := lv_entry ([.ref (a0 0), .int x1, .long x2, .long x4]) (n := 7) (Nat.le_of_ble_eq_true rfl)
  rw [lg_entry_eq]
  generalize (lg_sl ([.ref (a0 0), .int x1, .long x2, .long x4]) ++ List.replicate (7 - (lg_sl ([.ref (a0 0), .int x1, .long x2, .long x4])).length) Slot.unset).toArray = ls at hl ⊢
  have hl : lv_has ls 7 [(0, .ref (a0 0)), (1, .int x1), (2, .long x2), (4, .long x4)] := hl
  have C0 : cx wsAll vwCl nx p s m [.ref (a0 0), .int x1, .long x2, .long x4].toArray meth c (dC, dI) (tyA ct) b_PF_set 7 (some .boolean) R_PF A [adPF a0, adCells a1, adReckoner a2, adText a3, adSteps a4] := ⟨hx, hb, hr, hml, hown, hlocks, hts, hK, hN, hA, hnx⟩
  have h := hF
  rw [F_PF_set] at h
  refine lv_iload_n hx hb d_PF_set_0 rfl (lv_at hl 1 rfl) ?_
  refine lv_bipush (v := 8) hx hb d_PF_set_1 (by decide) ?_
  obtain ⟨k_2, u_3, hG1, h⟩ := bind2_some h
  by_cases hk4 : k_2 = 0
  · subst hk4
    have h := ite_t rfl h
    refine bw_callR (va_runS (As := [.int x1, .int (8 : Int32)]) (rest := []) ⟨hx, hb, hml, hown, hts⟩ (c_PF_demandIndex l ct dC dI _ x1 (8 : Int32) hG1) (cwS 2 hts g_PF_85 rfl rfl rfl (by decide +kernel) ⟨Nat.le_of_ble_eq_true rfl, Nat.le_of_ble_eq_true rfl⟩) ⟨bw_blind nx_call, fun U hU hW => ⟨rfl, by rw [hU], by rw [hU]; exact hP.sub [] rfl, va_K.moved hW.alike hK, (hN.sub [] (by decide) rfl).weaken (fun _ _ => trivial), nx_warm hW hnx⟩⟩ rfl rfl hl.1 rfl (Nat.le_of_ble_eq_true rfl) d_PF_set_3 ⟨Nat.le_of_ble_eq_true rfl, Nat.le_of_ble_eq_true rfl⟩) ?_
    refine lv_lload hx hb d_PF_set_6 (lv_at hl 3 rfl) ?_
    refine lv_lconst (v := 1) hx hb d_PF_set_8 (by decide) ?_
    refine W.lcmp hx hb d_PF_set_9 ?_
    refine lv_if_lt (tgt := 38) hx hb d_PF_set_10 (by decide) (fun c5 => ?_) (fun c5 => ?_)
    · have h := ite_t c5 h
      exact (thr_ne h).elim
    · have h := ite_f c5 h
      refine lv_lload hx hb d_PF_set_13 (lv_at hl 3 rfl) ?_
      refine lv_ldc2 (v := 1000000000) hx hb hown (hts _ cn_PF_89) d_PF_set_15 ?_
      refine W.lcmp hx hb d_PF_set_18 ?_
      refine lv_if_gt (tgt := 38) hx hb d_PF_set_19 (by decide) (fun c6 => ?_) (fun c6 => ?_)
      · have h := ite_t c6 h
        exact (thr_ne h).elim
      · have h := ite_f c6 h
        refine lv_lload_n hx hb d_PF_set_22 rfl (lv_at hl 2 rfl) ?_
        refine lv_ldc2 (v := 1000000000) hx hb hown (hts _ cn_PF_89) d_PF_set_23 ?_
        refine W.lcmp hx hb d_PF_set_26 ?_
        refine lv_if_gt (tgt := 38) hx hb d_PF_set_27 (by decide) (fun c7 => ?_) (fun c7 => ?_)
        · have h := ite_t c7 h
          exact (thr_ne h).elim
        · have h := ite_f c7 h
          refine lv_lload_n hx hb d_PF_set_30 rfl (lv_at hl 2 rfl) ?_
          refine lv_ldc2 (v := -1000000000) hx hb hown (hts _ cn_PF_91) d_PF_set_31 ?_
          refine W.lcmp hx hb d_PF_set_34 ?_
          refine lv_if_ge (tgt := 48) hx hb d_PF_set_35 (by decide) (fun c8 => ?_) (fun c8 => ?_)
          · have h := ite_t c8 h
            have h := pln_some h
            refine lv_aload_n hx hb d_PF_set_48 rfl (lv_at hl 0 rfl) ?_
            refine va_get (D := (dC, dI)) (ci := 5) (v := .ref (a2 0)) (C := R_PF) (T := T_PF) (N := 10) hx hb hts in_PF hown hK (hP 0 _ rfl) 0 rfl rfl 4 (by decide) (hts _ fl_PF_33) (fun _ h9 => h9) rfl d_PF_set_49 ?_
            refine lv_iload_n hx hb d_PF_set_52 rfl (lv_at hl 1 rfl) ?_
            refine lv_lload_n hx hb d_PF_set_53 rfl (lv_at hl 2 rfl) ?_
            refine lv_lload hx hb d_PF_set_54 (lv_at hl 3 rfl) ?_
            obtain ⟨v10, o_11, hG9, h⟩ := bind2_some h
            refine bw_call (Lc := [wReckoner ct a2 o2]) (Lc' := [wReckoner ct a2 o_11]) (L' := [wPF ct a0 r0_0 (a3 0) (a2 0) (a1 0) r0_6 v0 o0, wCells ct a1 o1, wReckoner ct a2 o_11, wText ct a3 (a4 0) o3, wSteps ct a4 o4]) [2] (va_runV (As := [.int x1, .long x2, .long x4]) (rest := []) ⟨hx, hb, hml, hown, hts⟩ (c_Reckoner_changeOption l ct dC dI a2 _ x1 x2 x4 o2 v10 o_11 hG9) (cwV 3 hts g_PF_100 rfl rfl rfl (by decide +kernel) ⟨Nat.le_of_ble_eq_true rfl, Nat.le_of_ble_eq_true rfl⟩) ⟨bw_blind nx_call, va_recv hK (hP 2 _ rfl) (ci := 4) (q0 := 0) rfl rfl, fun U hU hW => ⟨rfl, by rw [hU], by rw [hU]; exact hP.sub [2] rfl, va_K.moved hW.alike hK, (hN.sub [2] (by decide) rfl).weaken (fun _ _ => trivial), nx_warm hW hnx⟩⟩ rfl rfl hl.1 rfl (Nat.le_of_ble_eq_true rfl) d_PF_set_56 ⟨Nat.le_of_ble_eq_true rfl, Nat.le_of_ble_eq_true rfl⟩) hP hN hS hA rfl rfl rfl (fun H locs hP hS => ?_)
            refine lv_istore (lv' := [(6, .int (b2i v10)), (0, .ref (a0 0)), (1, .int x1), (2, .long x2), (4, .long x4)]) hx hb d_PF_set_59 hl (by decide) rfl (fun ls hl => ?_)
            refine lv_iload hx hb d_PF_set_61 (lv_at hl 0 rfl) ?_
            refine lv_if_eq (tgt := 99) hx hb d_PF_set_63 (by decide) (fun c12 => ?_) (fun c12 => ?_)
            · have h := ite_t c12 h
              refine lv_iload hx hb d_PF_set_99 (lv_at hl 0 rfl) ?_
              obtain ⟨rfl, rfl, rfl, rfl⟩ := res4 h
              exact W.zret hx hb hr (b2i_nar _) (fun t ht hW => ⟨rfl, by rw [ht]; exact hP, hS.F ht⟩) hS.2.2 d_PF_set_101
            · have h := ite_f c12 h
              refine lv_aload_n hx hb d_PF_set_66 rfl (lv_at hl 1 rfl) ?_
              refine va_get (D := (dC, dI)) (ci := 5) (v := .int (g32 o0 3 0)) (C := R_PF) (T := T_PF) (N := 10) hx hb hts in_PF hown hK (hP 0 _ rfl) 0 rfl rfl 3 (by decide) (hts _ fl_PF_27) (fun _ h9 => h9) rfl d_PF_set_67 ?_
              refine lv_if_eq (tgt := 99) hx hb d_PF_set_70 (by decide) (fun c13 => ?_) (fun c13 => ?_)
              · have h := ite_t c13 h
                refine lv_iload hx hb d_PF_set_99 (lv_at hl 0 rfl) ?_
                obtain ⟨rfl, rfl, rfl, rfl⟩ := res4 h
                exact W.zret hx hb hr (b2i_nar _) (fun t ht hW => ⟨rfl, by rw [ht]; exact hP, hS.F ht⟩) hS.2.2 d_PF_set_101
              · have h := ite_f c13 h
                refine lv_aload_n hx hb d_PF_set_73 rfl (lv_at hl 1 rfl) ?_
                refine lv_dup hx hb d_PF_set_74 rfl ?_
                refine va_get (D := (dC, dI)) (ci := 5) (v := .long (g64 o0 9 0)) (C := R_PF) (T := T_PF) (N := 10) hx hb hts in_PF hown hK (hP 0 _ rfl) 0 rfl rfl 9 (by decide) (hts _ fl_PF_55) (fun _ h9 => h9) rfl d_PF_set_75 ?_
                refine lv_aload_n hx hb d_PF_set_78 rfl (lv_at hl 1 rfl) ?_
                refine va_get (D := (dC, dI)) (ci := 5) (v := .ref (a2 0)) (C := R_PF) (T := T_PF) (N := 10) hx hb hts in_PF hown hK (hP 0 _ rfl) 0 rfl rfl 4 (by decide) (hts _ fl_PF_33) (fun _ h9 => h9) rfl d_PF_set_79 ?_
                refine lv_aload_n hx hb d_PF_set_82 rfl (lv_at hl 1 rfl) ?_
                refine va_get (D := (dC, dI)) (ci := 5) (v := .ref (a3 0)) (C := R_PF) (T := T_PF) (N := 10) hx hb hts in_PF hown hK (hP 0 _ rfl) 0 rfl rfl 1 (by decide) (hts _ fl_PF_19) (fun _ h9 => h9) rfl d_PF_set_83 ?_
                refine lv_iload_n hx hb d_PF_set_86 rfl (lv_at hl 2 rfl) ?_
                refine lv_aload_n hx hb d_PF_set_87 rfl (lv_at hl 1 rfl) ?_
                refine va_get (D := (dC, dI)) (ci := 5) (v := .ref (a1 0)) (C := R_PF) (T := T_PF) (N := 10) hx hb hts in_PF hown hK (hP 0 _ rfl) 0 rfl rfl 5 (by decide) (hts _ fl_PF_40) (fun _ h9 => h9) rfl d_PF_set_88 ?_
                obtain ⟨v15, o_16, o_17, hG14, h⟩ := bind3_some h
                refine bw_call (Lc := [wReckoner ct a2 o_11, wText ct a3 (a4 0) o3, wSteps ct a4 o4, wCells ct a1 o1]) (Lc' := [wReckoner ct a2 o_16, wText ct a3 (a4 0) o3, wSteps ct a4 o4, wCells ct a1 o_17]) (L' := [wPF ct a0 r0_0 (a3 0) (a2 0) (a1 0) r0_6 v0 o0, wCells ct a1 o_17, wReckoner ct a2 o_16, wText ct a3 (a4 0) o3, wSteps ct a4 o4]) [2, 3, 4, 1] (va_runV (As := [.ref (a3 0), .int x1, .ref (a1 0)]) (rest := [.long (g64 o0 9 0), .ref (a0 0)]) ⟨hx, hb, hml, hown, hts⟩ (c_Reckoner_workOutHanging l ct dC dI a2 a3 a4 a1 _ x1 o_11 o3 o4 o1 v15 o_16 o_17 hG14) (cwV 3 hts g_PF_104 rfl rfl rfl (by decide +kernel) ⟨Nat.le_of_ble_eq_true rfl, Nat.le_of_ble_eq_true rfl⟩) ⟨bw_blind nx_call, va_recv hK (hP 2 _ rfl) (ci := 4) (q0 := 0) rfl rfl, fun U hU hW => ⟨rfl, by rw [hU], by rw [hU]; exact hP.sub [2, 3, 4, 1] rfl, va_K.moved hW.alike hK, (hN.sub [2, 3, 4, 1] (by decide) rfl).weaken (fun _ _ => trivial), nx_warm hW hnx⟩⟩ rfl rfl hl.1 rfl (Nat.le_of_ble_eq_true rfl) d_PF_set_91 ⟨Nat.le_of_ble_eq_true rfl, Nat.le_of_ble_eq_true rfl⟩) hP hN hS hA rfl rfl rfl (fun H locs hP hS => ?_)
                refine lv_i2l (v := (Int32.toInt64 v15)) hx hb d_PF_set_94 rfl ?_
                refine lv_ladd hx hb d_PF_set_95 ?_
                refine pt_PF_9 hx hb hts hown hK hP hN hS 0 rfl (hts _ fl_PF_55) d_PF_set_96 (fun H locs hP hS => ?_)
                have hP : bw_P (dC, dI) vwCl [wPF ct a0 r0_0 (a3 0) (a2 0) (a1 0) r0_6 v0 (s64 o0 9 0 ((g64 o0 9 0) + (Int32.toInt64 v15))), wCells ct a1 o_17, wReckoner ct a2 o_16, wText ct a3 (a4 0) o3, wSteps ct a4 o4] H := hP
                refine lv_iload hx hb d_PF_set_99 (lv_at hl 0 rfl) ?_
                obtain ⟨rfl, rfl, rfl, rfl⟩ := res4 h
                exact W.zret hx hb hr (b2i_nar _) (fun t ht hW => ⟨rfl, by rw [ht]; exact hP, hS.F ht⟩) hS.2.2 d_PF_set_101
          · have h := ite_f c8 h
            exact (thr_ne h).elim
  · have h := ite_f hk4 h
    exact absurd (thr_eq h) hk4
abbrev rmx_PF_set : Room := { frames := 7, cells := 1, slots := 6, locals := 197 }
set_option maxHeartbeats 4000000 in
set_option maxRecDepth 100000 in
theorem x_PF_set (l : Launch) (hl0 : l.stackTraces = false) (ct dC : Nat → ClassId) (dI : Nat → Nat → Nat) (a0 a1 a2 a3 a4 : Nat → Nat) (r0_0 : Nat) (r0_6 : Nat) (v0 : Nat → Nat) (sz : Nat) (x1 : Int32) (x2 : Int64) (x4 : Int64) (o0 o1 o2 o3 o4 : Ob) (k : Nat) (r : Bool) (n0 n1 n2 : Ob) (hF : F_PF_set x1 x2 x4 o0 o1 o2 o3 o4 = some (k, (r, n0, n1, n2))) (hk : ¬ k = 0) : MetT l y_PF_set ws_PF_set rmx_PF_set (bw_Pc [.ref (a0 0), .int x1, .long x2, .long x4] (dC, dI) vwCl (tyA ct) [wPF ct a0 r0_0 (a3 0) (a2 0) (a1 0) r0_6 v0 o0, wCells ct a1 o1, wReckoner ct a2 o2, wText ct a3 (a4 0) o3, wSteps ct a4 o4] sz thn) (bt_Q (exN k)) 1 6 := by
  refine MetT.ofW (cc := b_PF_set) (maxL := 7) (ret := (some .boolean)) (by decide) rfl ?_
  intro p e s m args below meth c s₁ B hml hv
  obtain ⟨rfl, hsz, hP, hK, hN0, hnx, hth⟩ := hv
  have hx := B.exec
  have hb := B.bytes
  have hr := B.returns
  have hts : ∀ w ∈ wsAll, w.before [.ref (a0 0), .int x1, .long x2, .long x4].toArray s = true := fun w h9 => atoms_spec (ws := ws_PF_set) B.pre w (List.mem_cons_of_mem _ h9)
  have hex : c.exceptionTable.isEmpty = true := B.noHandlers (atoms_spec (ws := ws_PF_set) B.pre _ List.mem_cons_self)
  have hown : s.vm.findClass R_PF = some m.cls := findClass_of_methodNamed B.named
  have hlocks := B.notSynchronized
  subst hsz
  have hN : bw_N (fun _ => True) [adPF a0, adCells a1, adReckoner a2, adText a3, adSteps a4] := hN0
  have hS : s.heap = s.heap ∧ ([] : List Loc) = [] := ⟨rfl, rfl⟩
  have hl := lv_entry ([.ref (a0 0), .int x1, .long x2, .long x4]) (n := 7) (Nat.le_of_ble_eq_true rfl)
  rw [lg_entry_eq]
  generalize (lg_sl ([.ref (a0 0), .int x1, .long x2, .long x4]) ++ List.replicate (7 - (lg_sl ([.ref (a0 0), .int x1, .long x2, .long x4])).length) Slot.unset).toArray = ls at hl ⊢
  have hl : lv_has ls 7 [(0, .ref (a0 0)), (1, .int x1), (2, .long x2), (4, .long x4)] := hl
  have h := hF
  rw [F_PF_set] at h
  refine lv_iload_n hx hb d_PF_set_0 rfl (lv_at hl 1 rfl) ?_
  refine lv_bipush (v := 8) hx hb d_PF_set_1 (by decide) ?_
  obtain ⟨k_2, u_3, hG1, h⟩ := bind2_some h
  by_cases hk4 : k_2 = 0
  · subst hk4
    have h := ite_t rfl h
    refine bw_callR (va_runS (As := [.int x1, .int (8 : Int32)]) (rest := []) ⟨hx, hb, hml, hown, hts⟩ (c_PF_demandIndex l ct dC dI _ x1 (8 : Int32) hG1) (cwS 2 hts g_PF_85 rfl rfl rfl (by decide +kernel) ⟨Nat.le_of_ble_eq_true rfl, Nat.le_of_ble_eq_true rfl⟩) ⟨bw_blind nx_call, fun U hU hW => ⟨rfl, by rw [hU], by rw [hU]; exact hP.sub [] rfl, va_K.moved hW.alike hK, (hN.sub [] (by decide) rfl).weaken (fun _ _ => trivial), nx_warm hW hnx⟩⟩ rfl rfl hl.1 rfl (Nat.le_of_ble_eq_true rfl) d_PF_set_3 ⟨Nat.le_of_ble_eq_true rfl, Nat.le_of_ble_eq_true rfl⟩) ?_
    refine lv_lload hx hb d_PF_set_6 (lv_at hl 3 rfl) ?_
    refine lv_lconst (v := 1) hx hb d_PF_set_8 (by decide) ?_
    refine W.lcmp hx hb d_PF_set_9 ?_
    refine lv_if_lt (tgt := 38) hx hb d_PF_set_10 (by decide) (fun c5 => ?_) (fun c5 => ?_)
    · have h := ite_t c5 h
      have e9 := (res2 h).1
      rw [e9]
      obtain ⟨q9, hq9⟩ := thx_s0 hth
      exact bt_throw hx hb hl0 hown (by decide) (by decide) (at_2 hts hth) (hts _ cl_PF_93) (hts _ ins_IllegalArgumentException) (hts _ ini_IllegalArgumentException) hq9 d_PF_set_38 d_PF_set_41 d_PF_set_42 d_PF_set_44 d_PF_set_47 hex (hl.1.trans hml.symm) hlocks (Nat.le_of_ble_eq_true rfl) (Nat.le_of_ble_eq_true rfl) (Nat.le_of_ble_eq_true rfl) (Nat.le_of_ble_eq_true rfl)
    · have h := ite_f c5 h
      refine lv_lload hx hb d_PF_set_13 (lv_at hl 3 rfl) ?_
      refine lv_ldc2 (v := 1000000000) hx hb hown (hts _ cn_PF_89) d_PF_set_15 ?_
      refine W.lcmp hx hb d_PF_set_18 ?_
      refine lv_if_gt (tgt := 38) hx hb d_PF_set_19 (by decide) (fun c6 => ?_) (fun c6 => ?_)
      · have h := ite_t c6 h
        have e9 := (res2 h).1
        rw [e9]
        obtain ⟨q9, hq9⟩ := thx_s0 hth
        exact bt_throw hx hb hl0 hown (by decide) (by decide) (at_2 hts hth) (hts _ cl_PF_93) (hts _ ins_IllegalArgumentException) (hts _ ini_IllegalArgumentException) hq9 d_PF_set_38 d_PF_set_41 d_PF_set_42 d_PF_set_44 d_PF_set_47 hex (hl.1.trans hml.symm) hlocks (Nat.le_of_ble_eq_true rfl) (Nat.le_of_ble_eq_true rfl) (Nat.le_of_ble_eq_true rfl) (Nat.le_of_ble_eq_true rfl)
      · have h := ite_f c6 h
        refine lv_lload_n hx hb d_PF_set_22 rfl (lv_at hl 2 rfl) ?_
        refine lv_ldc2 (v := 1000000000) hx hb hown (hts _ cn_PF_89) d_PF_set_23 ?_
        refine W.lcmp hx hb d_PF_set_26 ?_
        refine lv_if_gt (tgt := 38) hx hb d_PF_set_27 (by decide) (fun c7 => ?_) (fun c7 => ?_)
        · have h := ite_t c7 h
          have e9 := (res2 h).1
          rw [e9]
          obtain ⟨q9, hq9⟩ := thx_s0 hth
          exact bt_throw hx hb hl0 hown (by decide) (by decide) (at_2 hts hth) (hts _ cl_PF_93) (hts _ ins_IllegalArgumentException) (hts _ ini_IllegalArgumentException) hq9 d_PF_set_38 d_PF_set_41 d_PF_set_42 d_PF_set_44 d_PF_set_47 hex (hl.1.trans hml.symm) hlocks (Nat.le_of_ble_eq_true rfl) (Nat.le_of_ble_eq_true rfl) (Nat.le_of_ble_eq_true rfl) (Nat.le_of_ble_eq_true rfl)
        · have h := ite_f c7 h
          refine lv_lload_n hx hb d_PF_set_30 rfl (lv_at hl 2 rfl) ?_
          refine lv_ldc2 (v := -1000000000) hx hb hown (hts _ cn_PF_91) d_PF_set_31 ?_
          refine W.lcmp hx hb d_PF_set_34 ?_
          refine lv_if_ge (tgt := 48) hx hb d_PF_set_35 (by decide) (fun c8 => ?_) (fun c8 => ?_)
          · have h := ite_t c8 h
            exact absurd (pln_0 h) hk
          · have h := ite_f c8 h
            have e9 := (res2 h).1
            rw [e9]
            obtain ⟨q9, hq9⟩ := thx_s0 hth
            exact bt_throw hx hb hl0 hown (by decide) (by decide) (at_2 hts hth) (hts _ cl_PF_93) (hts _ ins_IllegalArgumentException) (hts _ ini_IllegalArgumentException) hq9 d_PF_set_38 d_PF_set_41 d_PF_set_42 d_PF_set_44 d_PF_set_47 hex (hl.1.trans hml.symm) hlocks (Nat.le_of_ble_eq_true rfl) (Nat.le_of_ble_eq_true rfl) (Nat.le_of_ble_eq_true rfl) (Nat.le_of_ble_eq_true rfl)
  · have h := ite_f hk4 h
    have e9 := (res2 h).1
    rw [e9]
    exact bt_outS (As := [.int x1, .int (8 : Int32)]) (rest := []) ⟨hx, hb, hml, hown, hts⟩ (x_PF_demandIndex l hl0 ct dC dI _ x1 (8 : Int32) k_2 hG1 hk4) (cwS 2 hts g_PF_85 rfl rfl rfl (by decide +kernel) ⟨Nat.le_of_ble_eq_true rfl, Nat.le_of_ble_eq_true rfl⟩) ⟨bw_blind thx_call, fun U hU hW => ⟨rfl, by rw [hU], by rw [hU]; exact hP.sub [] rfl, va_K.moved hW.alike hK, (hN.sub [] (by decide) rfl).weaken (fun _ _ => trivial), ⟨nx_warm hW hnx, thx_warm hW hU hth⟩⟩⟩ rfl hl.1 rfl (Nat.le_of_ble_eq_true rfl) d_PF_set_3 hex hlocks ⟨Nat.le_of_ble_eq_true rfl, Nat.le_of_ble_eq_true rfl⟩
theorem g_PF_108 : GoodIn wsAll (wsV R_PF 108 R_Reckoner y_Reckoner_workOutAll ws_Reckoner_workOutAll) := gd_V ml_PF_108 im_Reckoner_workOutAll se_Reckoner_workOutAll ini_Reckoner cd_Reckoner_workOutAll
def F_PF_run_43 (o3 o4 : Ob)  : Nat → Int32 → Ob → Ob → Ob → Option (Int32 × Ob × Ob × Ob)
  | 0, _, _, _, _ => none
  | n + 1, x1, o0, o1, o2 =>
    if (g32 o3 3 0) ≤ x1 then (some ((0 : Int32), o0, o1, o2)) else (chk (inb x1 24) (if (g32 o3 4 (Int32.toNatClampNeg x1)) = (-1 : Int32) then (F_PF_run_43 o3 o4 n (x1 + (1 : Int32)) o0 o1 o2) else (chk (inb (g32 o3 4 (Int32.toNatClampNeg x1)) 60) (if (g32 o1 0 (Int32.toNatClampNeg (g32 o3 4 (Int32.toNatClampNeg x1)))) = (1 : Int32) then (F_PF_run_43 o3 o4 n (x1 + (1 : Int32)) o0 o1 o2) else (some (((1 : Int32) + x1), o0, o1, o2))))))
def F_PF_run  (o0 o1 o2 o3 o4 : Ob) : Option (Nat × Int32 × Ob × Ob × Ob) :=
  bind2 (F_PF_demandRead o0) (fun k_2 u_3 => if k_2 = 0 then (pln (bind2 (F_Reckoner_workOutAll o2 o3 o4 o1) (fun o_6 o_7 => F_PF_run_43 o3 o4 fuel (0 : Int32) (s64 (s32 o0 3 0 (1 : Int32)) 9 0 ((g64 o0 9 0) + (Int32.toInt64 (g32 o3 11 0)))) o_7 o_6))) else (some (k_2, ((0 : Int32), o0, o1, o2))))
abbrev ws_PF_run : List Cond := Cond.code y_PF_run b_PF_run 3 (some .int) :: wsAll
abbrev rm_PF_run : Room := { frames := 7, cells := 0, slots := 0, locals := 194 }
set_option maxHeartbeats 4000000 in
set_option maxRecDepth 100000 in
theorem k_PF_run_43 {p : Program} {l : Launch} {e : Env} {s : State} {m : MethodId} {args : Array Value} {below : List Frame} {meth : Method} {c : Code} {A : Nat → Prop} {ct dC : Nat → ClassId} {dI : Nat → Nat → Nat} {a0 a1 a2 a3 a4 : Nat → Nat} {r0_0 : Nat} {r0_6 : Nat} {v0 : Nat → Nat} {r : Int32} {n0 n1 n2 : Ob} {o3 o4 : Ob}  (C0 : cx wsAll vwCl nx p s m args meth c (dC, dI) (tyA ct) b_PF_run 3 (some .int) R_PF A [adPF a0, adCells a1, adReckoner a2, adText a3, adSteps a4])  : ∀ (n : Nat) (x1 : Int32) (o0 o1 o2 : Ob) (H : Heap) (locs : List Loc) (ls : Array Slot), bw_P (dC, dI) vwCl [wPF ct a0 r0_0 (a3 0) (a2 0) (a1 0) r0_6 v0 o0, wCells ct a1 o1, wReckoner ct a2 o2, wText ct a3 (a4 0) o3, wSteps ct a4 o4] H → va_S A s.heap H locs → lv_has ls 3 [(0, .ref (a0 0)), (1, .int x1)] → F_PF_run_43 o3 o4 n x1 o0 o1 o2 = some (r, n0, n1, n2) → W p l e (headSpec ws_PF_run rm_PF_run).room s m args below meth c H locs 0 0 (MQ below (bw_Q (dC, dI) vwCl (some (.int r)) [wPF ct a0 r0_0 (a3 0) (a2 0) (a1 0) r0_6 v0 n0, wCells ct a1 n1, wReckoner ct a2 n2, wText ct a3 (a4 0) o3, wSteps ct a4 o4] A) args s 0 0 A) (F0 m 43 ls []) := by
  obtain ⟨hx, hb, hr, hml, hown, hlocks, hts, hK, hN, hA, hnx⟩ := id C0
  intro n
  induction n with
  | zero =>
    intro x1 o0 o1 o2 H locs ls hP hS hl h
    cases h
  | succ n ih =>
    intro x1 o0 o1 o2 H locs ls hP hS hl h
    rw [F_PF_run_43] at h
    refine lv_iload_n hx hb d_PF_run_43 rfl (lv_at hl 1 rfl) ?_
    refine lv_aload_n hx hb d_PF_run_44 rfl (lv_at hl 0 rfl) ?_
    refine va_get (D := (dC, dI)) (ci := 5) (v := .ref (a3 0)) (C := R_PF) (T := T_PF) (N := 10) hx hb hts in_PF hown hK (hP 0 _ rfl) 0 rfl rfl 1 (by decide) (hts _ fl_PF_19) (fun _ h9 => h9) rfl d_PF_run_45 ?_
    refine va_get (D := (dC, dI)) (ci := 2) (v := .int (g32 o3 3 0)) (C := R_Text) (T := T_Text) (N := 12) hx hb hts in_Text hown hK (hP 3 _ rfl) 0 rfl rfl 3 (by decide) (hts _ fl_PF_115) (fun _ h9 => h9) rfl d_PF_run_48 ?_
    refine lv_icmp_ge (tgt := 92) hx hb d_PF_run_51 (by decide) (fun c8 => ?_) (fun c8 => ?_)
    · have h := ite_t c8 h
      refine lv_iconst (v := 0) hx hb d_PF_run_92 (by decide) ?_
      obtain ⟨rfl, rfl, rfl, rfl⟩ := res4 h
      exact W.iret hx hb hr (fun t ht hW => ⟨rfl, by rw [ht]; exact hP, hS.F ht⟩) hS.2.2 d_PF_run_93
    · have h := ite_f c8 h
      refine lv_aload_n hx hb d_PF_run_54 rfl (lv_at hl 0 rfl) ?_
      refine va_get (D := (dC, dI)) (ci := 5) (v := .ref (a3 0)) (C := R_PF) (T := T_PF) (N := 10) hx hb hts in_PF hown hK (hP 0 _ rfl) 0 rfl rfl 1 (by decide) (hts _ fl_PF_19) (fun _ h9 => h9) rfl d_PF_run_55 ?_
      refine va_get (D := (dC, dI)) (ci := 2) (v := .ref (a3 2)) (C := R_Text) (T := T_Text) (N := 12) hx hb hts in_Text hown hK (hP 3 _ rfl) 0 rfl rfl 4 (by decide) (hts _ fl_PF_118) (fun _ h9 => h9) rfl d_PF_run_58 ?_
      refine lv_iload_n hx hb d_PF_run_61 rfl (lv_at hl 1 rfl) ?_
      obtain ⟨hi9, h⟩ := chk_some h
      refine va_iald (f := g32 o3 4) hx hb hK (hP 3 _ rfl) 2 0 rfl rfl (inb_in hi9) d_PF_run_62 ?_
      refine lv_istore_n (lv' := [(2, .int (g32 o3 4 (Int32.toNatClampNeg x1))), (0, .ref (a0 0)), (1, .int x1)]) hx hb d_PF_run_63 rfl hl (by decide) rfl (fun ls hl => ?_)
      refine lv_iload_n hx hb d_PF_run_64 rfl (lv_at hl 0 rfl) ?_
      refine lv_iconst (v := -1) hx hb d_PF_run_65 (by decide) ?_
      refine lv_icmp_eq (tgt := 86) hx hb d_PF_run_66 (by decide) (fun c10 => ?_) (fun c10 => ?_)
      · have h := ite_t c10 h
        refine lv_iinc (v := (x1 + (1 : Int32))) (lv' := [(1, .int (x1 + (1 : Int32))), (2, .int (g32 o3 4 (Int32.toNatClampNeg x1))), (0, .ref (a0 0))]) hx hb d_PF_run_86 hl (k := 2) rfl rfl (by decide) rfl (fun ls hl => ?_)
        refine lv_goto (tgt := 43) hx hb d_PF_run_89 (by decide) ?_
        exact ih (x1 + (1 : Int32)) o0 o1 o2 _ _ _ hP hS (lv_sub hl [2, 0] rfl) h
      · have h := ite_f c10 h
        refine lv_aload_n hx hb d_PF_run_69 rfl (lv_at hl 1 rfl) ?_
        refine va_get (D := (dC, dI)) (ci := 5) (v := .ref (a1 0)) (C := R_PF) (T := T_PF) (N := 10) hx hb hts in_PF hown hK (hP 0 _ rfl) 0 rfl rfl 5 (by decide) (hts _ fl_PF_40) (fun _ h9 => h9) rfl d_PF_run_70 ?_
        refine va_get (D := (dC, dI)) (ci := 1) (v := .ref (a1 1)) (C := R_Cells) (T := T_Cells) (N := 4) hx hb hts in_Cells hown hK (hP 1 _ rfl) 0 rfl rfl 0 (by decide) (hts _ fl_PF_122) (fun _ h9 => h9) rfl d_PF_run_73 ?_
        refine lv_iload_n hx hb d_PF_run_76 rfl (lv_at hl 0 rfl) ?_
        obtain ⟨hi11, h⟩ := chk_some h
        refine va_iald (f := g32 o1 0) hx hb hK (hP 1 _ rfl) 1 0 rfl rfl (inb_in hi11) d_PF_run_77 ?_
        refine lv_iconst (v := 1) hx hb d_PF_run_78 (by decide) ?_
        refine lv_icmp_eq (tgt := 86) hx hb d_PF_run_79 (by decide) (fun c12 => ?_) (fun c12 => ?_)
        · have h := ite_t c12 h
          refine lv_iinc (v := (x1 + (1 : Int32))) (lv' := [(1, .int (x1 + (1 : Int32))), (2, .int (g32 o3 4 (Int32.toNatClampNeg x1))), (0, .ref (a0 0))]) hx hb d_PF_run_86 hl (k := 2) rfl rfl (by decide) rfl (fun ls hl => ?_)
          refine lv_goto (tgt := 43) hx hb d_PF_run_89 (by decide) ?_
          exact ih (x1 + (1 : Int32)) o0 o1 o2 _ _ _ hP hS (lv_sub hl [2, 0] rfl) h
        · have h := ite_f c12 h
          refine lv_iconst (v := 1) hx hb d_PF_run_82 (by decide) ?_
          refine lv_iload_n hx hb d_PF_run_83 rfl (lv_at hl 2 rfl) ?_
          refine lv_iadd hx hb d_PF_run_84 ?_
          obtain ⟨rfl, rfl, rfl, rfl⟩ := res4 h
          exact W.iret hx hb hr (fun t ht hW => ⟨rfl, by rw [ht]; exact hP, hS.F ht⟩) hS.2.2 d_PF_run_85
set_option maxHeartbeats 4000000 in
set_option maxRecDepth 100000 in
theorem c_PF_run (l : Launch) (ct dC : Nat → ClassId) (dI : Nat → Nat → Nat) (a0 a1 a2 a3 a4 : Nat → Nat) (r0_0 : Nat) (r0_6 : Nat) (v0 : Nat → Nat) (sz : Nat)  (o0 o1 o2 o3 o4 : Ob) (r : Int32) (n0 n1 n2 : Ob) (hF : F_PF_run o0 o1 o2 o3 o4 = some (0, (r, n0, n1, n2))) : Met l y_PF_run ws_PF_run rm_PF_run (bw_Pc [.ref (a0 0)] (dC, dI) vwCl (tyA ct) [wPF ct a0 r0_0 (a3 0) (a2 0) (a1 0) r0_6 v0 o0, wCells ct a1 o1, wReckoner ct a2 o2, wText ct a3 (a4 0) o3, wSteps ct a4 o4] sz nx) (bw_Q (dC, dI) vwCl (some (.int r)) [wPF ct a0 r0_0 (a3 0) (a2 0) (a1 0) r0_6 v0 n0, wCells ct a1 n1, wReckoner ct a2 n2, wText ct a3 (a4 0) o3, wSteps ct a4 o4] (bw_A [adPF a0, adCells a1, adReckoner a2, adText a3, adSteps a4] sz)) 0 0 (bw_A [adPF a0, adCells a1, adReckoner a2, adText a3, adSteps a4] sz) := by
  refine Met.ofW (cc := b_PF_run) (maxL := 3) (ret := (some .int)) (by decide) rfl ?_
  intro p e s m args below meth c s₁ B hml hv
  obtain ⟨rfl, hsz, hP, hK, hN0, hnx⟩ := hv
  have hx := B.exec
  have hb := B.bytes
  have hr := B.returns
  have hts : ∀ w ∈ wsAll, w.before [.ref (a0 0)].toArray s = true := fun w h9 => atoms_spec (ws := ws_PF_run) B.pre w (List.mem_cons_of_mem _ h9)
  have hown : s.vm.findClass R_PF = some m.cls := findClass_of_methodNamed B.named
  have hlocks := B.notSynchronized
  subst hsz
  have hN : bw_N (bw_A [adPF a0, adCells a1, adReckoner a2, adText a3, adSteps a4] s.heap.size) [adPF a0, adCells a1, adReckoner a2, adText a3, adSteps a4] := hN0.self s.heap.size
  generalize hAe : bw_A [adPF a0, adCells a1, adReckoner a2, adText a3, adSteps a4] s.heap.size = A at hN ⊢
  have hA : ∀ q : Nat, s.heap.size ≤ q → A q := fun q h => by rw [← hAe]; exact Or.inr h
  have hS : va_S A s.heap s.heap [] := va_S.rf
  have hl := lv_entry ([.ref (a0 0)]) (n := 3) (Nat.le_of_ble_eq_true rfl)
  rw [lg_entry_eq]
  generalize (lg_sl ([.ref (a0 0)]) ++ List.replicate (3 - (lg_sl ([.ref (a0 0)])).length) Slot.unset).toArray = ls at hl ⊢
  have hl : lv_has ls 3 [(0, .ref (a0 0))] := hl
  have C0 : cx wsAll vwCl nx p s m [.ref (a0 0)].toArray meth c (dC, dI) (tyA ct) b_PF_run 3 (some .int) R_PF A [adPF a0, adCells a1, adReckoner a2, adText a3, adSteps a4] := ⟨hx, hb, hr, hml, hown, hlocks, hts, hK, hN, hA, hnx⟩
  have h := hF
  rw [F_PF_run] at h
  refine lv_aload_n hx hb d_PF_run_0 rfl (lv_at hl 0 rfl) ?_
  obtain ⟨k_2, u_3, hG1, h⟩ := bind2_some h
  by_cases hk4 : k_2 = 0
  · subst hk4
    have h := ite_t rfl h
    refine bw_callR (va_runV (As := []) (rest := []) ⟨hx, hb, hml, hown, hts⟩ (c_PF_demandRead l ct dC dI a0 r0_0 (a3 0) (a2 0) (a1 0) r0_6 v0 _ o0 hG1) (cwV 0 hts g_PF_71 rfl rfl rfl (by decide +kernel) ⟨Nat.le_of_ble_eq_true rfl, Nat.le_of_ble_eq_true rfl⟩) ⟨bw_blind nx_call, va_recv hK (hP 0 _ rfl) (ci := 5) (q0 := 0) rfl rfl, fun U hU hW => ⟨rfl, by rw [hU], by rw [hU]; exact hP.sub [0] rfl, va_K.moved hW.alike hK, (hN.sub [0] (by decide) rfl).weaken (fun _ _ => trivial), nx_warm hW hnx⟩⟩ rfl rfl hl.1 rfl (Nat.le_of_ble_eq_true rfl) d_PF_run_1 ⟨Nat.le_of_ble_eq_true rfl, Nat.le_of_ble_eq_true rfl⟩) ?_
    have h := pln_some h
    refine lv_aload_n hx hb d_PF_run_4 rfl (lv_at hl 0 rfl) ?_
    refine va_get (D := (dC, dI)) (ci := 5) (v := .ref (a2 0)) (C := R_PF) (T := T_PF) (N := 10) hx hb hts in_PF hown hK (hP 0 _ rfl) 0 rfl rfl 4 (by decide) (hts _ fl_PF_33) (fun _ h9 => h9) rfl d_PF_run_5 ?_
    refine lv_aload_n hx hb d_PF_run_8 rfl (lv_at hl 0 rfl) ?_
    refine va_get (D := (dC, dI)) (ci := 5) (v := .ref (a3 0)) (C := R_PF) (T := T_PF) (N := 10) hx hb hts in_PF hown hK (hP 0 _ rfl) 0 rfl rfl 1 (by decide) (hts _ fl_PF_19) (fun _ h9 => h9) rfl d_PF_run_9 ?_
    refine lv_aload_n hx hb d_PF_run_12 rfl (lv_at hl 0 rfl) ?_
    refine va_get (D := (dC, dI)) (ci := 5) (v := .ref (a1 0)) (C := R_PF) (T := T_PF) (N := 10) hx hb hts in_PF hown hK (hP 0 _ rfl) 0 rfl rfl 5 (by decide) (hts _ fl_PF_40) (fun _ h9 => h9) rfl d_PF_run_13 ?_
    obtain ⟨o_6, o_7, hG5, h⟩ := bind2_some h
    refine bw_call (Lc := [wReckoner ct a2 o2, wText ct a3 (a4 0) o3, wSteps ct a4 o4, wCells ct a1 o1]) (Lc' := [wReckoner ct a2 o_6, wText ct a3 (a4 0) o3, wSteps ct a4 o4, wCells ct a1 o_7]) (L' := [wPF ct a0 r0_0 (a3 0) (a2 0) (a1 0) r0_6 v0 o0, wCells ct a1 o_7, wReckoner ct a2 o_6, wText ct a3 (a4 0) o3, wSteps ct a4 o4]) [2, 3, 4, 1] (va_runV (As := [.ref (a3 0), .ref (a1 0)]) (rest := []) ⟨hx, hb, hml, hown, hts⟩ (c_Reckoner_workOutAll l ct dC dI a2 a3 a4 a1 _ o2 o3 o4 o1 o_6 o_7 hG5) (cwV 2 hts g_PF_108 rfl rfl rfl (by decide +kernel) ⟨Nat.le_of_ble_eq_true rfl, Nat.le_of_ble_eq_true rfl⟩) ⟨bw_blind nx_call, va_recv hK (hP 2 _ rfl) (ci := 4) (q0 := 0) rfl rfl, fun U hU hW => ⟨rfl, by rw [hU], by rw [hU]; exact hP.sub [2, 3, 4, 1] rfl, va_K.moved hW.alike hK, (hN.sub [2, 3, 4, 1] (by decide) rfl).weaken (fun _ _ => trivial), nx_warm hW hnx⟩⟩ rfl rfl hl.1 rfl (Nat.le_of_ble_eq_true rfl) d_PF_run_16 ⟨Nat.le_of_ble_eq_true rfl, Nat.le_of_ble_eq_true rfl⟩) hP hN hS hA rfl rfl rfl (fun H locs hP hS => ?_)
    refine lv_aload_n hx hb d_PF_run_19 rfl (lv_at hl 0 rfl) ?_
    refine lv_iconst (v := 1) hx hb d_PF_run_20 (by decide) ?_
    refine pt_PF_3 hx hb hts hown hK hP hN hS 0 rfl (hts _ fl_PF_27) rfl rfl d_PF_run_21 (fun H locs hP hS => ?_)
    have hP : bw_P (dC, dI) vwCl [wPF ct a0 r0_0 (a3 0) (a2 0) (a1 0) r0_6 v0 (s32 o0 3 0 (1 : Int32)), wCells ct a1 o_7, wReckoner ct a2 o_6, wText ct a3 (a4 0) o3, wSteps ct a4 o4] H := hP
    refine lv_aload_n hx hb d_PF_run_24 rfl (lv_at hl 0 rfl) ?_
    refine lv_dup hx hb d_PF_run_25 rfl ?_
    refine va_get (D := (dC, dI)) (ci := 5) (v := .long (g64 o0 9 0)) (C := R_PF) (T := T_PF) (N := 10) hx hb hts in_PF hown hK (hP 0 _ rfl) 0 rfl rfl 9 (by decide) (hts _ fl_PF_55) (fun _ h9 => h9) rfl d_PF_run_26 ?_
    refine lv_aload_n hx hb d_PF_run_29 rfl (lv_at hl 0 rfl) ?_
    refine va_get (D := (dC, dI)) (ci := 5) (v := .ref (a3 0)) (C := R_PF) (T := T_PF) (N := 10) hx hb hts in_PF hown hK (hP 0 _ rfl) 0 rfl rfl 1 (by decide) (hts _ fl_PF_19) (fun _ h9 => h9) rfl d_PF_run_30 ?_
    refine va_get (D := (dC, dI)) (ci := 2) (v := .int (g32 o3 11 0)) (C := R_Text) (T := T_Text) (N := 12) hx hb hts in_Text hown hK (hP 3 _ rfl) 0 rfl rfl 11 (by decide) (hts _ fl_PF_112) (fun _ h9 => h9) rfl d_PF_run_33 ?_
    refine lv_i2l (v := (Int32.toInt64 (g32 o3 11 0))) hx hb d_PF_run_36 rfl ?_
    refine lv_ladd hx hb d_PF_run_37 ?_
    refine pt_PF_9 hx hb hts hown hK hP hN hS 0 rfl (hts _ fl_PF_55) d_PF_run_38 (fun H locs hP hS => ?_)
    have hP : bw_P (dC, dI) vwCl [wPF ct a0 r0_0 (a3 0) (a2 0) (a1 0) r0_6 v0 (s64 (s32 o0 3 0 (1 : Int32)) 9 0 ((g64 o0 9 0) + (Int32.toInt64 (g32 o3 11 0)))), wCells ct a1 o_7, wReckoner ct a2 o_6, wText ct a3 (a4 0) o3, wSteps ct a4 o4] H := hP
    refine lv_iconst (v := 0) hx hb d_PF_run_41 (by decide) ?_
    refine lv_istore_n (lv' := [(1, .int (0 : Int32)), (0, .ref (a0 0))]) hx hb d_PF_run_42 rfl hl (by decide) rfl (fun ls hl => ?_)
    exact k_PF_run_43 C0 fuel (0 : Int32) (s64 (s32 o0 3 0 (1 : Int32)) 9 0 ((g64 o0 9 0) + (Int32.toInt64 (g32 o3 11 0)))) o_7 o_6 _ _ _ hP hS (lv_sub hl [1, 0] rfl) h
  · have h := ite_f hk4 h
    exact absurd (thr_eq h) hk4
abbrev rmx_PF_run : Room := { frames := 7, cells := 1, slots := 6, locals := 194 }
set_option maxHeartbeats 4000000 in
set_option maxRecDepth 100000 in
theorem x_PF_run (l : Launch) (hl0 : l.stackTraces = false) (ct dC : Nat → ClassId) (dI : Nat → Nat → Nat) (a0 a1 a2 a3 a4 : Nat → Nat) (r0_0 : Nat) (r0_6 : Nat) (v0 : Nat → Nat) (sz : Nat)  (o0 o1 o2 o3 o4 : Ob) (k : Nat) (r : Int32) (n0 n1 n2 : Ob) (hF : F_PF_run o0 o1 o2 o3 o4 = some (k, (r, n0, n1, n2))) (hk : ¬ k = 0) : MetT l y_PF_run ws_PF_run rmx_PF_run (bw_Pc [.ref (a0 0)] (dC, dI) vwCl (tyA ct) [wPF ct a0 r0_0 (a3 0) (a2 0) (a1 0) r0_6 v0 o0, wCells ct a1 o1, wReckoner ct a2 o2, wText ct a3 (a4 0) o3, wSteps ct a4 o4] sz thn) (bt_Q (exN k)) 1 6 := by
  refine MetT.ofW (cc := b_PF_run) (maxL := 3) (ret := (some .int)) (by decide) rfl ?_
  intro p e s m args below meth c s₁ B hml hv
  obtain ⟨rfl, hsz, hP, hK, hN0, hnx, hth⟩ := hv
  have hx := B.exec
  have hb := B.bytes
  have hr := B.returns
  have hts : ∀ w ∈ wsAll, w.before [.ref (a0 0)].toArray s = true := fun w h9 => atoms_spec (ws := ws_PF_run) B.pre w (List.mem_cons_of_mem _ h9)
  have hex : c.exceptionTable.isEmpty = true := B.noHandlers (atoms_spec (ws := ws_PF_run) B.pre _ List.mem_cons_self)
  have hown : s.vm.findClass R_PF = some m.cls := findClass_of_methodNamed B.named
  have hlocks := B.notSynchronized
  subst hsz
  have hN : bw_N (fun _ => True) [adPF a0, adCells a1, adReckoner a2, adText a3, adSteps a4] := hN0
  have hS : s.heap = s.heap ∧ ([] : List Loc) = [] := ⟨rfl, rfl⟩
  have hl := lv_entry ([.ref (a0 0)]) (n := 3) (Nat.le_of_ble_eq_true rfl)
  rw [lg_entry_eq]
  generalize (lg_sl ([.ref (a0 0)]) ++ List.replicate (3 - (lg_sl ([.ref (a0 0)])).length) Slot.unset).toArray = ls at hl ⊢
  have hl : lv_has ls 3 [(0, .ref (a0 0))] := hl
  have h := hF
  rw [F_PF_run] at h
  refine lv_aload_n hx hb d_PF_run_0 rfl (lv_at hl 0 rfl) ?_
  obtain ⟨k_2, u_3, hG1, h⟩ := bind2_some h
  by_cases hk4 : k_2 = 0
  · subst hk4
    have h := ite_t rfl h
    refine bw_callR (va_runV (As := []) (rest := []) ⟨hx, hb, hml, hown, hts⟩ (c_PF_demandRead l ct dC dI a0 r0_0 (a3 0) (a2 0) (a1 0) r0_6 v0 _ o0 hG1) (cwV 0 hts g_PF_71 rfl rfl rfl (by decide +kernel) ⟨Nat.le_of_ble_eq_true rfl, Nat.le_of_ble_eq_true rfl⟩) ⟨bw_blind nx_call, va_recv hK (hP 0 _ rfl) (ci := 5) (q0 := 0) rfl rfl, fun U hU hW => ⟨rfl, by rw [hU], by rw [hU]; exact hP.sub [0] rfl, va_K.moved hW.alike hK, (hN.sub [0] (by decide) rfl).weaken (fun _ _ => trivial), nx_warm hW hnx⟩⟩ rfl rfl hl.1 rfl (Nat.le_of_ble_eq_true rfl) d_PF_run_1 ⟨Nat.le_of_ble_eq_true rfl, Nat.le_of_ble_eq_true rfl⟩) ?_
    exact absurd (pln_0 h) hk
  · have h := ite_f hk4 h
    have e9 := (res2 h).1
    rw [e9]
    exact bt_outV (As := []) (rest := []) ⟨hx, hb, hml, hown, hts⟩ (x_PF_demandRead l hl0 ct dC dI a0 r0_0 (a3 0) (a2 0) (a1 0) r0_6 v0 _ o0 k_2 hG1 hk4) (cwV 0 hts g_PF_71 rfl rfl rfl (by decide +kernel) ⟨Nat.le_of_ble_eq_true rfl, Nat.le_of_ble_eq_true rfl⟩) ⟨bw_blind thx_call, va_recv hK (hP 0 _ rfl) (ci := 5) (q0 := 0) rfl rfl, fun U hU hW => ⟨rfl, by rw [hU], by rw [hU]; exact hP.sub [0] rfl, va_K.moved hW.alike hK, (hN.sub [0] (by decide) rfl).weaken (fun _ _ => trivial), ⟨nx_warm hW hnx, thx_warm hW hU hth⟩⟩⟩ rfl hl.1 rfl (Nat.le_of_ble_eq_true rfl) d_PF_run_1 hex hlocks ⟨Nat.le_of_ble_eq_true rfl, Nat.le_of_ble_eq_true rfl⟩
def F_PF_demandWorkedOut  (o0 : Ob) : Option (Nat × Unit) :=
  if (g32 o0 3 0) = 0 then (some (1, ())) else (pln (some ()))
abbrev ws_PF_demandWorkedOut : List Cond := Cond.code y_PF_demandWorkedOut b_PF_demandWorkedOut 1 (none : Option Jvm.ClassFile.FieldType) :: wsAll
abbrev rm_PF_demandWorkedOut : Room := { frames := 0, cells := 0, slots := 0, locals := 0 }
set_option maxHeartbeats 4000000 in
set_option maxRecDepth 100000 in
theorem c_PF_demandWorkedOut (l : Launch) (ct dC : Nat → ClassId) (dI : Nat → Nat → Nat) (a0 : Nat → Nat) (r0_0 : Nat) (r0_1 : Nat) (r0_4 : Nat) (r0_5 : Nat) (r0_6 : Nat) (v0 : Nat → Nat) (sz : Nat)  (o0 : Ob)  (hF : F_PF_demandWorkedOut o0 = some (0, ())) : Met l y_PF_demandWorkedOut ws_PF_demandWorkedOut rm_PF_demandWorkedOut (bw_Pc [.ref (a0 0)] (dC, dI) vwCl (tyA ct) [wPF ct a0 r0_0 r0_1 r0_4 r0_5 r0_6 v0 o0] sz nx) (bw_QR none) 0 0 (fun _ => False) := by
  refine Met.ofW (cc := b_PF_demandWorkedOut) (maxL := 1) (ret := (none : Option Jvm.ClassFile.FieldType)) (by decide) rfl ?_
  intro p e s m args below meth c s₁ B hml hv
  obtain ⟨rfl, hsz, hP, hK, hN0, hnx⟩ := hv
  have hx := B.exec
  have hb := B.bytes
  have hr := B.returns
  have hts : ∀ w ∈ wsAll, w.before [.ref (a0 0)].toArray s = true := fun w h9 => atoms_spec (ws := ws_PF_demandWorkedOut) B.pre w (List.mem_cons_of_mem _ h9)
  have hown : s.vm.findClass R_PF = some m.cls := findClass_of_methodNamed B.named
  have hlocks := B.notSynchronized
  subst hsz
  have hN : bw_N (fun _ => True) [adPF a0] := hN0
  generalize hAe : (fun _ : Nat => True) = A at hN
  have hA : ∀ q : Nat, s.heap.size ≤ q → A q := fun q _ => by rw [← hAe]; trivial
  have hS : s.heap = s.heap ∧ ([] : List Loc) = [] := ⟨rfl, rfl⟩
  have hl := lv_entry ([.ref (a0 0)]) (n := 1) (Nat.le_of_ble_eq_true rfl)
  rw [lg_entry_eq]
  generalize (lg_sl ([.ref (a0 0)]) ++ List.replicate (1 - (lg_sl ([.ref (a0 0)])).length) Slot.unset).toArray = ls at hl ⊢
  have hl : lv_has ls 1 [(0, .ref (a0 0))] := hl
  have C0 : cx wsAll vwCl nx p s m [.ref (a0 0)].toArray meth c (dC, dI) (tyA ct) b_PF_demandWorkedOut 1 (none : Option Jvm.ClassFile.FieldType) R_PF A [adPF a0] := ⟨hx, hb, hr, hml, hown, hlocks, hts, hK, hN, hA, hnx⟩
  have h := hF
  rw [F_PF_demandWorkedOut] at h
  refine lv_aload_n hx hb d_PF_demandWorkedOut_0 rfl (lv_at hl 0 rfl) ?_
  refine va_get (D := (dC, dI)) (ci := 5) (v := .int (g32 o0 3 0)) (C := R_PF) (T := T_PF) (N := 10) hx hb hts in_PF hown hK (hP 0 _ rfl) 0 rfl rfl 3 (by decide) (hts _ fl_PF_27) (fun _ h9 => h9) rfl d_PF_demandWorkedOut_1 ?_
  refine lv_if_ne (tgt := 17) hx hb d_PF_demandWorkedOut_4 (by decide) (fun c1 => ?_) (fun c1 => ?_)
  · have h := ite_f c1 h
    have h := pln_some h
    exact W.vret hx hb hr (fun t ht hW => ⟨rfl, ht.trans hS.1⟩) (bw_nil hS.2) d_PF_demandWorkedOut_17
  · have h := ite_t c1 h
    exact (thr_ne h).elim
abbrev rmx_PF_demandWorkedOut : Room := { frames := 6, cells := 1, slots := 6, locals := 100 }
set_option maxHeartbeats 4000000 in
set_option maxRecDepth 100000 in
theorem x_PF_demandWorkedOut (l : Launch) (hl0 : l.stackTraces = false) (ct dC : Nat → ClassId) (dI : Nat → Nat → Nat) (a0 : Nat → Nat) (r0_0 : Nat) (r0_1 : Nat) (r0_4 : Nat) (r0_5 : Nat) (r0_6 : Nat) (v0 : Nat → Nat) (sz : Nat)  (o0 : Ob) (k : Nat)  (hF : F_PF_demandWorkedOut o0 = some (k, ())) (hk : ¬ k = 0) : MetT l y_PF_demandWorkedOut ws_PF_demandWorkedOut rmx_PF_demandWorkedOut (bw_Pc [.ref (a0 0)] (dC, dI) vwCl (tyA ct) [wPF ct a0 r0_0 r0_1 r0_4 r0_5 r0_6 v0 o0] sz thn) (bt_Q (exN k)) 1 6 := by
  refine MetT.ofW (cc := b_PF_demandWorkedOut) (maxL := 1) (ret := (none : Option Jvm.ClassFile.FieldType)) (by decide) rfl ?_
  intro p e s m args below meth c s₁ B hml hv
  obtain ⟨rfl, hsz, hP, hK, hN0, hnx, hth⟩ := hv
  have hx := B.exec
  have hb := B.bytes
  have hr := B.returns
  have hts : ∀ w ∈ wsAll, w.before [.ref (a0 0)].toArray s = true := fun w h9 => atoms_spec (ws := ws_PF_demandWorkedOut) B.pre w (List.mem_cons_of_mem _ h9)
  have hex : c.exceptionTable.isEmpty = true := B.noHandlers (atoms_spec (ws := ws_PF_demandWorkedOut) B.pre _ List.mem_cons_self)
  have hown : s.vm.findClass R_PF = some m.cls := findClass_of_methodNamed B.named
  have hlocks := B.notSynchronized
  subst hsz
  have hN : bw_N (fun _ => True) [adPF a0] := hN0
  have hS : s.heap = s.heap ∧ ([] : List Loc) = [] := ⟨rfl, rfl⟩
  have hl := lv_entry ([.ref (a0 0)]) (n := 1) (Nat.le_of_ble_eq_true rfl)
  rw [lg_entry_eq]
  generalize (lg_sl ([.ref (a0 0)]) ++ List.replicate (1 - (lg_sl ([.ref (a0 0)])).length) Slot.unset).toArray = ls at hl ⊢
  have hl : lv_has ls 1 [(0, .ref (a0 0))] := hl
  have h := hF
  rw [F_PF_demandWorkedOut] at h
  refine lv_aload_n hx hb d_PF_demandWorkedOut_0 rfl (lv_at hl 0 rfl) ?_
  refine va_get (D := (dC, dI)) (ci := 5) (v := .int (g32 o0 3 0)) (C := R_PF) (T := T_PF) (N := 10) hx hb hts in_PF hown hK (hP 0 _ rfl) 0 rfl rfl 3 (by decide) (hts _ fl_PF_27) (fun _ h9 => h9) rfl d_PF_demandWorkedOut_1 ?_
  refine lv_if_ne (tgt := 17) hx hb d_PF_demandWorkedOut_4 (by decide) (fun c1 => ?_) (fun c1 => ?_)
  · have h := ite_f c1 h
    exact absurd (pln_0 h) hk
  · have h := ite_t c1 h
    have e9 := (res2 h).1
    rw [e9]
    obtain ⟨q9, hq9⟩ := thx_s5 hth
    exact bt_throw hx hb hl0 hown (by decide) (by decide) (at_1 hts hth) (hts _ cl_PF_135) (hts _ ins_IllegalStateException) (hts _ ini_IllegalStateException) hq9 d_PF_demandWorkedOut_7 d_PF_demandWorkedOut_10 d_PF_demandWorkedOut_11 d_PF_demandWorkedOut_13 d_PF_demandWorkedOut_16 hex (hl.1.trans hml.symm) hlocks (Nat.le_of_ble_eq_true rfl) (Nat.le_of_ble_eq_true rfl) (Nat.le_of_ble_eq_true rfl) (Nat.le_of_ble_eq_true rfl)
def F_PF_cellNumber (x0 : Int32) (x1 : Int32)  : Option (Nat × Int32) :=
  bind2 (F_PF_demandIndex x0 (10 : Int32)) (fun k_2 u_3 => if k_2 = 0 then (bind2 (F_PF_demandIndex x1 (6 : Int32)) (fun k_6 u_7 => if k_6 = 0 then (pln (some (((6 : Int32) * x0) + x1))) else (some (k_6, (0 : Int32))))) else (some (k_2, (0 : Int32))))
abbrev ws_PF_cellNumber : List Cond := Cond.code y_PF_cellNumber b_PF_cellNumber 2 (some .int) :: wsAll
abbrev rm_PF_cellNumber : Room := { frames := 1, cells := 0, slots := 0, locals := 21 }
set_option maxHeartbeats 4000000 in
set_option maxRecDepth 100000 in
theorem c_PF_cellNumber (l : Launch) (ct dC : Nat → ClassId) (dI : Nat → Nat → Nat)   (sz : Nat) (x0 : Int32) (x1 : Int32)  (r : Int32) (hF : F_PF_cellNumber x0 x1 = some (0, r)) : Met l y_PF_cellNumber ws_PF_cellNumber rm_PF_cellNumber (bw_Pc [.int x0, .int x1] (dC, dI) vwCl (tyA ct) [] sz nx) (bw_QR (some (.int r))) 0 0 (fun _ => False) := by
  refine Met.ofW (cc := b_PF_cellNumber) (maxL := 2) (ret := (some .int)) (by decide) rfl ?_
  intro p e s m args below meth c s₁ B hml hv
  obtain ⟨rfl, hsz, hP, hK, hN0, hnx⟩ := hv
  have hx := B.exec
  have hb := B.bytes
  have hr := B.returns
  have hts : ∀ w ∈ wsAll, w.before [.int x0, .int x1].toArray s = true := fun w h9 => atoms_spec (ws := ws_PF_cellNumber) B.pre w (List.mem_cons_of_mem _ h9)
  have hown : s.vm.findClass R_PF = some m.cls := findClass_of_methodNamed B.named
  have hlocks := B.notSynchronized
  subst hsz
  have hN : bw_N (fun _ => True) [] := hN0
  generalize hAe : (fun _ : Nat => True) = A at hN
  have hA : ∀ q : Nat, s.heap.size ≤ q → A q := fun q _ => by rw [← hAe]; trivial
  have hS : s.heap = s.heap ∧ ([] : List Loc) = [] := ⟨rfl, rfl⟩
  have hl := lv_entry ([.int x0, .int x1]) (n := 2) (Nat.le_of_ble_eq_true rfl)
  rw [lg_entry_eq]
  generalize (lg_sl ([.int x0, .int x1]) ++ List.replicate (2 - (lg_sl ([.int x0, .int x1])).length) Slot.unset).toArray = ls at hl ⊢
  have hl : lv_has ls 2 [(0, .int x0), (1, .int x1)] := hl
  have C0 : cx wsAll vwCl nx p s m [.int x0, .int x1].toArray meth c (dC, dI) (tyA ct) b_PF_cellNumber 2 (some .int) R_PF A [] := ⟨hx, hb, hr, hml, hown, hlocks, hts, hK, hN, hA, hnx⟩
  have h := hF
  rw [F_PF_cellNumber] at h
  refine lv_iload_n hx hb d_PF_cellNumber_0 rfl (lv_at hl 0 rfl) ?_
  refine lv_bipush (v := 10) hx hb d_PF_cellNumber_1 (by decide) ?_
  obtain ⟨k_2, u_3, hG1, h⟩ := bind2_some h
  by_cases hk4 : k_2 = 0
  · subst hk4
    have h := ite_t rfl h
    refine bw_callR (va_runS (As := [.int x0, .int (10 : Int32)]) (rest := []) ⟨hx, hb, hml, hown, hts⟩ (c_PF_demandIndex l ct dC dI _ x0 (10 : Int32) hG1) (cwS 2 hts g_PF_85 rfl rfl rfl (by decide +kernel) ⟨Nat.le_of_ble_eq_true rfl, Nat.le_of_ble_eq_true rfl⟩) ⟨bw_blind nx_call, fun U hU hW => ⟨rfl, by rw [hU], by rw [hU]; exact hP.sub [] rfl, va_K.moved hW.alike hK, (hN.sub [] (by decide) rfl).weaken (fun _ _ => trivial), nx_warm hW hnx⟩⟩ rfl rfl hl.1 rfl (Nat.le_of_ble_eq_true rfl) d_PF_cellNumber_3 ⟨Nat.le_of_ble_eq_true rfl, Nat.le_of_ble_eq_true rfl⟩) ?_
    refine lv_iload_n hx hb d_PF_cellNumber_6 rfl (lv_at hl 1 rfl) ?_
    refine lv_bipush (v := 6) hx hb d_PF_cellNumber_7 (by decide) ?_
    obtain ⟨k_6, u_7, hG5, h⟩ := bind2_some h
    by_cases hk8 : k_6 = 0
    · subst hk8
      have h := ite_t rfl h
      refine bw_callR (va_runS (As := [.int x1, .int (6 : Int32)]) (rest := []) ⟨hx, hb, hml, hown, hts⟩ (c_PF_demandIndex l ct dC dI _ x1 (6 : Int32) hG5) (cwS 2 hts g_PF_85 rfl rfl rfl (by decide +kernel) ⟨Nat.le_of_ble_eq_true rfl, Nat.le_of_ble_eq_true rfl⟩) ⟨bw_blind nx_call, fun U hU hW => ⟨rfl, by rw [hU], by rw [hU]; exact hP.sub [] rfl, va_K.moved hW.alike hK, (hN.sub [] (by decide) rfl).weaken (fun _ _ => trivial), nx_warm hW hnx⟩⟩ rfl rfl hl.1 rfl (Nat.le_of_ble_eq_true rfl) d_PF_cellNumber_9 ⟨Nat.le_of_ble_eq_true rfl, Nat.le_of_ble_eq_true rfl⟩) ?_
      have h := pln_some h
      refine lv_bipush (v := 6) hx hb d_PF_cellNumber_12 (by decide) ?_
      refine lv_iload_n hx hb d_PF_cellNumber_14 rfl (lv_at hl 0 rfl) ?_
      refine lv_imul hx hb d_PF_cellNumber_15 ?_
      refine lv_iload_n hx hb d_PF_cellNumber_16 rfl (lv_at hl 1 rfl) ?_
      refine lv_iadd hx hb d_PF_cellNumber_17 ?_
      obtain rfl := res1 h
      exact W.iret hx hb hr (fun t ht hW => ⟨rfl, ht.trans hS.1⟩) (bw_nil hS.2) d_PF_cellNumber_18
    · have h := ite_f hk8 h
      exact absurd (thr_eq h) hk8
  · have h := ite_f hk4 h
    exact absurd (thr_eq h) hk4
abbrev rmx_PF_cellNumber : Room := { frames := 7, cells := 1, slots := 6, locals := 121 }
set_option maxHeartbeats 4000000 in
set_option maxRecDepth 100000 in
theorem x_PF_cellNumber (l : Launch) (hl0 : l.stackTraces = false) (ct dC : Nat → ClassId) (dI : Nat → Nat → Nat)   (sz : Nat) (x0 : Int32) (x1 : Int32)  (k : Nat) (r : Int32) (hF : F_PF_cellNumber x0 x1 = some (k, r)) (hk : ¬ k = 0) : MetT l y_PF_cellNumber ws_PF_cellNumber rmx_PF_cellNumber (bw_Pc [.int x0, .int x1] (dC, dI) vwCl (tyA ct) [] sz thn) (bt_Q (exN k)) 1 6 := by
  refine MetT.ofW (cc := b_PF_cellNumber) (maxL := 2) (ret := (some .int)) (by decide) rfl ?_
  intro p e s m args below meth c s₁ B hml hv
  obtain ⟨rfl, hsz, hP, hK, hN0, hnx, hth⟩ := hv
  have hx := B.exec
  have hb := B.bytes
  have hr := B.returns
  have hts : ∀ w ∈ wsAll, w.before [.int x0, .int x1].toArray s = true := fun w h9 => atoms_spec (ws := ws_PF_cellNumber) B.pre w (List.mem_cons_of_mem _ h9)
  have hex : c.exceptionTable.isEmpty = true := B.noHandlers (atoms_spec (ws := ws_PF_cellNumber) B.pre _ List.mem_cons_self)
  have hown : s.vm.findClass R_PF = some m.cls := findClass_of_methodNamed B.named
  have hlocks := B.notSynchronized
  subst hsz
  have hN : bw_N (fun _ => True) [] := hN0
  have hS : s.heap = s.heap ∧ ([] : List Loc) = [] := ⟨rfl, rfl⟩
  have hl := lv_entry ([.int x0, .int x1]) (n := 2) (Nat.le_of_ble_eq_true rfl)
  rw [lg_entry_eq]
  generalize (lg_sl ([.int x0, .int x1]) ++ List.replicate (2 - (lg_sl ([.int x0, .int x1])).length) Slot.unset).toArray = ls at hl ⊢
  have hl : lv_has ls 2 [(0, .int x0), (1, .int x1)] := hl
  have h := hF
  rw [F_PF_cellNumber] at h
  refine lv_iload_n hx hb d_PF_cellNumber_0 rfl (lv_at hl 0 rfl) ?_
  refine lv_bipush (v := 10) hx hb d_PF_cellNumber_1 (by decide) ?_
  obtain ⟨k_2, u_3, hG1, h⟩ := bind2_some h
  by_cases hk4 : k_2 = 0
  · subst hk4
    have h := ite_t rfl h
    refine bw_callR (va_runS (As := [.int x0, .int (10 : Int32)]) (rest := []) ⟨hx, hb, hml, hown, hts⟩ (c_PF_demandIndex l ct dC dI _ x0 (10 : Int32) hG1) (cwS 2 hts g_PF_85 rfl rfl rfl (by decide +kernel) ⟨Nat.le_of_ble_eq_true rfl, Nat.le_of_ble_eq_true rfl⟩) ⟨bw_blind nx_call, fun U hU hW => ⟨rfl, by rw [hU], by rw [hU]; exact hP.sub [] rfl, va_K.moved hW.alike hK, (hN.sub [] (by decide) rfl).weaken (fun _ _ => trivial), nx_warm hW hnx⟩⟩ rfl rfl hl.1 rfl (Nat.le_of_ble_eq_true rfl) d_PF_cellNumber_3 ⟨Nat.le_of_ble_eq_true rfl, Nat.le_of_ble_eq_true rfl⟩) ?_
    refine lv_iload_n hx hb d_PF_cellNumber_6 rfl (lv_at hl 1 rfl) ?_
    refine lv_bipush (v := 6) hx hb d_PF_cellNumber_7 (by decide) ?_
    obtain ⟨k_6, u_7, hG5, h⟩ := bind2_some h
    by_cases hk8 : k_6 = 0
    · subst hk8
      have h := ite_t rfl h
      refine bw_callR (va_runS (As := [.int x1, .int (6 : Int32)]) (rest := []) ⟨hx, hb, hml, hown, hts⟩ (c_PF_demandIndex l ct dC dI _ x1 (6 : Int32) hG5) (cwS 2 hts g_PF_85 rfl rfl rfl (by decide +kernel) ⟨Nat.le_of_ble_eq_true rfl, Nat.le_of_ble_eq_true rfl⟩) ⟨bw_blind nx_call, fun U hU hW => ⟨rfl, by rw [hU], by rw [hU]; exact hP.sub [] rfl, va_K.moved hW.alike hK, (hN.sub [] (by decide) rfl).weaken (fun _ _ => trivial), nx_warm hW hnx⟩⟩ rfl rfl hl.1 rfl (Nat.le_of_ble_eq_true rfl) d_PF_cellNumber_9 ⟨Nat.le_of_ble_eq_true rfl, Nat.le_of_ble_eq_true rfl⟩) ?_
      exact absurd (pln_0 h) hk
    · have h := ite_f hk8 h
      have e9 := (res2 h).1
      rw [e9]
      exact bt_outS (As := [.int x1, .int (6 : Int32)]) (rest := []) ⟨hx, hb, hml, hown, hts⟩ (x_PF_demandIndex l hl0 ct dC dI _ x1 (6 : Int32) k_6 hG5 hk8) (cwS 2 hts g_PF_85 rfl rfl rfl (by decide +kernel) ⟨Nat.le_of_ble_eq_true rfl, Nat.le_of_ble_eq_true rfl⟩) ⟨bw_blind thx_call, fun U hU hW => ⟨rfl, by rw [hU], by rw [hU]; exact hP.sub [] rfl, va_K.moved hW.alike hK, (hN.sub [] (by decide) rfl).weaken (fun _ _ => trivial), ⟨nx_warm hW hnx, thx_warm hW hU hth⟩⟩⟩ rfl hl.1 rfl (Nat.le_of_ble_eq_true rfl) d_PF_cellNumber_9 hex hlocks ⟨Nat.le_of_ble_eq_true rfl, Nat.le_of_ble_eq_true rfl⟩
  · have h := ite_f hk4 h
    have e9 := (res2 h).1
    rw [e9]
    exact bt_outS (As := [.int x0, .int (10 : Int32)]) (rest := []) ⟨hx, hb, hml, hown, hts⟩ (x_PF_demandIndex l hl0 ct dC dI _ x0 (10 : Int32) k_2 hG1 hk4) (cwS 2 hts g_PF_85 rfl rfl rfl (by decide +kernel) ⟨Nat.le_of_ble_eq_true rfl, Nat.le_of_ble_eq_true rfl⟩) ⟨bw_blind thx_call, fun U hU hW => ⟨rfl, by rw [hU], by rw [hU]; exact hP.sub [] rfl, va_K.moved hW.alike hK, (hN.sub [] (by decide) rfl).weaken (fun _ _ => trivial), ⟨nx_warm hW hnx, thx_warm hW hU hth⟩⟩⟩ rfl hl.1 rfl (Nat.le_of_ble_eq_true rfl) d_PF_cellNumber_3 hex hlocks ⟨Nat.le_of_ble_eq_true rfl, Nat.le_of_ble_eq_true rfl⟩
theorem g_PF_125 : GoodIn wsAll (wsV R_PF 125 R_PF y_PF_demandWorkedOut ws_PF_demandWorkedOut) := gd_V ml_PF_125 im_PF_demandWorkedOut se_PF_demandWorkedOut ini_PF cd_PF_demandWorkedOut
theorem g_PF_128 : GoodIn wsAll (wsS R_PF 128 y_PF_cellNumber ws_PF_cellNumber) := gd_S ml_PF_128 st_PF_cellNumber ini_PF cd_PF_cellNumber
def F_PF_state (x1 : Int32) (x2 : Int32) (o0 o1 : Ob) : Option (Nat × Int32) :=
  bind2 (F_PF_demandWorkedOut o0) (fun k_2 u_3 => if k_2 = 0 then (bind2 (F_PF_cellNumber x1 x2) (fun k_7 v6 => if k_7 = 0 then (pln (chk (inb v6 60) (some (g32 o1 0 (Int32.toNatClampNeg v6))))) else (some (k_7, (0 : Int32))))) else (some (k_2, (0 : Int32))))
abbrev ws_PF_state : List Cond := Cond.code y_PF_state b_PF_state 3 (some .int) :: wsAll
abbrev rm_PF_state : Room := { frames := 2, cells := 0, slots := 0, locals := 42 }
set_option maxHeartbeats 4000000 in
set_option maxRecDepth 100000 in
theorem c_PF_state (l : Launch) (ct dC : Nat → ClassId) (dI : Nat → Nat → Nat) (a0 a1 : Nat → Nat) (r0_0 : Nat) (r0_1 : Nat) (r0_4 : Nat) (r0_6 : Nat) (v0 : Nat → Nat) (sz : Nat) (x1 : Int32) (x2 : Int32) (o0 o1 : Ob) (r : Int32) (hF : F_PF_state x1 x2 o0 o1 = some (0, r)) : Met l y_PF_state ws_PF_state rm_PF_state (bw_Pc [.ref (a0 0), .int x1, .int x2] (dC, dI) vwCl (tyA ct) [wPF ct a0 r0_0 r0_1 r0_4 (a1 0) r0_6 v0 o0, wCells ct a1 o1] sz nx) (bw_QR (some (.int r))) 0 0 (fun _ => False) := by
  refine Met.ofW (cc := b_PF_state) (maxL := 3) (ret := (some .int)) (by decide) rfl ?_
  intro p e s m args below meth c s₁ B hml hv
  obtain ⟨rfl, hsz, hP, hK, hN0, hnx⟩ := hv
  have hx := B.exec
  have hb := B.bytes
  have hr := B.returns
  have hts : ∀ w ∈ wsAll, w.before [.ref (a0 0), .int x1, .int x2].toArray s = true := fun w h9 => atoms_spec (ws := ws_PF_state) B.pre w (List.mem_cons_of_mem _ h9)
  have hown : s.vm.findClass R_PF = some m.cls := findClass_of_methodNamed B.named
  have hlocks := B.notSynchronized
  subst hsz
  have hN : bw_N (fun _ => True) [adPF a0, adCells a1] := hN0
  generalize hAe : (fun _ : Nat => True) = A at hN
  have hA : ∀ q : Nat, s.heap.size ≤ q → A q := fun q _ => by rw [← hAe]; trivial
  have hS : s.heap = s.heap ∧ ([] : List Loc) = [] := ⟨rfl, rfl⟩
  have hl := lv_entry ([.ref (a0 0), .int x1, .int x2]) (n := 3) (Nat.le_of_ble_eq_true rfl)
  rw [lg_entry_eq]
  generalize (lg_sl ([.ref (a0 0), .int x1, .int x2]) ++ List.replicate (3 - (lg_sl ([.ref (a0 0), .int x1, .int x2])).length) Slot.unset).toArray = ls at hl ⊢
  have hl : lv_has ls 3 [(0, .ref (a0 0)), (1, .int x1), (2, .int x2)] := hl
  have C0 : cx wsAll vwCl nx p s m [.ref (a0 0), .int x1, .int x2].toArray meth c (dC, dI) (tyA ct) b_PF_state 3 (some .int) R_PF A [adPF a0, adCells a1] := ⟨hx, hb, hr, hml, hown, hlocks, hts, hK, hN, hA, hnx⟩
  have h := hF
  rw [F_PF_state] at h
  refine lv_aload_n hx hb d_PF_state_0 rfl (lv_at hl 0 rfl) ?_
  obtain ⟨k_2, u_3, hG1, h⟩ := bind2_some h
  by_cases hk4 : k_2 = 0
  · subst hk4
    have h := ite_t rfl h
    refine bw_callR (va_runV (As := []) (rest := []) ⟨hx, hb, hml, hown, hts⟩ (c_PF_demandWorkedOut l ct dC dI a0 r0_0 r0_1 r0_4 (a1 0) r0_6 v0 _ o0 hG1) (cwV 0 hts g_PF_125 rfl rfl rfl (by decide +kernel) ⟨Nat.le_of_ble_eq_true rfl, Nat.le_of_ble_eq_true rfl⟩) ⟨bw_blind nx_call, va_recv hK (hP 0 _ rfl) (ci := 5) (q0 := 0) rfl rfl, fun U hU hW => ⟨rfl, by rw [hU], by rw [hU]; exact hP.sub [0] rfl, va_K.moved hW.alike hK, (hN.sub [0] (by decide) rfl).weaken (fun _ _ => trivial), nx_warm hW hnx⟩⟩ rfl rfl hl.1 rfl (Nat.le_of_ble_eq_true rfl) d_PF_state_1 ⟨Nat.le_of_ble_eq_true rfl, Nat.le_of_ble_eq_true rfl⟩) ?_
    refine lv_aload_n hx hb d_PF_state_4 rfl (lv_at hl 0 rfl) ?_
    refine va_get (D := (dC, dI)) (ci := 5) (v := .ref (a1 0)) (C := R_PF) (T := T_PF) (N := 10) hx hb hts in_PF hown hK (hP 0 _ rfl) 0 rfl rfl 5 (by decide) (hts _ fl_PF_40) (fun _ h9 => h9) rfl d_PF_state_5 ?_
    refine va_get (D := (dC, dI)) (ci := 1) (v := .ref (a1 1)) (C := R_Cells) (T := T_Cells) (N := 4) hx hb hts in_Cells hown hK (hP 1 _ rfl) 0 rfl rfl 0 (by decide) (hts _ fl_PF_122) (fun _ h9 => h9) rfl d_PF_state_8 ?_
    refine lv_iload_n hx hb d_PF_state_11 rfl (lv_at hl 1 rfl) ?_
    refine lv_iload_n hx hb d_PF_state_12 rfl (lv_at hl 2 rfl) ?_
    obtain ⟨k_7, v6, hG5, h⟩ := bind2_some h
    by_cases hk8 : k_7 = 0
    · subst hk8
      have h := ite_t rfl h
      refine bw_callR (va_runS (As := [.int x1, .int x2]) (rest := [.ref (a1 1)]) ⟨hx, hb, hml, hown, hts⟩ (c_PF_cellNumber l ct dC dI _ x1 x2 v6 hG5) (cwS 2 hts g_PF_128 rfl rfl rfl (by decide +kernel) ⟨Nat.le_of_ble_eq_true rfl, Nat.le_of_ble_eq_true rfl⟩) ⟨bw_blind nx_call, fun U hU hW => ⟨rfl, by rw [hU], by rw [hU]; exact hP.sub [] rfl, va_K.moved hW.alike hK, (hN.sub [] (by decide) rfl).weaken (fun _ _ => trivial), nx_warm hW hnx⟩⟩ rfl rfl hl.1 rfl (Nat.le_of_ble_eq_true rfl) d_PF_state_13 ⟨Nat.le_of_ble_eq_true rfl, Nat.le_of_ble_eq_true rfl⟩) ?_
      have h := pln_some h
      obtain ⟨hi9, h⟩ := chk_some h
      refine va_iald (f := g32 o1 0) hx hb hK (hP 1 _ rfl) 1 0 rfl rfl (inb_in hi9) d_PF_state_16 ?_
      obtain rfl := res1 h
      exact W.iret hx hb hr (fun t ht hW => ⟨rfl, ht.trans hS.1⟩) (bw_nil hS.2) d_PF_state_17
    · have h := ite_f hk8 h
      exact absurd (thr_eq h) hk8
  · have h := ite_f hk4 h
    exact absurd (thr_eq h) hk4
abbrev rmx_PF_state : Room := { frames := 8, cells := 1, slots := 6, locals := 142 }
set_option maxHeartbeats 4000000 in
set_option maxRecDepth 100000 in
theorem x_PF_state (l : Launch) (hl0 : l.stackTraces = false) (ct dC : Nat → ClassId) (dI : Nat → Nat → Nat) (a0 a1 : Nat → Nat) (r0_0 : Nat) (r0_1 : Nat) (r0_4 : Nat) (r0_6 : Nat) (v0 : Nat → Nat) (sz : Nat) (x1 : Int32) (x2 : Int32) (o0 o1 : Ob) (k : Nat) (r : Int32) (hF : F_PF_state x1 x2 o0 o1 = some (k, r)) (hk : ¬ k = 0) : MetT l y_PF_state ws_PF_state rmx_PF_state (bw_Pc [.ref (a0 0), .int x1, .int x2] (dC, dI) vwCl (tyA ct) [wPF ct a0 r0_0 r0_1 r0_4 (a1 0) r0_6 v0 o0, wCells ct a1 o1] sz thn) (bt_Q (exN k)) 1 6 := by
  refine MetT.ofW (cc := b_PF_state) (maxL := 3) (ret := (some .int)) (by decide) rfl ?_
  intro p e s m args below meth c s₁ B hml hv
  obtain ⟨rfl, hsz, hP, hK, hN0, hnx, hth⟩ := hv
  have hx := B.exec
  have hb := B.bytes
  have hr := B.returns
  have hts : ∀ w ∈ wsAll, w.before [.ref (a0 0), .int x1, .int x2].toArray s = true := fun w h9 => atoms_spec (ws := ws_PF_state) B.pre w (List.mem_cons_of_mem _ h9)
  have hex : c.exceptionTable.isEmpty = true := B.noHandlers (atoms_spec (ws := ws_PF_state) B.pre _ List.mem_cons_self)
  have hown : s.vm.findClass R_PF = some m.cls := findClass_of_methodNamed B.named
  have hlocks := B.notSynchronized
  subst hsz
  have hN : bw_N (fun _ => True) [adPF a0, adCells a1] := hN0
  have hS : s.heap = s.heap ∧ ([] : List Loc) = [] := ⟨rfl, rfl⟩
  have hl := lv_entry ([.ref (a0 0), .int x1, .int x2]) (n := 3) (Nat.le_of_ble_eq_true rfl)
  rw [lg_entry_eq]
  generalize (lg_sl ([.ref (a0 0), .int x1, .int x2]) ++ List.replicate (3 - (lg_sl ([.ref (a0 0), .int x1, .int x2])).length) Slot.unset).toArray = ls at hl ⊢
  have hl : lv_has ls 3 [(0, .ref (a0 0)), (1, .int x1), (2, .int x2)] := hl
  have h := hF
  rw [F_PF_state] at h
  refine lv_aload_n hx hb d_PF_state_0 rfl (lv_at hl 0 rfl) ?_
  obtain ⟨k_2, u_3, hG1, h⟩ := bind2_some h
  by_cases hk4 : k_2 = 0
  · subst hk4
    have h := ite_t rfl h
    refine bw_callR (va_runV (As := []) (rest := []) ⟨hx, hb, hml, hown, hts⟩ (c_PF_demandWorkedOut l ct dC dI a0 r0_0 r0_1 r0_4 (a1 0) r0_6 v0 _ o0 hG1) (cwV 0 hts g_PF_125 rfl rfl rfl (by decide +kernel) ⟨Nat.le_of_ble_eq_true rfl, Nat.le_of_ble_eq_true rfl⟩) ⟨bw_blind nx_call, va_recv hK (hP 0 _ rfl) (ci := 5) (q0 := 0) rfl rfl, fun U hU hW => ⟨rfl, by rw [hU], by rw [hU]; exact hP.sub [0] rfl, va_K.moved hW.alike hK, (hN.sub [0] (by decide) rfl).weaken (fun _ _ => trivial), nx_warm hW hnx⟩⟩ rfl rfl hl.1 rfl (Nat.le_of_ble_eq_true rfl) d_PF_state_1 ⟨Nat.le_of_ble_eq_true rfl, Nat.le_of_ble_eq_true rfl⟩) ?_
    refine lv_aload_n hx hb d_PF_state_4 rfl (lv_at hl 0 rfl) ?_
    refine va_get (D := (dC, dI)) (ci := 5) (v := .ref (a1 0)) (C := R_PF) (T := T_PF) (N := 10) hx hb hts in_PF hown hK (hP 0 _ rfl) 0 rfl rfl 5 (by decide) (hts _ fl_PF_40) (fun _ h9 => h9) rfl d_PF_state_5 ?_
    refine va_get (D := (dC, dI)) (ci := 1) (v := .ref (a1 1)) (C := R_Cells) (T := T_Cells) (N := 4) hx hb hts in_Cells hown hK (hP 1 _ rfl) 0 rfl rfl 0 (by decide) (hts _ fl_PF_122) (fun _ h9 => h9) rfl d_PF_state_8 ?_
    refine lv_iload_n hx hb d_PF_state_11 rfl (lv_at hl 1 rfl) ?_
    refine lv_iload_n hx hb d_PF_state_12 rfl (lv_at hl 2 rfl) ?_
    obtain ⟨k_7, v6, hG5, h⟩ := bind2_some h
    by_cases hk8 : k_7 = 0
    · subst hk8
      have h := ite_t rfl h
      refine bw_callR (va_runS (As := [.int x1, .int x2]) (rest := [.ref (a1 1)]) ⟨hx, hb, hml, hown, hts⟩ (c_PF_cellNumber l ct dC dI _ x1 x2 v6 hG5) (cwS 2 hts g_PF_128 rfl rfl rfl (by decide +kernel) ⟨Nat.le_of_ble_eq_true rfl, Nat.le_of_ble_eq_true rfl⟩) ⟨bw_blind nx_call, fun U hU hW => ⟨rfl, by rw [hU], by rw [hU]; exact hP.sub [] rfl, va_K.moved hW.alike hK, (hN.sub [] (by decide) rfl).weaken (fun _ _ => trivial), nx_warm hW hnx⟩⟩ rfl rfl hl.1 rfl (Nat.le_of_ble_eq_true rfl) d_PF_state_13 ⟨Nat.le_of_ble_eq_true rfl, Nat.le_of_ble_eq_true rfl⟩) ?_
      exact absurd (pln_0 h) hk
    · have h := ite_f hk8 h
      have e9 := (res2 h).1
      rw [e9]
      exact bt_outS (As := [.int x1, .int x2]) (rest := [.ref (a1 1)]) ⟨hx, hb, hml, hown, hts⟩ (x_PF_cellNumber l hl0 ct dC dI _ x1 x2 k_7 v6 hG5 hk8) (cwS 2 hts g_PF_128 rfl rfl rfl (by decide +kernel) ⟨Nat.le_of_ble_eq_true rfl, Nat.le_of_ble_eq_true rfl⟩) ⟨bw_blind thx_call, fun U hU hW => ⟨rfl, by rw [hU], by rw [hU]; exact hP.sub [] rfl, va_K.moved hW.alike hK, (hN.sub [] (by decide) rfl).weaken (fun _ _ => trivial), ⟨nx_warm hW hnx, thx_warm hW hU hth⟩⟩⟩ rfl hl.1 rfl (Nat.le_of_ble_eq_true rfl) d_PF_state_13 hex hlocks ⟨Nat.le_of_ble_eq_true rfl, Nat.le_of_ble_eq_true rfl⟩
  · have h := ite_f hk4 h
    have e9 := (res2 h).1
    rw [e9]
    exact bt_outV (As := []) (rest := []) ⟨hx, hb, hml, hown, hts⟩ (x_PF_demandWorkedOut l hl0 ct dC dI a0 r0_0 r0_1 r0_4 (a1 0) r0_6 v0 _ o0 k_2 hG1 hk4) (cwV 0 hts g_PF_125 rfl rfl rfl (by decide +kernel) ⟨Nat.le_of_ble_eq_true rfl, Nat.le_of_ble_eq_true rfl⟩) ⟨bw_blind thx_call, va_recv hK (hP 0 _ rfl) (ci := 5) (q0 := 0) rfl rfl, fun U hU hW => ⟨rfl, by rw [hU], by rw [hU]; exact hP.sub [0] rfl, va_K.moved hW.alike hK, (hN.sub [0] (by decide) rfl).weaken (fun _ _ => trivial), ⟨nx_warm hW hnx, thx_warm hW hU hth⟩⟩⟩ rfl hl.1 rfl (Nat.le_of_ble_eq_true rfl) d_PF_state_1 hex hlocks ⟨Nat.le_of_ble_eq_true rfl, Nat.le_of_ble_eq_true rfl⟩
def F_PF_demandZeroOrOne (x0 : Int32)  : Option (Nat × Unit) :=
  if x0 = 0 then (pln (some ())) else (if x0 = (1 : Int32) then (pln (some ())) else (some (2, ())))
abbrev ws_PF_demandZeroOrOne : List Cond := Cond.code y_PF_demandZeroOrOne b_PF_demandZeroOrOne 1 (none : Option Jvm.ClassFile.FieldType) :: wsAll
abbrev rm_PF_demandZeroOrOne : Room := { frames := 0, cells := 0, slots := 0, locals := 0 }
set_option maxHeartbeats 4000000 in
set_option maxRecDepth 100000 in
theorem c_PF_demandZeroOrOne (l : Launch) (ct dC : Nat → ClassId) (dI : Nat → Nat → Nat)   (sz : Nat) (x0 : Int32)   (hF : F_PF_demandZeroOrOne x0 = some (0, ())) : Met l y_PF_demandZeroOrOne ws_PF_demandZeroOrOne rm_PF_demandZeroOrOne (bw_Pc [.int x0] (dC, dI) vwCl (tyA ct) [] sz nx) (bw_QR none) 0 0 (fun _ => False) := by
  refine Met.ofW (cc := b_PF_demandZeroOrOne) (maxL := 1) (ret := (none : Option Jvm.ClassFile.FieldType)) (by decide) rfl ?_
  intro p e s m args below meth c s₁ B hml hv
  obtain ⟨rfl, hsz, hP, hK, hN0, hnx⟩ := hv
  have hx := B.exec
  have hb := B.bytes
  have hr := B.returns
  have hts : ∀ w ∈ wsAll, w.before [.int x0].toArray s = true := fun w h9 => atoms_spec (ws := ws_PF_demandZeroOrOne) B.pre w (List.mem_cons_of_mem _ h9)
  have hown : s.vm.findClass R_PF = some m.cls := findClass_of_methodNamed B.named
  have hlocks := B.notSynchronized
  subst hsz
  have hN : bw_N (fun _ => True) [] := hN0
  generalize hAe : (fun _ : Nat => True) = A at hN
  have hA : ∀ q : Nat, s.heap.size ≤ q → A q := fun q _ => by rw [← hAe]; trivial
  have hS : s.heap = s.heap ∧ ([] : List Loc) = [] := ⟨rfl, rfl⟩
  have hl := lv_entry ([.int x0]) (n := 1) (Nat.le_of_ble_eq_true rfl)
  rw [lg_entry_eq]
  generalize (lg_sl ([.int x0]) ++ List.replicate (1 - (lg_sl ([.int x0])).length) Slot.unset).toArray = ls at hl ⊢
  have hl : lv_has ls 1 [(0, .int x0)] := hl
  have C0 : cx wsAll vwCl nx p s m [.int x0].toArray meth c (dC, dI) (tyA ct) b_PF_demandZeroOrOne 1 (none : Option Jvm.ClassFile.FieldType) R_PF A [] := ⟨hx, hb, hr, hml, hown, hlocks, hts, hK, hN, hA, hnx⟩
  have h := hF
  rw [F_PF_demandZeroOrOne] at h
  refine lv_iload_n hx hb d_PF_demandZeroOrOne_0 rfl (lv_at hl 0 rfl) ?_
  refine lv_if_eq (tgt := 19) hx hb d_PF_demandZeroOrOne_1 (by decide) (fun c1 => ?_) (fun c1 => ?_)
  · have h := ite_t c1 h
    have h := pln_some h
    exact W.vret hx hb hr (fun t ht hW => ⟨rfl, ht.trans hS.1⟩) (bw_nil hS.2) d_PF_demandZeroOrOne_19
  · have h := ite_f c1 h
    refine lv_iload_n hx hb d_PF_demandZeroOrOne_4 rfl (lv_at hl 0 rfl) ?_
    refine lv_iconst (v := 1) hx hb d_PF_demandZeroOrOne_5 (by decide) ?_
    refine lv_icmp_eq (tgt := 19) hx hb d_PF_demandZeroOrOne_6 (by decide) (fun c2 => ?_) (fun c2 => ?_)
    · have h := ite_t c2 h
      have h := pln_some h
      exact W.vret hx hb hr (fun t ht hW => ⟨rfl, ht.trans hS.1⟩) (bw_nil hS.2) d_PF_demandZeroOrOne_19
    · have h := ite_f c2 h
      exact (thr_ne h).elim
abbrev rmx_PF_demandZeroOrOne : Room := { frames := 6, cells := 1, slots := 6, locals := 100 }
set_option maxHeartbeats 4000000 in
set_option maxRecDepth 100000 in
theorem x_PF_demandZeroOrOne (l : Launch) (hl0 : l.stackTraces = false) (ct dC : Nat → ClassId) (dI : Nat → Nat → Nat)   (sz : Nat) (x0 : Int32)  (k : Nat)  (hF : F_PF_demandZeroOrOne x0 = some (k, ())) (hk : ¬ k = 0) : MetT l y_PF_demandZeroOrOne ws_PF_demandZeroOrOne rmx_PF_demandZeroOrOne (bw_Pc [.int x0] (dC, dI) vwCl (tyA ct) [] sz thn) (bt_Q (exN k)) 1 6 := by
  refine MetT.ofW (cc := b_PF_demandZeroOrOne) (maxL := 1) (ret := (none : Option Jvm.ClassFile.FieldType)) (by decide) rfl ?_
  intro p e s m args below meth c s₁ B hml hv
  obtain ⟨rfl, hsz, hP, hK, hN0, hnx, hth⟩ := hv
  have hx := B.exec
  have hb := B.bytes
  have hr := B.returns
  have hts : ∀ w ∈ wsAll, w.before [.int x0].toArray s = true := fun w h9 => atoms_spec (ws := ws_PF_demandZeroOrOne) B.pre w (List.mem_cons_of_mem _ h9)
  have hex : c.exceptionTable.isEmpty = true := B.noHandlers (atoms_spec (ws := ws_PF_demandZeroOrOne) B.pre _ List.mem_cons_self)
  have hown : s.vm.findClass R_PF = some m.cls := findClass_of_methodNamed B.named
  have hlocks := B.notSynchronized
  subst hsz
  have hN : bw_N (fun _ => True) [] := hN0
  have hS : s.heap = s.heap ∧ ([] : List Loc) = [] := ⟨rfl, rfl⟩
  have hl := lv_entry ([.int x0]) (n := 1) (Nat.le_of_ble_eq_true rfl)
  rw [lg_entry_eq]
  generalize (lg_sl ([.int x0]) ++ List.replicate (1 - (lg_sl ([.int x0])).length) Slot.unset).toArray = ls at hl ⊢
  have hl : lv_has ls 1 [(0, .int x0)] := hl
  have h := hF
  rw [F_PF_demandZeroOrOne] at h
  refine lv_iload_n hx hb d_PF_demandZeroOrOne_0 rfl (lv_at hl 0 rfl) ?_
  refine lv_if_eq (tgt := 19) hx hb d_PF_demandZeroOrOne_1 (by decide) (fun c1 => ?_) (fun c1 => ?_)
  · have h := ite_t c1 h
    exact absurd (pln_0 h) hk
  · have h := ite_f c1 h
    refine lv_iload_n hx hb d_PF_demandZeroOrOne_4 rfl (lv_at hl 0 rfl) ?_
    refine lv_iconst (v := 1) hx hb d_PF_demandZeroOrOne_5 (by decide) ?_
    refine lv_icmp_eq (tgt := 19) hx hb d_PF_demandZeroOrOne_6 (by decide) (fun c2 => ?_) (fun c2 => ?_)
    · have h := ite_t c2 h
      exact absurd (pln_0 h) hk
    · have h := ite_f c2 h
      have e9 := (res2 h).1
      rw [e9]
      obtain ⟨q9, hq9⟩ := thx_s8 hth
      exact bt_throw hx hb hl0 hown (by decide) (by decide) (at_2 hts hth) (hts _ cl_PF_93) (hts _ ins_IllegalArgumentException) (hts _ ini_IllegalArgumentException) hq9 d_PF_demandZeroOrOne_9 d_PF_demandZeroOrOne_12 d_PF_demandZeroOrOne_13 d_PF_demandZeroOrOne_15 d_PF_demandZeroOrOne_18 hex (hl.1.trans hml.symm) hlocks (Nat.le_of_ble_eq_true rfl) (Nat.le_of_ble_eq_true rfl) (Nat.le_of_ble_eq_true rfl) (Nat.le_of_ble_eq_true rfl)
theorem g_PF_132 : GoodIn wsAll (wsS R_PF 132 y_PF_demandZeroOrOne ws_PF_demandZeroOrOne) := gd_S ml_PF_132 st_PF_demandZeroOrOne ini_PF cd_PF_demandZeroOrOne
def F_PF_size (x1 : Int32) (x2 : Int32) (x3 : Int32) (o0 o1 : Ob) : Option (Nat × Int64) :=
  bind2 (F_PF_cellNumber x1 x2) (fun k_3 v2 => if k_3 = 0 then (bind2 (F_PF_demandZeroOrOne x3) (fun k_6 u_7 => if k_6 = 0 then (bind2 (F_PF_demandWorkedOut o0) (fun k_10 u_11 => if k_10 = 0 then (chk (inb v2 60) (if (g32 o1 0 (Int32.toNatClampNeg v2)) = (1 : Int32) then (pln (if x3 = 0 then (some (g64 o1 1 (Int32.toNatClampNeg v2))) else (some (g64 o1 2 (Int32.toNatClampNeg v2))))) else (some (1, (0 : Int64))))) else (some (k_10, (0 : Int64))))) else (some (k_6, (0 : Int64))))) else (some (k_3, (0 : Int64))))
abbrev ws_PF_size : List Cond := Cond.code y_PF_size b_PF_size 5 (some .long) :: wsAll
abbrev rm_PF_size : Room := { frames := 2, cells := 0, slots := 0, locals := 42 }
set_option maxHeartbeats 4000000 in
set_option maxRecDepth 100000 in
theorem c_PF_size (l : Launch) (ct dC : Nat → ClassId) (dI : Nat → Nat → Nat) (a0 a1 : Nat → Nat) (r0_0 : Nat) (r0_1 : Nat) (r0_4 : Nat) (r0_6 : Nat) (v0 : Nat → Nat) (sz : Nat) (x1 : Int32) (x2 : Int32) (x3 : Int32) (o0 o1 : Ob) (r : Int64) (hF : F_PF_size x1 x2 x3 o0 o1 = some (0, r)) : Met l y_PF_size ws_PF_size rm_PF_size (bw_Pc [.ref (a0 0), .int x1, .int x2, .int x3] (dC, dI) vwCl (tyA ct) [wPF ct a0 r0_0 r0_1 r0_4 (a1 0) r0_6 v0 o0, wCells ct a1 o1] sz nx) (bw_QR (some (.long r))) 0 0 (fun _ => False) := by
  refine Met.ofW (cc := b_PF_size) (maxL := 5) (ret := (some .long)) (by decide) rfl ?_
  intro p e s m args below meth c s₁ B hml hv
  obtain ⟨rfl, hsz, hP, hK, hN0, hnx⟩ := hv
  have hx := B.exec
  have hb := B.bytes
  have hr := B.returns
  have hts : ∀ w ∈ wsAll, w.before [.ref (a0 0), .int x1, .int x2, .int x3].toArray s = true := fun w h9 => atoms_spec (ws := ws_PF_size) B.pre w (List.mem_cons_of_mem _ h9)
  have hown : s.vm.findClass R_PF = some m.cls := findClass_of_methodNamed B.named
  have hlocks := B.notSynchronized
  subst hsz
  have hN : bw_N (fun _ => True) [adPF a0, adCells a1] := hN0
  generalize hAe : (fun _ : Nat => True) = A at hN
  have hA : ∀ q : Nat, s.heap.size ≤ q → A q := fun q _ => by rw [← hAe]; trivial
  have hS : s.heap = s.heap ∧ ([] : List Loc) = [] := ⟨rfl, rfl⟩
  have hl := lv_entry ([.ref (a0 0), .int x1, .int x2, .int x3]) (n := 5) (Nat.le_of_ble_eq_true rfl)
  rw [lg_entry_eq]
  generalize (lg_sl ([.ref (a0 0), .int x1, .int x2, .int x3]) ++ List.replicate (5 - (lg_sl ([.ref (a0 0), .int x1, .int x2, .int x3])).length) Slot.unset).toArray = ls at hl ⊢
  have hl : lv_has ls 5 [(0, .ref (a0 0)), (1, .int x1), (2, .int x2), (3, .int x3)] := hl
  have C0 : cx wsAll vwCl nx p s m [.ref (a0 0), .int x1, .int x2, .int x3].toArray meth c (dC, dI) (tyA ct) b_PF_size 5 (some .long) R_PF A [adPF a0, adCells a1] := ⟨hx, hb, hr, hml, hown, hlocks, hts, hK, hN, hA, hnx⟩
  have h := hF
  rw [F_PF_size] at h
  refine lv_iload_n hx hb d_PF_size_0 rfl (lv_at hl 1 rfl) ?_
  refine lv_iload_n hx hb d_PF_size_1 rfl (lv_at hl 2 rfl) ?_
  obtain ⟨k_3, v2, hG1, h⟩ := bind2_some h
  by_cases hk4 : k_3 = 0
  · subst hk4
    have h := ite_t rfl h
    refine bw_callR (va_runS (As := [.int x1, .int x2]) (rest := []) ⟨hx, hb, hml, hown, hts⟩ (c_PF_cellNumber l ct dC dI _ x1 x2 v2 hG1) (cwS 2 hts g_PF_128 rfl rfl rfl (by decide +kernel) ⟨Nat.le_of_ble_eq_true rfl, Nat.le_of_ble_eq_true rfl⟩) ⟨bw_blind nx_call, fun U hU hW => ⟨rfl, by rw [hU], by rw [hU]; exact hP.sub [] rfl, va_K.moved hW.alike hK, (hN.sub [] (by decide) rfl).weaken (fun _ _ => trivial), nx_warm hW hnx⟩⟩ rfl rfl hl.1 rfl (Nat.le_of_ble_eq_true rfl) d_PF_size_2 ⟨Nat.le_of_ble_eq_true rfl, Nat.le_of_ble_eq_true rfl⟩) ?_
    refine lv_istore (lv' := [(4, .int v2), (0, .ref (a0 0)), (1, .int x1), (2, .int x2), (3, .int x3)]) hx hb d_PF_size_5 hl (by decide) rfl (fun ls hl => ?_)
    refine lv_iload_n hx hb d_PF_size_7 rfl (lv_at hl 4 rfl) ?_
    obtain ⟨k_6, u_7, hG5, h⟩ := bind2_some h
    by_cases hk8 : k_6 = 0
    · subst hk8
      have h := ite_t rfl h
      refine bw_callR (va_runS (As := [.int x3]) (rest := []) ⟨hx, hb, hml, hown, hts⟩ (c_PF_demandZeroOrOne l ct dC dI _ x3 hG5) (cwS 1 hts g_PF_132 rfl rfl rfl (by decide +kernel) ⟨Nat.le_of_ble_eq_true rfl, Nat.le_of_ble_eq_true rfl⟩) ⟨bw_blind nx_call, fun U hU hW => ⟨rfl, by rw [hU], by rw [hU]; exact hP.sub [] rfl, va_K.moved hW.alike hK, (hN.sub [] (by decide) rfl).weaken (fun _ _ => trivial), nx_warm hW hnx⟩⟩ rfl rfl hl.1 rfl (Nat.le_of_ble_eq_true rfl) d_PF_size_8 ⟨Nat.le_of_ble_eq_true rfl, Nat.le_of_ble_eq_true rfl⟩) ?_
      refine lv_aload_n hx hb d_PF_size_11 rfl (lv_at hl 1 rfl) ?_
      obtain ⟨k_10, u_11, hG9, h⟩ := bind2_some h
      by_cases hk12 : k_10 = 0
      · subst hk12
        have h := ite_t rfl h
        refine bw_callR (va_runV (As := []) (rest := []) ⟨hx, hb, hml, hown, hts⟩ (c_PF_demandWorkedOut l ct dC dI a0 r0_0 r0_1 r0_4 (a1 0) r0_6 v0 _ o0 hG9) (cwV 0 hts g_PF_125 rfl rfl rfl (by decide +kernel) ⟨Nat.le_of_ble_eq_true rfl, Nat.le_of_ble_eq_true rfl⟩) ⟨bw_blind nx_call, va_recv hK (hP 0 _ rfl) (ci := 5) (q0 := 0) rfl rfl, fun U hU hW => ⟨rfl, by rw [hU], by rw [hU]; exact hP.sub [0] rfl, va_K.moved hW.alike hK, (hN.sub [0] (by decide) rfl).weaken (fun _ _ => trivial), nx_warm hW hnx⟩⟩ rfl rfl hl.1 rfl (Nat.le_of_ble_eq_true rfl) d_PF_size_12 ⟨Nat.le_of_ble_eq_true rfl, Nat.le_of_ble_eq_true rfl⟩) ?_
        refine lv_aload_n hx hb d_PF_size_15 rfl (lv_at hl 1 rfl) ?_
        refine va_get (D := (dC, dI)) (ci := 5) (v := .ref (a1 0)) (C := R_PF) (T := T_PF) (N := 10) hx hb hts in_PF hown hK (hP 0 _ rfl) 0 rfl rfl 5 (by decide) (hts _ fl_PF_40) (fun _ h9 => h9) rfl d_PF_size_16 ?_
        refine va_get (D := (dC, dI)) (ci := 1) (v := .ref (a1 1)) (C := R_Cells) (T := T_Cells) (N := 4) hx hb hts in_Cells hown hK (hP 1 _ rfl) 0 rfl rfl 0 (by decide) (hts _ fl_PF_122) (fun _ h9 => h9) rfl d_PF_size_19 ?_
        refine lv_iload hx hb d_PF_size_22 (lv_at hl 0 rfl) ?_
        obtain ⟨hi13, h⟩ := chk_some h
        refine va_iald (f := g32 o1 0) hx hb hK (hP 1 _ rfl) 1 0 rfl rfl (inb_in hi13) d_PF_size_24 ?_
        refine lv_iconst (v := 1) hx hb d_PF_size_25 (by decide) ?_
        refine lv_icmp_eq (tgt := 39) hx hb d_PF_size_26 (by decide) (fun c14 => ?_) (fun c14 => ?_)
        · have h := ite_t c14 h
          have h := pln_some h
          refine lv_iload_n hx hb d_PF_size_39 rfl (lv_at hl 4 rfl) ?_
          refine lv_if_ne (tgt := 56) hx hb d_PF_size_40 (by decide) (fun c15 => ?_) (fun c15 => ?_)
          · have h := ite_f c15 h
            refine lv_aload_n hx hb d_PF_size_56 rfl (lv_at hl 1 rfl) ?_
            refine va_get (D := (dC, dI)) (ci := 5) (v := .ref (a1 0)) (C := R_PF) (T := T_PF) (N := 10) hx hb hts in_PF hown hK (hP 0 _ rfl) 0 rfl rfl 5 (by decide) (hts _ fl_PF_40) (fun _ h9 => h9) rfl d_PF_size_57 ?_
            refine va_get (D := (dC, dI)) (ci := 1) (v := .ref (a1 3)) (C := R_Cells) (T := T_Cells) (N := 4) hx hb hts in_Cells hown hK (hP 1 _ rfl) 0 rfl rfl 2 (by decide) (hts _ fl_PF_144) (fun _ h9 => h9) rfl d_PF_size_60 ?_
            refine lv_iload hx hb d_PF_size_63 (lv_at hl 0 rfl) ?_
            refine va_lald (f := g64 o1 2) hx hb hK (hP 1 _ rfl) 3 1 rfl rfl (inb_in hi13) d_PF_size_65 ?_
            obtain rfl := res1 h
            exact W.lret hx hb hr (fun t ht hW => ⟨rfl, ht.trans hS.1⟩) (bw_nil hS.2) d_PF_size_66
          · have h := ite_t c15 h
            refine lv_aload_n hx hb d_PF_size_43 rfl (lv_at hl 1 rfl) ?_
            refine va_get (D := (dC, dI)) (ci := 5) (v := .ref (a1 0)) (C := R_PF) (T := T_PF) (N := 10) hx hb hts in_PF hown hK (hP 0 _ rfl) 0 rfl rfl 5 (by decide) (hts _ fl_PF_40) (fun _ h9 => h9) rfl d_PF_size_44 ?_
            refine va_get (D := (dC, dI)) (ci := 1) (v := .ref (a1 2)) (C := R_Cells) (T := T_Cells) (N := 4) hx hb hts in_Cells hown hK (hP 1 _ rfl) 0 rfl rfl 1 (by decide) (hts _ fl_PF_140) (fun _ h9 => h9) rfl d_PF_size_47 ?_
            refine lv_iload hx hb d_PF_size_50 (lv_at hl 0 rfl) ?_
            refine va_lald (f := g64 o1 1) hx hb hK (hP 1 _ rfl) 2 1 rfl rfl (inb_in hi13) d_PF_size_52 ?_
            refine lv_goto (tgt := 66) hx hb d_PF_size_53 (by decide) ?_
            obtain rfl := res1 h
            exact W.lret hx hb hr (fun t ht hW => ⟨rfl, ht.trans hS.1⟩) (bw_nil hS.2) d_PF_size_66
        · have h := ite_f c14 h
          exact (thr_ne h).elim
      · have h := ite_f hk12 h
        exact absurd (thr_eq h) hk12
    · have h := ite_f hk8 h
      exact absurd (thr_eq h) hk8
  · have h := ite_f hk4 h
    exact absurd (thr_eq h) hk4
abbrev rmx_PF_size : Room := { frames := 8, cells := 1, slots := 6, locals := 142 }
set_option maxHeartbeats 4000000 in
set_option maxRecDepth 100000 in
theorem x_PF_size (l : Launch) (hl0 : l.stackTraces = false) (ct dC : Nat → ClassId) (dI : Nat → Nat → Nat) (a0 a1 : Nat → Nat) (r0_0 : Nat) (r0_1 : Nat) (r0_4 : Nat) (r0_6 : Nat) (v0 : Nat → Nat) (sz : Nat) (x1 : Int32) (x2 : Int32) (x3 : Int32) (o0 o1 : Ob) (k : Nat) (r : Int64) (hF : F_PF_size x1 x2 x3 o0 o1 = some (k, r)) (hk : ¬ k = 0) : MetT l y_PF_size ws_PF_size rmx_PF_size (bw_Pc [.ref (a0 0), .int x1, .int x2, .int x3] (dC, dI) vwCl (tyA ct) [wPF ct a0 r0_0 r0_1 r0_4 (a1 0) r0_6 v0 o0, wCells ct a1 o1] sz thn) (bt_Q (exN k)) 1 6 := by
  refine MetT.ofW (cc := b_PF_size) (maxL := 5) (ret := (some .long)) (by decide) rfl ?_
  intro p e s m args below meth c s₁ B hml hv
  obtain ⟨rfl, hsz, hP, hK, hN0, hnx, hth⟩ := hv
  have hx := B.exec
  have hb := B.bytes
  have hr := B.returns
  have hts : ∀ w ∈ wsAll, w.before [.ref (a0 0), .int x1, .int x2, .int x3].toArray s = true := fun w h9 => atoms_spec (ws := ws_PF_size) B.pre w (List.mem_cons_of_mem _ h9)
  have hex : c.exceptionTable.isEmpty = true := B.noHandlers (atoms_spec (ws := ws_PF_size) B.pre _ List.mem_cons_self)
  have hown : s.vm.findClass R_PF = some m.cls := findClass_of_methodNamed B.named
  have hlocks := B.notSynchronized
  subst hsz
  have hN : bw_N (fun _ => True) [adPF a0, adCells a1] := hN0
  have hS : s.heap = s.heap ∧ ([] : List Loc) = [] := ⟨rfl, rfl⟩
  have hl := lv_entry ([.ref (a0 0), .int x1, .int x2, .int x3]) (n := 5) (Nat.le_of_ble_eq_true rfl)
  rw [lg_entry_eq]
  generalize (lg_sl ([.ref (a0 0), .int x1, .int x2, .int x3]) ++ List.replicate (5 - (lg_sl ([.ref (a0 0), .int x1, .int x2, .int x3])).length) Slot.unset).toArray = ls at hl ⊢
  have hl : lv_has ls 5 [(0, .ref (a0 0)), (1, .int x1), (2, .int x2), (3, .int x3)] := hl
  have h := hF
  rw [F_PF_size] at h
  refine lv_iload_n hx hb d_PF_size_0 rfl (lv_at hl 1 rfl) ?_
  refine lv_iload_n hx hb d_PF_size_1 rfl (lv_at hl 2 rfl) ?_
  obtain ⟨k_3, v2, hG1, h⟩ := bind2_some h
  by_cases hk4 : k_3 = 0
  · subst hk4
    have h := ite_t rfl h
    refine bw_callR (va_runS (As := [.int x1, .int x2]) (rest := []) ⟨hx, hb, hml, hown, hts⟩ (c_PF_cellNumber l ct dC dI _ x1 x2 v2 hG1) (cwS 2 hts g_PF_128 rfl rfl rfl (by decide +kernel) ⟨Nat.le_of_ble_eq_true rfl, Nat.le_of_ble_eq_true rfl⟩) ⟨bw_blind nx_call, fun U hU hW => ⟨rfl, by rw [hU], by rw [hU]; exact hP.sub [] rfl, va_K.moved hW.alike hK, (hN.sub [] (by decide) rfl).weaken (fun _ _ => trivial), nx_warm hW hnx⟩⟩ rfl rfl hl.1 rfl (Nat.le_of_ble_eq_true rfl) d_PF_size_2 ⟨Nat.le_of_ble_eq_true rfl, Nat.le_of_ble_eq_true rfl⟩) ?_
    refine lv_istore (lv' := [(4, .int v2), (0, .ref (a0 0)), (1, .int x1), (2, .int x2), (3, .int x3)]) hx hb d_PF_size_5 hl (by decide) rfl (fun ls hl => ?_)
    refine lv_iload_n hx hb d_PF_size_7 rfl (lv_at hl 4 rfl) ?_
    obtain ⟨k_6, u_7, hG5, h⟩ := bind2_some h
    by_cases hk8 : k_6 = 0
    · subst hk8
      have h := ite_t rfl h
      refine bw_callR (va_runS (As := [.int x3]) (rest := []) ⟨hx, hb, hml, hown, hts⟩ (c_PF_demandZeroOrOne l ct dC dI _ x3 hG5) (cwS 1 hts g_PF_132 rfl rfl rfl (by decide +kernel) ⟨Nat.le_of_ble_eq_true rfl, Nat.le_of_ble_eq_true rfl⟩) ⟨bw_blind nx_call, fun U hU hW => ⟨rfl, by rw [hU], by rw [hU]; exact hP.sub [] rfl, va_K.moved hW.alike hK, (hN.sub [] (by decide) rfl).weaken (fun _ _ => trivial), nx_warm hW hnx⟩⟩ rfl rfl hl.1 rfl (Nat.le_of_ble_eq_true rfl) d_PF_size_8 ⟨Nat.le_of_ble_eq_true rfl, Nat.le_of_ble_eq_true rfl⟩) ?_
      refine lv_aload_n hx hb d_PF_size_11 rfl (lv_at hl 1 rfl) ?_
      obtain ⟨k_10, u_11, hG9, h⟩ := bind2_some h
      by_cases hk12 : k_10 = 0
      · subst hk12
        have h := ite_t rfl h
        refine bw_callR (va_runV (As := []) (rest := []) ⟨hx, hb, hml, hown, hts⟩ (c_PF_demandWorkedOut l ct dC dI a0 r0_0 r0_1 r0_4 (a1 0) r0_6 v0 _ o0 hG9) (cwV 0 hts g_PF_125 rfl rfl rfl (by decide +kernel) ⟨Nat.le_of_ble_eq_true rfl, Nat.le_of_ble_eq_true rfl⟩) ⟨bw_blind nx_call, va_recv hK (hP 0 _ rfl) (ci := 5) (q0 := 0) rfl rfl, fun U hU hW => ⟨rfl, by rw [hU], by rw [hU]; exact hP.sub [0] rfl, va_K.moved hW.alike hK, (hN.sub [0] (by decide) rfl).weaken (fun _ _ => trivial), nx_warm hW hnx⟩⟩ rfl rfl hl.1 rfl (Nat.le_of_ble_eq_true rfl) d_PF_size_12 ⟨Nat.le_of_ble_eq_true rfl, Nat.le_of_ble_eq_true rfl⟩) ?_
        refine lv_aload_n hx hb d_PF_size_15 rfl (lv_at hl 1 rfl) ?_
        refine va_get (D := (dC, dI)) (ci := 5) (v := .ref (a1 0)) (C := R_PF) (T := T_PF) (N := 10) hx hb hts in_PF hown hK (hP 0 _ rfl) 0 rfl rfl 5 (by decide) (hts _ fl_PF_40) (fun _ h9 => h9) rfl d_PF_size_16 ?_
        refine va_get (D := (dC, dI)) (ci := 1) (v := .ref (a1 1)) (C := R_Cells) (T := T_Cells) (N := 4) hx hb hts in_Cells hown hK (hP 1 _ rfl) 0 rfl rfl 0 (by decide) (hts _ fl_PF_122) (fun _ h9 => h9) rfl d_PF_size_19 ?_
        refine lv_iload hx hb d_PF_size_22 (lv_at hl 0 rfl) ?_
        obtain ⟨hi13, h⟩ := chk_some h
        refine va_iald (f := g32 o1 0) hx hb hK (hP 1 _ rfl) 1 0 rfl rfl (inb_in hi13) d_PF_size_24 ?_
        refine lv_iconst (v := 1) hx hb d_PF_size_25 (by decide) ?_
        refine lv_icmp_eq (tgt := 39) hx hb d_PF_size_26 (by decide) (fun c14 => ?_) (fun c14 => ?_)
        · have h := ite_t c14 h
          exact absurd (pln_0 h) hk
        · have h := ite_f c14 h
          have e9 := (res2 h).1
          rw [e9]
          obtain ⟨q9, hq9⟩ := thx_s1 hth
          exact bt_throw hx hb hl0 hown (by decide) (by decide) (at_1 hts hth) (hts _ cl_PF_135) (hts _ ins_IllegalStateException) (hts _ ini_IllegalStateException) hq9 d_PF_size_29 d_PF_size_32 d_PF_size_33 d_PF_size_35 d_PF_size_38 hex (hl.1.trans hml.symm) hlocks (Nat.le_of_ble_eq_true rfl) (Nat.le_of_ble_eq_true rfl) (Nat.le_of_ble_eq_true rfl) (Nat.le_of_ble_eq_true rfl)
      · have h := ite_f hk12 h
        have e9 := (res2 h).1
        rw [e9]
        exact bt_outV (As := []) (rest := []) ⟨hx, hb, hml, hown, hts⟩ (x_PF_demandWorkedOut l hl0 ct dC dI a0 r0_0 r0_1 r0_4 (a1 0) r0_6 v0 _ o0 k_10 hG9 hk12) (cwV 0 hts g_PF_125 rfl rfl rfl (by decide +kernel) ⟨Nat.le_of_ble_eq_true rfl, Nat.le_of_ble_eq_true rfl⟩) ⟨bw_blind thx_call, va_recv hK (hP 0 _ rfl) (ci := 5) (q0 := 0) rfl rfl, fun U hU hW => ⟨rfl, by rw [hU], by rw [hU]; exact hP.sub [0] rfl, va_K.moved hW.alike hK, (hN.sub [0] (by decide) rfl).weaken (fun _ _ => trivial), ⟨nx_warm hW hnx, thx_warm hW hU hth⟩⟩⟩ rfl hl.1 rfl (Nat.le_of_ble_eq_true rfl) d_PF_size_12 hex hlocks ⟨Nat.le_of_ble_eq_true rfl, Nat.le_of_ble_eq_true rfl⟩
    · have h := ite_f hk8 h
      have e9 := (res2 h).1
      rw [e9]
      exact bt_outS (As := [.int x3]) (rest := []) ⟨hx, hb, hml, hown, hts⟩ (x_PF_demandZeroOrOne l hl0 ct dC dI _ x3 k_6 hG5 hk8) (cwS 1 hts g_PF_132 rfl rfl rfl (by decide +kernel) ⟨Nat.le_of_ble_eq_true rfl, Nat.le_of_ble_eq_true rfl⟩) ⟨bw_blind thx_call, fun U hU hW => ⟨rfl, by rw [hU], by rw [hU]; exact hP.sub [] rfl, va_K.moved hW.alike hK, (hN.sub [] (by decide) rfl).weaken (fun _ _ => trivial), ⟨nx_warm hW hnx, thx_warm hW hU hth⟩⟩⟩ rfl hl.1 rfl (Nat.le_of_ble_eq_true rfl) d_PF_size_8 hex hlocks ⟨Nat.le_of_ble_eq_true rfl, Nat.le_of_ble_eq_true rfl⟩
  · have h := ite_f hk4 h
    have e9 := (res2 h).1
    rw [e9]
    exact bt_outS (As := [.int x1, .int x2]) (rest := []) ⟨hx, hb, hml, hown, hts⟩ (x_PF_cellNumber l hl0 ct dC dI _ x1 x2 k_3 v2 hG1 hk4) (cwS 2 hts g_PF_128 rfl rfl rfl (by decide +kernel) ⟨Nat.le_of_ble_eq_true rfl, Nat.le_of_ble_eq_true rfl⟩) ⟨bw_blind thx_call, fun U hU hW => ⟨rfl, by rw [hU], by rw [hU]; exact hP.sub [] rfl, va_K.moved hW.alike hK, (hN.sub [] (by decide) rfl).weaken (fun _ _ => trivial), ⟨nx_warm hW hnx, thx_warm hW hU hth⟩⟩⟩ rfl hl.1 rfl (Nat.le_of_ble_eq_true rfl) d_PF_size_2 hex hlocks ⟨Nat.le_of_ble_eq_true rfl, Nat.le_of_ble_eq_true rfl⟩
theorem g_PF_147 : GoodIn wsAll (wsV R_PF 147 R_Text y_Text_isRing ws_Text_isRing) := gd_V ml_PF_147 im_Text_isRing se_Text_isRing ini_Text cd_Text_isRing
def F_PF_ring_12 (o0 o1 : Ob)  : Nat → Int32 → Int32 → Int32 → Option (Int32)
  | 0, _, _, _ => none
  | n + 1, x1, x2, x3 =>
    if (60 : Int32) ≤ x3 then (some (-1 : Int32)) else (bind1 (F_Text_isRing x3 o1) (fun v11 => if (b2i v11) = 0 then (F_PF_ring_12 o0 o1 n x1 x2 (x3 + (1 : Int32))) else (if x2 = x1 then (some x3) else (F_PF_ring_12 o0 o1 n x1 (x2 + (1 : Int32)) (x3 + (1 : Int32))))))
def F_PF_ring (x1 : Int32) (o0 o1 : Ob) : Option (Nat × Int32) :=
  bind2 (F_PF_demandRead o0) (fun k_2 u_3 => if k_2 = 0 then (bind2 (F_PF_demandNotNegative x1) (fun k_6 u_7 => if k_6 = 0 then (pln (F_PF_ring_12 o0 o1 fuel x1 (0 : Int32) (0 : Int32))) else (some (k_6, (0 : Int32))))) else (some (k_2, (0 : Int32))))
abbrev ws_PF_ring : List Cond := Cond.code y_PF_ring b_PF_ring 4 (some .int) :: wsAll
abbrev rm_PF_ring : Room := { frames := 2, cells := 0, slots := 0, locals := 43 }
set_option maxHeartbeats 4000000 in
set_option maxRecDepth 100000 in
theorem k_PF_ring_12 {p : Program} {l : Launch} {e : Env} {s : State} {m : MethodId} {args : Array Value} {below : List Frame} {meth : Method} {c : Code} {A : Nat → Prop} {ct dC : Nat → ClassId} {dI : Nat → Nat → Nat} {a0 a1 : Nat → Nat} {r0_0 : Nat} {r0_4 : Nat} {r0_5 : Nat} {r0_6 : Nat} {v0 : Nat → Nat} {r1_2 : Nat} {r : Int32} {o0 o1 : Ob}  (C0 : cx wsAll vwCl nx p s m args meth c (dC, dI) (tyA ct) b_PF_ring 4 (some .int) R_PF A [adPF a0, adText a1])  : ∀ (n : Nat) (x1 : Int32) (x2 : Int32) (x3 : Int32) (H : Heap) (locs : List Loc) (ls : Array Slot), bw_P (dC, dI) vwCl [wPF ct a0 r0_0 (a1 0) r0_4 r0_5 r0_6 v0 o0, wText ct a1 r1_2 o1] H → (H = s.heap ∧ locs = []) → lv_has ls 4 [(0, .ref (a0 0)), (1, .int x1), (2, .int x2), (3, .int x3)] → F_PF_ring_12 o0 o1 n x1 x2 x3 = some r → W p l e (headSpec ws_PF_ring rm_PF_ring).room s m args below meth c H locs 0 0 (MQ below (bw_QR (some (.int r))) args s 0 0 (fun _ => False)) (F0 m 12 ls []) := by
  obtain ⟨hx, hb, hr, hml, hown, hlocks, hts, hK, hN, hA, hnx⟩ := id C0
  intro n
  induction n with
  | zero =>
    intro x1 x2 x3 H locs ls hP hS hl h
    cases h
  | succ n ih =>
    intro x1 x2 x3 H locs ls hP hS hl h
    rw [F_PF_ring_12] at h
    refine lv_iload_n hx hb d_PF_ring_12 rfl (lv_at hl 3 rfl) ?_
    refine lv_bipush (v := 60) hx hb d_PF_ring_13 (by decide) ?_
    refine lv_icmp_ge (tgt := 45) hx hb d_PF_ring_15 (by decide) (fun c9 => ?_) (fun c9 => ?_)
    · have h := ite_t c9 h
      refine lv_iconst (v := -1) hx hb d_PF_ring_45 (by decide) ?_
      obtain rfl := res1 h
      exact W.iret hx hb hr (fun t ht hW => ⟨rfl, ht.trans hS.1⟩) (bw_nil hS.2) d_PF_ring_46
    · have h := ite_f c9 h
      refine lv_aload_n hx hb d_PF_ring_18 rfl (lv_at hl 0 rfl) ?_
      refine va_get (D := (dC, dI)) (ci := 5) (v := .ref (a1 0)) (C := R_PF) (T := T_PF) (N := 10) hx hb hts in_PF hown hK (hP 0 _ rfl) 0 rfl rfl 1 (by decide) (hts _ fl_PF_19) (fun _ h9 => h9) rfl d_PF_ring_19 ?_
      refine lv_iload_n hx hb d_PF_ring_22 rfl (lv_at hl 3 rfl) ?_
      obtain ⟨v11, hG10, h⟩ := bind1_some h
      refine bw_callR (va_runV (As := [.int x3]) (rest := []) ⟨hx, hb, hml, hown, hts⟩ (c_Text_isRing l ct dC dI a1 r1_2 _ x3 o1 v11 hG10) (cwV 1 hts g_PF_147 rfl rfl rfl (by decide +kernel) ⟨Nat.le_of_ble_eq_true rfl, Nat.le_of_ble_eq_true rfl⟩) ⟨bw_blind nx_call, va_recv hK (hP 1 _ rfl) (ci := 2) (q0 := 0) rfl rfl, fun U hU hW => ⟨rfl, by rw [hU], by rw [hU]; exact hP.sub [1] rfl, va_K.moved hW.alike hK, (hN.sub [1] (by decide) rfl).weaken (fun _ _ => trivial), nx_warm hW hnx⟩⟩ rfl rfl hl.1 rfl (Nat.le_of_ble_eq_true rfl) d_PF_ring_23 ⟨Nat.le_of_ble_eq_true rfl, Nat.le_of_ble_eq_true rfl⟩) ?_
      refine lv_if_eq (tgt := 39) hx hb d_PF_ring_26 (by decide) (fun c12 => ?_) (fun c12 => ?_)
      · have h := ite_t c12 h
        refine lv_iinc (v := (x3 + (1 : Int32))) (lv' := [(3, .int (x3 + (1 : Int32))), (0, .ref (a0 0)), (1, .int x1), (2, .int x2)]) hx hb d_PF_ring_39 hl (k := 3) rfl rfl (by decide) rfl (fun ls hl => ?_)
        refine lv_goto (tgt := 12) hx hb d_PF_ring_42 (by decide) ?_
        exact ih x1 x2 (x3 + (1 : Int32)) _ _ _ hP hS (lv_sub hl [1, 2, 3, 0] rfl) h
      · have h := ite_f c12 h
        refine lv_iload_n hx hb d_PF_ring_29 rfl (lv_at hl 2 rfl) ?_
        refine lv_iload_n hx hb d_PF_ring_30 rfl (lv_at hl 1 rfl) ?_
        refine lv_icmp_ne (tgt := 36) hx hb d_PF_ring_31 (by decide) (fun c13 => ?_) (fun c13 => ?_)
        · have h := ite_f c13 h
          refine lv_iinc (v := (x2 + (1 : Int32))) (lv' := [(2, .int (x2 + (1 : Int32))), (0, .ref (a0 0)), (1, .int x1), (3, .int x3)]) hx hb d_PF_ring_36 hl (k := 2) rfl rfl (by decide) rfl (fun ls hl => ?_)
          refine lv_iinc (v := (x3 + (1 : Int32))) (lv' := [(3, .int (x3 + (1 : Int32))), (2, .int (x2 + (1 : Int32))), (0, .ref (a0 0)), (1, .int x1)]) hx hb d_PF_ring_39 hl (k := 3) rfl rfl (by decide) rfl (fun ls hl => ?_)
          refine lv_goto (tgt := 12) hx hb d_PF_ring_42 (by decide) ?_
          exact ih x1 (x2 + (1 : Int32)) (x3 + (1 : Int32)) _ _ _ hP hS (lv_sub hl [2, 3, 1, 0] rfl) h
        · have h := ite_t c13 h
          refine lv_iload_n hx hb d_PF_ring_34 rfl (lv_at hl 3 rfl) ?_
          obtain rfl := res1 h
          exact W.iret hx hb hr (fun t ht hW => ⟨rfl, ht.trans hS.1⟩) (bw_nil hS.2) d_PF_ring_35
set_option maxHeartbeats 4000000 in
set_option maxRecDepth 100000 in
theorem c_PF_ring (l : Launch) (ct dC : Nat → ClassId) (dI : Nat → Nat → Nat) (a0 a1 : Nat → Nat) (r0_0 : Nat) (r0_4 : Nat) (r0_5 : Nat) (r0_6 : Nat) (v0 : Nat → Nat) (r1_2 : Nat) (sz : Nat) (x1 : Int32) (o0 o1 : Ob) (r : Int32) (hF : F_PF_ring x1 o0 o1 = some (0, r)) : Met l y_PF_ring ws_PF_ring rm_PF_ring (bw_Pc [.ref (a0 0), .int x1] (dC, dI) vwCl (tyA ct) [wPF ct a0 r0_0 (a1 0) r0_4 r0_5 r0_6 v0 o0, wText ct a1 r1_2 o1] sz nx) (bw_QR (some (.int r))) 0 0 (fun _ => False) := by
  refine Met.ofW (cc := b_PF_ring) (maxL := 4) (ret := (some .int)) (by decide) rfl ?_
  intro p e s m args below meth c s₁ B hml hv
  obtain ⟨rfl, hsz, hP, hK, hN0, hnx⟩ := hv
  have hx := B.exec
  have hb := B.bytes
  have hr := B.returns
  have hts : ∀ w ∈ wsAll, w.before [.ref (a0 0), .int x1].toArray s = true := fun w h9 => atoms_spec (ws := ws_PF_ring) B.pre w (List.mem_cons_of_mem _ h9)
  have hown : s.vm.findClass R_PF = some m.cls := findClass_of_methodNamed B.named
  have hlocks := B.notSynchronized
  subst hsz
  have hN : bw_N (fun _ => True) [adPF a0, adText a1] := hN0
  generalize hAe : (fun _ : Nat => True) = A at hN
  have hA : ∀ q : Nat, s.heap.size ≤ q → A q := fun q _ => by rw [← hAe]; trivial
  have hS : s.heap = s.heap ∧ ([] : List Loc) = [] := ⟨rfl, rfl⟩
  have hl := lv_entry ([.ref (a0 0), .int x1]) (n := 4) (Nat.le_of_ble_eq_true rfl)
  rw [lg_entry_eq]
  generalize (lg_sl ([.ref (a0 0), .int x1]) ++ List.replicate (4 - (lg_sl ([.ref (a0 0), .int x1])).length) Slot.unset).toArray = ls at hl ⊢
  have hl : lv_has ls 4 [(0, .ref (a0 0)), (1, .int x1)] := hl
  have C0 : cx wsAll vwCl nx p s m [.ref (a0 0), .int x1].toArray meth c (dC, dI) (tyA ct) b_PF_ring 4 (some .int) R_PF A [adPF a0, adText a1] := ⟨hx, hb, hr, hml, hown, hlocks, hts, hK, hN, hA, hnx⟩
  have h := hF
  rw [F_PF_ring] at h
  refine lv_aload_n hx hb d_PF_ring_0 rfl (lv_at hl 0 rfl) ?_
  obtain ⟨k_2, u_3, hG1, h⟩ := bind2_some h
  by_cases hk4 : k_2 = 0
  · subst hk4
    have h := ite_t rfl h
    refine bw_callR (va_runV (As := []) (rest := []) ⟨hx, hb, hml, hown, hts⟩ (c_PF_demandRead l ct dC dI a0 r0_0 (a1 0) r0_4 r0_5 r0_6 v0 _ o0 hG1) (cwV 0 hts g_PF_71 rfl rfl rfl (by decide +kernel) ⟨Nat.le_of_ble_eq_true rfl, Nat.le_of_ble_eq_true rfl⟩) ⟨bw_blind nx_call, va_recv hK (hP 0 _ rfl) (ci := 5) (q0 := 0) rfl rfl, fun U hU hW => ⟨rfl, by rw [hU], by rw [hU]; exact hP.sub [0] rfl, va_K.moved hW.alike hK, (hN.sub [0] (by decide) rfl).weaken (fun _ _ => trivial), nx_warm hW hnx⟩⟩ rfl rfl hl.1 rfl (Nat.le_of_ble_eq_true rfl) d_PF_ring_1 ⟨Nat.le_of_ble_eq_true rfl, Nat.le_of_ble_eq_true rfl⟩) ?_
    refine lv_iload_n hx hb d_PF_ring_4 rfl (lv_at hl 1 rfl) ?_
    obtain ⟨k_6, u_7, hG5, h⟩ := bind2_some h
    by_cases hk8 : k_6 = 0
    · subst hk8
      have h := ite_t rfl h
      refine bw_callR (va_runS (As := [.int x1]) (rest := []) ⟨hx, hb, hml, hown, hts⟩ (c_PF_demandNotNegative l ct dC dI _ x1 hG5) (cwS 1 hts g_PF_74 rfl rfl rfl (by decide +kernel) ⟨Nat.le_of_ble_eq_true rfl, Nat.le_of_ble_eq_true rfl⟩) ⟨bw_blind nx_call, fun U hU hW => ⟨rfl, by rw [hU], by rw [hU]; exact hP.sub [] rfl, va_K.moved hW.alike hK, (hN.sub [] (by decide) rfl).weaken (fun _ _ => trivial), nx_warm hW hnx⟩⟩ rfl rfl hl.1 rfl (Nat.le_of_ble_eq_true rfl) d_PF_ring_5 ⟨Nat.le_of_ble_eq_true rfl, Nat.le_of_ble_eq_true rfl⟩) ?_
      have h := pln_some h
      refine lv_iconst (v := 0) hx hb d_PF_ring_8 (by decide) ?_
      refine lv_istore_n (lv' := [(2, .int (0 : Int32)), (0, .ref (a0 0)), (1, .int x1)]) hx hb d_PF_ring_9 rfl hl (by decide) rfl (fun ls hl => ?_)
      refine lv_iconst (v := 0) hx hb d_PF_ring_10 (by decide) ?_
      refine lv_istore_n (lv' := [(3, .int (0 : Int32)), (2, .int (0 : Int32)), (0, .ref (a0 0)), (1, .int x1)]) hx hb d_PF_ring_11 rfl hl (by decide) rfl (fun ls hl => ?_)
      exact k_PF_ring_12 C0 fuel x1 (0 : Int32) (0 : Int32) _ _ _ hP hS (lv_sub hl [2, 3, 1, 0] rfl) h
    · have h := ite_f hk8 h
      exact absurd (thr_eq h) hk8
  · have h := ite_f hk4 h
    exact absurd (thr_eq h) hk4
abbrev rmx_PF_ring : Room := { frames := 7, cells := 1, slots := 6, locals := 120 }
set_option maxHeartbeats 4000000 in
set_option maxRecDepth 100000 in
theorem x_PF_ring (l : Launch) (hl0 : l.stackTraces = false) (ct dC : Nat → ClassId) (dI : Nat → Nat → Nat) (a0 a1 : Nat → Nat) (r0_0 : Nat) (r0_4 : Nat) (r0_5 : Nat) (r0_6 : Nat) (v0 : Nat → Nat) (r1_2 : Nat) (sz : Nat) (x1 : Int32) (o0 o1 : Ob) (k : Nat) (r : Int32) (hF : F_PF_ring x1 o0 o1 = some (k, r)) (hk : ¬ k = 0) : MetT l y_PF_ring ws_PF_ring rmx_PF_ring (bw_Pc [.ref (a0 0), .int x1] (dC, dI) vwCl (tyA ct) [wPF ct a0 r0_0 (a1 0) r0_4 r0_5 r0_6 v0 o0, wText ct a1 r1_2 o1] sz thn) (bt_Q (exN k)) 1 6 := by
  refine MetT.ofW (cc := b_PF_ring) (maxL := 4) (ret := (some .int)) (by decide) rfl ?_
  intro p e s m args below meth c s₁ B hml hv
  obtain ⟨rfl, hsz, hP, hK, hN0, hnx, hth⟩ := hv
  have hx := B.exec
  have hb := B.bytes
  have hr := B.returns
  have hts : ∀ w ∈ wsAll, w.before [.ref (a0 0), .int x1].toArray s = true := fun w h9 => atoms_spec (ws := ws_PF_ring) B.pre w (List.mem_cons_of_mem _ h9)
  have hex : c.exceptionTable.isEmpty = true := B.noHandlers (atoms_spec (ws := ws_PF_ring) B.pre _ List.mem_cons_self)
  have hown : s.vm.findClass R_PF = some m.cls := findClass_of_methodNamed B.named
  have hlocks := B.notSynchronized
  subst hsz
  have hN : bw_N (fun _ => True) [adPF a0, adText a1] := hN0
  have hS : s.heap = s.heap ∧ ([] : List Loc) = [] := ⟨rfl, rfl⟩
  have hl := lv_entry ([.ref (a0 0), .int x1]) (n := 4) (Nat.le_of_ble_eq_true rfl)
  rw [lg_entry_eq]
  generalize (lg_sl ([.ref (a0 0), .int x1]) ++ List.replicate (4 - (lg_sl ([.ref (a0 0), .int x1])).length) Slot.unset).toArray = ls at hl ⊢
  have hl : lv_has ls 4 [(0, .ref (a0 0)), (1, .int x1)] := hl
  have h := hF
  rw [F_PF_ring] at h
  refine lv_aload_n hx hb d_PF_ring_0 rfl (lv_at hl 0 rfl) ?_
  obtain ⟨k_2, u_3, hG1, h⟩ := bind2_some h
  by_cases hk4 : k_2 = 0
  · subst hk4
    have h := ite_t rfl h
    refine bw_callR (va_runV (As := []) (rest := []) ⟨hx, hb, hml, hown, hts⟩ (c_PF_demandRead l ct dC dI a0 r0_0 (a1 0) r0_4 r0_5 r0_6 v0 _ o0 hG1) (cwV 0 hts g_PF_71 rfl rfl rfl (by decide +kernel) ⟨Nat.le_of_ble_eq_true rfl, Nat.le_of_ble_eq_true rfl⟩) ⟨bw_blind nx_call, va_recv hK (hP 0 _ rfl) (ci := 5) (q0 := 0) rfl rfl, fun U hU hW => ⟨rfl, by rw [hU], by rw [hU]; exact hP.sub [0] rfl, va_K.moved hW.alike hK, (hN.sub [0] (by decide) rfl).weaken (fun _ _ => trivial), nx_warm hW hnx⟩⟩ rfl rfl hl.1 rfl (Nat.le_of_ble_eq_true rfl) d_PF_ring_1 ⟨Nat.le_of_ble_eq_true rfl, Nat.le_of_ble_eq_true rfl⟩) ?_
    refine lv_iload_n hx hb d_PF_ring_4 rfl (lv_at hl 1 rfl) ?_
    obtain ⟨k_6, u_7, hG5, h⟩ := bind2_some h
    by_cases hk8 : k_6 = 0
    · subst hk8
      have h := ite_t rfl h
      refine bw_callR (va_runS (As := [.int x1]) (rest := []) ⟨hx, hb, hml, hown, hts⟩ (c_PF_demandNotNegative l ct dC dI _ x1 hG5) (cwS 1 hts g_PF_74 rfl rfl rfl (by decide +kernel) ⟨Nat.le_of_ble_eq_true rfl, Nat.le_of_ble_eq_true rfl⟩) ⟨bw_blind nx_call, fun U hU hW => ⟨rfl, by rw [hU], by rw [hU]; exact hP.sub [] rfl, va_K.moved hW.alike hK, (hN.sub [] (by decide) rfl).weaken (fun _ _ => trivial), nx_warm hW hnx⟩⟩ rfl rfl hl.1 rfl (Nat.le_of_ble_eq_true rfl) d_PF_ring_5 ⟨Nat.le_of_ble_eq_true rfl, Nat.le_of_ble_eq_true rfl⟩) ?_
      exact absurd (pln_0 h) hk
    · have h := ite_f hk8 h
      have e9 := (res2 h).1
      rw [e9]
      exact bt_outS (As := [.int x1]) (rest := []) ⟨hx, hb, hml, hown, hts⟩ (x_PF_demandNotNegative l hl0 ct dC dI _ x1 k_6 hG5 hk8) (cwS 1 hts g_PF_74 rfl rfl rfl (by decide +kernel) ⟨Nat.le_of_ble_eq_true rfl, Nat.le_of_ble_eq_true rfl⟩) ⟨bw_blind thx_call, fun U hU hW => ⟨rfl, by rw [hU], by rw [hU]; exact hP.sub [] rfl, va_K.moved hW.alike hK, (hN.sub [] (by decide) rfl).weaken (fun _ _ => trivial), ⟨nx_warm hW hnx, thx_warm hW hU hth⟩⟩⟩ rfl hl.1 rfl (Nat.le_of_ble_eq_true rfl) d_PF_ring_5 hex hlocks ⟨Nat.le_of_ble_eq_true rfl, Nat.le_of_ble_eq_true rfl⟩
  · have h := ite_f hk4 h
    have e9 := (res2 h).1
    rw [e9]
    exact bt_outV (As := []) (rest := []) ⟨hx, hb, hml, hown, hts⟩ (x_PF_demandRead l hl0 ct dC dI a0 r0_0 (a1 0) r0_4 r0_5 r0_6 v0 _ o0 k_2 hG1 hk4) (cwV 0 hts g_PF_71 rfl rfl rfl (by decide +kernel) ⟨Nat.le_of_ble_eq_true rfl, Nat.le_of_ble_eq_true rfl⟩) ⟨bw_blind thx_call, va_recv hK (hP 0 _ rfl) (ci := 5) (q0 := 0) rfl rfl, fun U hU hW => ⟨rfl, by rw [hU], by rw [hU]; exact hP.sub [0] rfl, va_K.moved hW.alike hK, (hN.sub [0] (by decide) rfl).weaken (fun _ _ => trivial), ⟨nx_warm hW hnx, thx_warm hW hU hth⟩⟩⟩ rfl hl.1 rfl (Nat.le_of_ble_eq_true rfl) d_PF_ring_1 hex hlocks ⟨Nat.le_of_ble_eq_true rfl, Nat.le_of_ble_eq_true rfl⟩
def F_PF_condition (x1 : Int32) (x2 : Int32) (o0 o1 : Ob) : Option (Nat × Int32) :=
  bind2 (F_PF_demandWorkedOut o0) (fun k_2 u_3 => if k_2 = 0 then (bind2 (F_PF_cellNumber x1 x2) (fun k_7 v6 => if k_7 = 0 then (pln (chk (inb v6 60) (some (g32 o1 3 (Int32.toNatClampNeg v6))))) else (some (k_7, (0 : Int32))))) else (some (k_2, (0 : Int32))))
abbrev ws_PF_condition : List Cond := Cond.code y_PF_condition b_PF_condition 3 (some .int) :: wsAll
abbrev rm_PF_condition : Room := { frames := 2, cells := 0, slots := 0, locals := 42 }
set_option maxHeartbeats 4000000 in
set_option maxRecDepth 100000 in
theorem c_PF_condition (l : Launch) (ct dC : Nat → ClassId) (dI : Nat → Nat → Nat) (a0 a1 : Nat → Nat) (r0_0 : Nat) (r0_1 : Nat) (r0_4 : Nat) (r0_6 : Nat) (v0 : Nat → Nat) (sz : Nat) (x1 : Int32) (x2 : Int32) (o0 o1 : Ob) (r : Int32) (hF : F_PF_condition x1 x2 o0 o1 = some (0, r)) : Met l y_PF_condition ws_PF_condition rm_PF_condition (bw_Pc [.ref (a0 0), .int x1, .int x2] (dC, dI) vwCl (tyA ct) [wPF ct a0 r0_0 r0_1 r0_4 (a1 0) r0_6 v0 o0, wCells ct a1 o1] sz nx) (bw_QR (some (.int r))) 0 0 (fun _ => False) := by
  refine Met.ofW (cc := b_PF_condition) (maxL := 3) (ret := (some .int)) (by decide) rfl ?_
  intro p e s m args below meth c s₁ B hml hv
  obtain ⟨rfl, hsz, hP, hK, hN0, hnx⟩ := hv
  have hx := B.exec
  have hb := B.bytes
  have hr := B.returns
  have hts : ∀ w ∈ wsAll, w.before [.ref (a0 0), .int x1, .int x2].toArray s = true := fun w h9 => atoms_spec (ws := ws_PF_condition) B.pre w (List.mem_cons_of_mem _ h9)
  have hown : s.vm.findClass R_PF = some m.cls := findClass_of_methodNamed B.named
  have hlocks := B.notSynchronized
  subst hsz
  have hN : bw_N (fun _ => True) [adPF a0, adCells a1] := hN0
  generalize hAe : (fun _ : Nat => True) = A at hN
  have hA : ∀ q : Nat, s.heap.size ≤ q → A q := fun q _ => by rw [← hAe]; trivial
  have hS : s.heap = s.heap ∧ ([] : List Loc) = [] := ⟨rfl, rfl⟩
  have hl := lv_entry ([.ref (a0 0), .int x1, .int x2]) (n := 3) (Nat.le_of_ble_eq_true rfl)
  rw [lg_entry_eq]
  generalize (lg_sl ([.ref (a0 0), .int x1, .int x2]) ++ List.replicate (3 - (lg_sl ([.ref (a0 0), .int x1, .int x2])).length) Slot.unset).toArray = ls at hl ⊢
  have hl : lv_has ls 3 [(0, .ref (a0 0)), (1, .int x1), (2, .int x2)] := hl
  have C0 : cx wsAll vwCl nx p s m [.ref (a0 0), .int x1, .int x2].toArray meth c (dC, dI) (tyA ct) b_PF_condition 3 (some .int) R_PF A [adPF a0, adCells a1] := ⟨hx, hb, hr, hml, hown, hlocks, hts, hK, hN, hA, hnx⟩
  have h := hF
  rw [F_PF_condition] at h
  refine lv_aload_n hx hb d_PF_condition_0 rfl (lv_at hl 0 rfl) ?_
  obtain ⟨k_2, u_3, hG1, h⟩ := bind2_some h
  by_cases hk4 : k_2 = 0
  · subst hk4
    have h := ite_t rfl h
    refine bw_callR (va_runV (As := []) (rest := []) ⟨hx, hb, hml, hown, hts⟩ (c_PF_demandWorkedOut l ct dC dI a0 r0_0 r0_1 r0_4 (a1 0) r0_6 v0 _ o0 hG1) (cwV 0 hts g_PF_125 rfl rfl rfl (by decide +kernel) ⟨Nat.le_of_ble_eq_true rfl, Nat.le_of_ble_eq_true rfl⟩) ⟨bw_blind nx_call, va_recv hK (hP 0 _ rfl) (ci := 5) (q0 := 0) rfl rfl, fun U hU hW => ⟨rfl, by rw [hU], by rw [hU]; exact hP.sub [0] rfl, va_K.moved hW.alike hK, (hN.sub [0] (by decide) rfl).weaken (fun _ _ => trivial), nx_warm hW hnx⟩⟩ rfl rfl hl.1 rfl (Nat.le_of_ble_eq_true rfl) d_PF_condition_1 ⟨Nat.le_of_ble_eq_true rfl, Nat.le_of_ble_eq_true rfl⟩) ?_
    refine lv_aload_n hx hb d_PF_condition_4 rfl (lv_at hl 0 rfl) ?_
    refine va_get (D := (dC, dI)) (ci := 5) (v := .ref (a1 0)) (C := R_PF) (T := T_PF) (N := 10) hx hb hts in_PF hown hK (hP 0 _ rfl) 0 rfl rfl 5 (by decide) (hts _ fl_PF_40) (fun _ h9 => h9) rfl d_PF_condition_5 ?_
    refine va_get (D := (dC, dI)) (ci := 1) (v := .ref (a1 4)) (C := R_Cells) (T := T_Cells) (N := 4) hx hb hts in_Cells hown hK (hP 1 _ rfl) 0 rfl rfl 3 (by decide) (hts _ fl_PF_151) (fun _ h9 => h9) rfl d_PF_condition_8 ?_
    refine lv_iload_n hx hb d_PF_condition_11 rfl (lv_at hl 1 rfl) ?_
    refine lv_iload_n hx hb d_PF_condition_12 rfl (lv_at hl 2 rfl) ?_
    obtain ⟨k_7, v6, hG5, h⟩ := bind2_some h
    by_cases hk8 : k_7 = 0
    · subst hk8
      have h := ite_t rfl h
      refine bw_callR (va_runS (As := [.int x1, .int x2]) (rest := [.ref (a1 4)]) ⟨hx, hb, hml, hown, hts⟩ (c_PF_cellNumber l ct dC dI _ x1 x2 v6 hG5) (cwS 2 hts g_PF_128 rfl rfl rfl (by decide +kernel) ⟨Nat.le_of_ble_eq_true rfl, Nat.le_of_ble_eq_true rfl⟩) ⟨bw_blind nx_call, fun U hU hW => ⟨rfl, by rw [hU], by rw [hU]; exact hP.sub [] rfl, va_K.moved hW.alike hK, (hN.sub [] (by decide) rfl).weaken (fun _ _ => trivial), nx_warm hW hnx⟩⟩ rfl rfl hl.1 rfl (Nat.le_of_ble_eq_true rfl) d_PF_condition_13 ⟨Nat.le_of_ble_eq_true rfl, Nat.le_of_ble_eq_true rfl⟩) ?_
      have h := pln_some h
      obtain ⟨hi9, h⟩ := chk_some h
      refine va_iald (f := g32 o1 3) hx hb hK (hP 1 _ rfl) 4 0 rfl rfl (inb_in hi9) d_PF_condition_16 ?_
      obtain rfl := res1 h
      exact W.iret hx hb hr (fun t ht hW => ⟨rfl, ht.trans hS.1⟩) (bw_nil hS.2) d_PF_condition_17
    · have h := ite_f hk8 h
      exact absurd (thr_eq h) hk8
  · have h := ite_f hk4 h
    exact absurd (thr_eq h) hk4
abbrev rmx_PF_condition : Room := { frames := 8, cells := 1, slots := 6, locals := 142 }
set_option maxHeartbeats 4000000 in
set_option maxRecDepth 100000 in
theorem x_PF_condition (l : Launch) (hl0 : l.stackTraces = false) (ct dC : Nat → ClassId) (dI : Nat → Nat → Nat) (a0 a1 : Nat → Nat) (r0_0 : Nat) (r0_1 : Nat) (r0_4 : Nat) (r0_6 : Nat) (v0 : Nat → Nat) (sz : Nat) (x1 : Int32) (x2 : Int32) (o0 o1 : Ob) (k : Nat) (r : Int32) (hF : F_PF_condition x1 x2 o0 o1 = some (k, r)) (hk : ¬ k = 0) : MetT l y_PF_condition ws_PF_condition rmx_PF_condition (bw_Pc [.ref (a0 0), .int x1, .int x2] (dC, dI) vwCl (tyA ct) [wPF ct a0 r0_0 r0_1 r0_4 (a1 0) r0_6 v0 o0, wCells ct a1 o1] sz thn) (bt_Q (exN k)) 1 6 := by
  refine MetT.ofW (cc := b_PF_condition) (maxL := 3) (ret := (some .int)) (by decide) rfl ?_
  intro p e s m args below meth c s₁ B hml hv
  obtain ⟨rfl, hsz, hP, hK, hN0, hnx, hth⟩ := hv
  have hx := B.exec
  have hb := B.bytes
  have hr := B.returns
  have hts : ∀ w ∈ wsAll, w.before [.ref (a0 0), .int x1, .int x2].toArray s = true := fun w h9 => atoms_spec (ws := ws_PF_condition) B.pre w (List.mem_cons_of_mem _ h9)
  have hex : c.exceptionTable.isEmpty = true := B.noHandlers (atoms_spec (ws := ws_PF_condition) B.pre _ List.mem_cons_self)
  have hown : s.vm.findClass R_PF = some m.cls := findClass_of_methodNamed B.named
  have hlocks := B.notSynchronized
  subst hsz
  have hN : bw_N (fun _ => True) [adPF a0, adCells a1] := hN0
  have hS : s.heap = s.heap ∧ ([] : List Loc) = [] := ⟨rfl, rfl⟩
  have hl := lv_entry ([.ref (a0 0), .int x1, .int x2]) (n := 3) (Nat.le_of_ble_eq_true rfl)
  rw [lg_entry_eq]
  generalize (lg_sl ([.ref (a0 0), .int x1, .int x2]) ++ List.replicate (3 - (lg_sl ([.ref (a0 0), .int x1, .int x2])).length) Slot.unset).toArray = ls at hl ⊢
  have hl : lv_has ls 3 [(0, .ref (a0 0)), (1, .int x1), (2, .int x2)] := hl
  have h := hF
  rw [F_PF_condition] at h
  refine lv_aload_n hx hb d_PF_condition_0 rfl (lv_at hl 0 rfl) ?_
  obtain ⟨k_2, u_3, hG1, h⟩ := bind2_some h
  by_cases hk4 : k_2 = 0
  · subst hk4
    have h := ite_t rfl h
    refine bw_callR (va_runV (As := []) (rest := []) ⟨hx, hb, hml, hown, hts⟩ (c_PF_demandWorkedOut l ct dC dI a0 r0_0 r0_1 r0_4 (a1 0) r0_6 v0 _ o0 hG1) (cwV 0 hts g_PF_125 rfl rfl rfl (by decide +kernel) ⟨Nat.le_of_ble_eq_true rfl, Nat.le_of_ble_eq_true rfl⟩) ⟨bw_blind nx_call, va_recv hK (hP 0 _ rfl) (ci := 5) (q0 := 0) rfl rfl, fun U hU hW => ⟨rfl, by rw [hU], by rw [hU]; exact hP.sub [0] rfl, va_K.moved hW.alike hK, (hN.sub [0] (by decide) rfl).weaken (fun _ _ => trivial), nx_warm hW hnx⟩⟩ rfl rfl hl.1 rfl (Nat.le_of_ble_eq_true rfl) d_PF_condition_1 ⟨Nat.le_of_ble_eq_true rfl, Nat.le_of_ble_eq_true rfl⟩) ?_
    refine lv_aload_n hx hb d_PF_condition_4 rfl (lv_at hl 0 rfl) ?_
    refine va_get (D := (dC, dI)) (ci := 5) (v := .ref (a1 0)) (C := R_PF) (T := T_PF) (N := 10) hx hb hts in_PF hown hK (hP 0 _ rfl) 0 rfl rfl 5 (by decide) (hts _ fl_PF_40) (fun _ h9 => h9) rfl d_PF_condition_5 ?_
    refine va_get (D := (dC, dI)) (ci := 1) (v := .ref (a1 4)) (C := R_Cells) (T := T_Cells) (N := 4) hx hb hts in_Cells hown hK (hP 1 _ rfl) 0 rfl rfl 3 (by decide) (hts _ fl_PF_151) (fun _ h9 => h9) rfl d_PF_condition_8 ?_
    refine lv_iload_n hx hb d_PF_condition_11 rfl (lv_at hl 1 rfl) ?_
    refine lv_iload_n hx hb d_PF_condition_12 rfl (lv_at hl 2 rfl) ?_
    obtain ⟨k_7, v6, hG5, h⟩ := bind2_some h
    by_cases hk8 : k_7 = 0
    · subst hk8
      have h := ite_t rfl h
      refine bw_callR (va_runS (As := [.int x1, .int x2]) (rest := [.ref (a1 4)]) ⟨hx, hb, hml, hown, hts⟩ (c_PF_cellNumber l ct dC dI _ x1 x2 v6 hG5) (cwS 2 hts g_PF_128 rfl rfl rfl (by decide +kernel) ⟨Nat.le_of_ble_eq_true rfl, Nat.le_of_ble_eq_true rfl⟩) ⟨bw_blind nx_call, fun U hU hW => ⟨rfl, by rw [hU], by rw [hU]; exact hP.sub [] rfl, va_K.moved hW.alike hK, (hN.sub [] (by decide) rfl).weaken (fun _ _ => trivial), nx_warm hW hnx⟩⟩ rfl rfl hl.1 rfl (Nat.le_of_ble_eq_true rfl) d_PF_condition_13 ⟨Nat.le_of_ble_eq_true rfl, Nat.le_of_ble_eq_true rfl⟩) ?_
      exact absurd (pln_0 h) hk
    · have h := ite_f hk8 h
      have e9 := (res2 h).1
      rw [e9]
      exact bt_outS (As := [.int x1, .int x2]) (rest := [.ref (a1 4)]) ⟨hx, hb, hml, hown, hts⟩ (x_PF_cellNumber l hl0 ct dC dI _ x1 x2 k_7 v6 hG5 hk8) (cwS 2 hts g_PF_128 rfl rfl rfl (by decide +kernel) ⟨Nat.le_of_ble_eq_true rfl, Nat.le_of_ble_eq_true rfl⟩) ⟨bw_blind thx_call, fun U hU hW => ⟨rfl, by rw [hU], by rw [hU]; exact hP.sub [] rfl, va_K.moved hW.alike hK, (hN.sub [] (by decide) rfl).weaken (fun _ _ => trivial), ⟨nx_warm hW hnx, thx_warm hW hU hth⟩⟩⟩ rfl hl.1 rfl (Nat.le_of_ble_eq_true rfl) d_PF_condition_13 hex hlocks ⟨Nat.le_of_ble_eq_true rfl, Nat.le_of_ble_eq_true rfl⟩
  · have h := ite_f hk4 h
    have e9 := (res2 h).1
    rw [e9]
    exact bt_outV (As := []) (rest := []) ⟨hx, hb, hml, hown, hts⟩ (x_PF_demandWorkedOut l hl0 ct dC dI a0 r0_0 r0_1 r0_4 (a1 0) r0_6 v0 _ o0 k_2 hG1 hk4) (cwV 0 hts g_PF_125 rfl rfl rfl (by decide +kernel) ⟨Nat.le_of_ble_eq_true rfl, Nat.le_of_ble_eq_true rfl⟩) ⟨bw_blind thx_call, va_recv hK (hP 0 _ rfl) (ci := 5) (q0 := 0) rfl rfl, fun U hU hW => ⟨rfl, by rw [hU], by rw [hU]; exact hP.sub [0] rfl, va_K.moved hW.alike hK, (hN.sub [0] (by decide) rfl).weaken (fun _ _ => trivial), ⟨nx_warm hW hnx, thx_warm hW hU hth⟩⟩⟩ rfl hl.1 rfl (Nat.le_of_ble_eq_true rfl) d_PF_condition_1 hex hlocks ⟨Nat.le_of_ble_eq_true rfl, Nat.le_of_ble_eq_true rfl⟩
def F_PF_line (x1 : Int32) (x2 : Int32) (o0 o1 : Ob) : Option (Nat × Int32) :=
  bind2 (F_PF_demandRead o0) (fun k_2 u_3 => if k_2 = 0 then (bind2 (F_PF_cellNumber x1 x2) (fun k_7 v6 => if k_7 = 0 then (pln (chk (inb v6 60) (some (g32 o1 7 (Int32.toNatClampNeg v6))))) else (some (k_7, (0 : Int32))))) else (some (k_2, (0 : Int32))))
abbrev ws_PF_line : List Cond := Cond.code y_PF_line b_PF_line 3 (some .int) :: wsAll
abbrev rm_PF_line : Room := { frames := 2, cells := 0, slots := 0, locals := 42 }
set_option maxHeartbeats 4000000 in
set_option maxRecDepth 100000 in
theorem c_PF_line (l : Launch) (ct dC : Nat → ClassId) (dI : Nat → Nat → Nat) (a0 a1 : Nat → Nat) (r0_0 : Nat) (r0_4 : Nat) (r0_5 : Nat) (r0_6 : Nat) (v0 : Nat → Nat) (r1_2 : Nat) (sz : Nat) (x1 : Int32) (x2 : Int32) (o0 o1 : Ob) (r : Int32) (hF : F_PF_line x1 x2 o0 o1 = some (0, r)) : Met l y_PF_line ws_PF_line rm_PF_line (bw_Pc [.ref (a0 0), .int x1, .int x2] (dC, dI) vwCl (tyA ct) [wPF ct a0 r0_0 (a1 0) r0_4 r0_5 r0_6 v0 o0, wText ct a1 r1_2 o1] sz nx) (bw_QR (some (.int r))) 0 0 (fun _ => False) := by
  refine Met.ofW (cc := b_PF_line) (maxL := 3) (ret := (some .int)) (by decide) rfl ?_
  intro p e s m args below meth c s₁ B hml hv
  obtain ⟨rfl, hsz, hP, hK, hN0, hnx⟩ := hv
  have hx := B.exec
  have hb := B.bytes
  have hr := B.returns
  have hts : ∀ w ∈ wsAll, w.before [.ref (a0 0), .int x1, .int x2].toArray s = true := fun w h9 => atoms_spec (ws := ws_PF_line) B.pre w (List.mem_cons_of_mem _ h9)
  have hown : s.vm.findClass R_PF = some m.cls := findClass_of_methodNamed B.named
  have hlocks := B.notSynchronized
  subst hsz
  have hN : bw_N (fun _ => True) [adPF a0, adText a1] := hN0
  generalize hAe : (fun _ : Nat => True) = A at hN
  have hA : ∀ q : Nat, s.heap.size ≤ q → A q := fun q _ => by rw [← hAe]; trivial
  have hS : s.heap = s.heap ∧ ([] : List Loc) = [] := ⟨rfl, rfl⟩
  have hl := lv_entry ([.ref (a0 0), .int x1, .int x2]) (n := 3) (Nat.le_of_ble_eq_true rfl)
  rw [lg_entry_eq]
  generalize (lg_sl ([.ref (a0 0), .int x1, .int x2]) ++ List.replicate (3 - (lg_sl ([.ref (a0 0), .int x1, .int x2])).length) Slot.unset).toArray = ls at hl ⊢
  have hl : lv_has ls 3 [(0, .ref (a0 0)), (1, .int x1), (2, .int x2)] := hl
  have C0 : cx wsAll vwCl nx p s m [.ref (a0 0), .int x1, .int x2].toArray meth c (dC, dI) (tyA ct) b_PF_line 3 (some .int) R_PF A [adPF a0, adText a1] := ⟨hx, hb, hr, hml, hown, hlocks, hts, hK, hN, hA, hnx⟩
  have h := hF
  rw [F_PF_line] at h
  refine lv_aload_n hx hb d_PF_line_0 rfl (lv_at hl 0 rfl) ?_
  obtain ⟨k_2, u_3, hG1, h⟩ := bind2_some h
  by_cases hk4 : k_2 = 0
  · subst hk4
    have h := ite_t rfl h
    refine bw_callR (va_runV (As := []) (rest := []) ⟨hx, hb, hml, hown, hts⟩ (c_PF_demandRead l ct dC dI a0 r0_0 (a1 0) r0_4 r0_5 r0_6 v0 _ o0 hG1) (cwV 0 hts g_PF_71 rfl rfl rfl (by decide +kernel) ⟨Nat.le_of_ble_eq_true rfl, Nat.le_of_ble_eq_true rfl⟩) ⟨bw_blind nx_call, va_recv hK (hP 0 _ rfl) (ci := 5) (q0 := 0) rfl rfl, fun U hU hW => ⟨rfl, by rw [hU], by rw [hU]; exact hP.sub [0] rfl, va_K.moved hW.alike hK, (hN.sub [0] (by decide) rfl).weaken (fun _ _ => trivial), nx_warm hW hnx⟩⟩ rfl rfl hl.1 rfl (Nat.le_of_ble_eq_true rfl) d_PF_line_1 ⟨Nat.le_of_ble_eq_true rfl, Nat.le_of_ble_eq_true rfl⟩) ?_
    refine lv_aload_n hx hb d_PF_line_4 rfl (lv_at hl 0 rfl) ?_
    refine va_get (D := (dC, dI)) (ci := 5) (v := .ref (a1 0)) (C := R_PF) (T := T_PF) (N := 10) hx hb hts in_PF hown hK (hP 0 _ rfl) 0 rfl rfl 1 (by decide) (hts _ fl_PF_19) (fun _ h9 => h9) rfl d_PF_line_5 ?_
    refine va_get (D := (dC, dI)) (ci := 2) (v := .ref (a1 5)) (C := R_Text) (T := T_Text) (N := 12) hx hb hts in_Text hown hK (hP 1 _ rfl) 0 rfl rfl 7 (by decide) (hts _ fl_PF_154) (fun _ h9 => h9) rfl d_PF_line_8 ?_
    refine lv_iload_n hx hb d_PF_line_11 rfl (lv_at hl 1 rfl) ?_
    refine lv_iload_n hx hb d_PF_line_12 rfl (lv_at hl 2 rfl) ?_
    obtain ⟨k_7, v6, hG5, h⟩ := bind2_some h
    by_cases hk8 : k_7 = 0
    · subst hk8
      have h := ite_t rfl h
      refine bw_callR (va_runS (As := [.int x1, .int x2]) (rest := [.ref (a1 5)]) ⟨hx, hb, hml, hown, hts⟩ (c_PF_cellNumber l ct dC dI _ x1 x2 v6 hG5) (cwS 2 hts g_PF_128 rfl rfl rfl (by decide +kernel) ⟨Nat.le_of_ble_eq_true rfl, Nat.le_of_ble_eq_true rfl⟩) ⟨bw_blind nx_call, fun U hU hW => ⟨rfl, by rw [hU], by rw [hU]; exact hP.sub [] rfl, va_K.moved hW.alike hK, (hN.sub [] (by decide) rfl).weaken (fun _ _ => trivial), nx_warm hW hnx⟩⟩ rfl rfl hl.1 rfl (Nat.le_of_ble_eq_true rfl) d_PF_line_13 ⟨Nat.le_of_ble_eq_true rfl, Nat.le_of_ble_eq_true rfl⟩) ?_
      have h := pln_some h
      obtain ⟨hi9, h⟩ := chk_some h
      refine va_iald (f := g32 o1 7) hx hb hK (hP 1 _ rfl) 5 0 rfl rfl (inb_in hi9) d_PF_line_16 ?_
      obtain rfl := res1 h
      exact W.iret hx hb hr (fun t ht hW => ⟨rfl, ht.trans hS.1⟩) (bw_nil hS.2) d_PF_line_17
    · have h := ite_f hk8 h
      exact absurd (thr_eq h) hk8
  · have h := ite_f hk4 h
    exact absurd (thr_eq h) hk4
abbrev rmx_PF_line : Room := { frames := 8, cells := 1, slots := 6, locals := 142 }
set_option maxHeartbeats 4000000 in
set_option maxRecDepth 100000 in
theorem x_PF_line (l : Launch) (hl0 : l.stackTraces = false) (ct dC : Nat → ClassId) (dI : Nat → Nat → Nat) (a0 a1 : Nat → Nat) (r0_0 : Nat) (r0_4 : Nat) (r0_5 : Nat) (r0_6 : Nat) (v0 : Nat → Nat) (r1_2 : Nat) (sz : Nat) (x1 : Int32) (x2 : Int32) (o0 o1 : Ob) (k : Nat) (r : Int32) (hF : F_PF_line x1 x2 o0 o1 = some (k, r)) (hk : ¬ k = 0) : MetT l y_PF_line ws_PF_line rmx_PF_line (bw_Pc [.ref (a0 0), .int x1, .int x2] (dC, dI) vwCl (tyA ct) [wPF ct a0 r0_0 (a1 0) r0_4 r0_5 r0_6 v0 o0, wText ct a1 r1_2 o1] sz thn) (bt_Q (exN k)) 1 6 := by
  refine MetT.ofW (cc := b_PF_line) (maxL := 3) (ret := (some .int)) (by decide) rfl ?_
  intro p e s m args below meth c s₁ B hml hv
  obtain ⟨rfl, hsz, hP, hK, hN0, hnx, hth⟩ := hv
  have hx := B.exec
  have hb := B.bytes
  have hr := B.returns
  have hts : ∀ w ∈ wsAll, w.before [.ref (a0 0), .int x1, .int x2].toArray s = true := fun w h9 => atoms_spec (ws := ws_PF_line) B.pre w (List.mem_cons_of_mem _ h9)
  have hex : c.exceptionTable.isEmpty = true := B.noHandlers (atoms_spec (ws := ws_PF_line) B.pre _ List.mem_cons_self)
  have hown : s.vm.findClass R_PF = some m.cls := findClass_of_methodNamed B.named
  have hlocks := B.notSynchronized
  subst hsz
  have hN : bw_N (fun _ => True) [adPF a0, adText a1] := hN0
  have hS : s.heap = s.heap ∧ ([] : List Loc) = [] := ⟨rfl, rfl⟩
  have hl := lv_entry ([.ref (a0 0), .int x1, .int x2]) (n := 3) (Nat.le_of_ble_eq_true rfl)
  rw [lg_entry_eq]
  generalize (lg_sl ([.ref (a0 0), .int x1, .int x2]) ++ List.replicate (3 - (lg_sl ([.ref (a0 0), .int x1, .int x2])).length) Slot.unset).toArray = ls at hl ⊢
  have hl : lv_has ls 3 [(0, .ref (a0 0)), (1, .int x1), (2, .int x2)] := hl
  have h := hF
  rw [F_PF_line] at h
  refine lv_aload_n hx hb d_PF_line_0 rfl (lv_at hl 0 rfl) ?_
  obtain ⟨k_2, u_3, hG1, h⟩ := bind2_some h
  by_cases hk4 : k_2 = 0
  · subst hk4
    have h := ite_t rfl h
    refine bw_callR (va_runV (As := []) (rest := []) ⟨hx, hb, hml, hown, hts⟩ (c_PF_demandRead l ct dC dI a0 r0_0 (a1 0) r0_4 r0_5 r0_6 v0 _ o0 hG1) (cwV 0 hts g_PF_71 rfl rfl rfl (by decide +kernel) ⟨Nat.le_of_ble_eq_true rfl, Nat.le_of_ble_eq_true rfl⟩) ⟨bw_blind nx_call, va_recv hK (hP 0 _ rfl) (ci := 5) (q0 := 0) rfl rfl, fun U hU hW => ⟨rfl, by rw [hU], by rw [hU]; exact hP.sub [0] rfl, va_K.moved hW.alike hK, (hN.sub [0] (by decide) rfl).weaken (fun _ _ => trivial), nx_warm hW hnx⟩⟩ rfl rfl hl.1 rfl (Nat.le_of_ble_eq_true rfl) d_PF_line_1 ⟨Nat.le_of_ble_eq_true rfl, Nat.le_of_ble_eq_true rfl⟩) ?_
    refine lv_aload_n hx hb d_PF_line_4 rfl (lv_at hl 0 rfl) ?_
    refine va_get (D := (dC, dI)) (ci := 5) (v := .ref (a1 0)) (C := R_PF) (T := T_PF) (N := 10) hx hb hts in_PF hown hK (hP 0 _ rfl) 0 rfl rfl 1 (by decide) (hts _ fl_PF_19) (fun _ h9 => h9) rfl d_PF_line_5 ?_
    refine va_get (D := (dC, dI)) (ci := 2) (v := .ref (a1 5)) (C := R_Text) (T := T_Text) (N := 12) hx hb hts in_Text hown hK (hP 1 _ rfl) 0 rfl rfl 7 (by decide) (hts _ fl_PF_154) (fun _ h9 => h9) rfl d_PF_line_8 ?_
    refine lv_iload_n hx hb d_PF_line_11 rfl (lv_at hl 1 rfl) ?_
    refine lv_iload_n hx hb d_PF_line_12 rfl (lv_at hl 2 rfl) ?_
    obtain ⟨k_7, v6, hG5, h⟩ := bind2_some h
    by_cases hk8 : k_7 = 0
    · subst hk8
      have h := ite_t rfl h
      refine bw_callR (va_runS (As := [.int x1, .int x2]) (rest := [.ref (a1 5)]) ⟨hx, hb, hml, hown, hts⟩ (c_PF_cellNumber l ct dC dI _ x1 x2 v6 hG5) (cwS 2 hts g_PF_128 rfl rfl rfl (by decide +kernel) ⟨Nat.le_of_ble_eq_true rfl, Nat.le_of_ble_eq_true rfl⟩) ⟨bw_blind nx_call, fun U hU hW => ⟨rfl, by rw [hU], by rw [hU]; exact hP.sub [] rfl, va_K.moved hW.alike hK, (hN.sub [] (by decide) rfl).weaken (fun _ _ => trivial), nx_warm hW hnx⟩⟩ rfl rfl hl.1 rfl (Nat.le_of_ble_eq_true rfl) d_PF_line_13 ⟨Nat.le_of_ble_eq_true rfl, Nat.le_of_ble_eq_true rfl⟩) ?_
      exact absurd (pln_0 h) hk
    · have h := ite_f hk8 h
      have e9 := (res2 h).1
      rw [e9]
      exact bt_outS (As := [.int x1, .int x2]) (rest := [.ref (a1 5)]) ⟨hx, hb, hml, hown, hts⟩ (x_PF_cellNumber l hl0 ct dC dI _ x1 x2 k_7 v6 hG5 hk8) (cwS 2 hts g_PF_128 rfl rfl rfl (by decide +kernel) ⟨Nat.le_of_ble_eq_true rfl, Nat.le_of_ble_eq_true rfl⟩) ⟨bw_blind thx_call, fun U hU hW => ⟨rfl, by rw [hU], by rw [hU]; exact hP.sub [] rfl, va_K.moved hW.alike hK, (hN.sub [] (by decide) rfl).weaken (fun _ _ => trivial), ⟨nx_warm hW hnx, thx_warm hW hU hth⟩⟩⟩ rfl hl.1 rfl (Nat.le_of_ble_eq_true rfl) d_PF_line_13 hex hlocks ⟨Nat.le_of_ble_eq_true rfl, Nat.le_of_ble_eq_true rfl⟩
  · have h := ite_f hk4 h
    have e9 := (res2 h).1
    rw [e9]
    exact bt_outV (As := []) (rest := []) ⟨hx, hb, hml, hown, hts⟩ (x_PF_demandRead l hl0 ct dC dI a0 r0_0 (a1 0) r0_4 r0_5 r0_6 v0 _ o0 k_2 hG1 hk4) (cwV 0 hts g_PF_71 rfl rfl rfl (by decide +kernel) ⟨Nat.le_of_ble_eq_true rfl, Nat.le_of_ble_eq_true rfl⟩) ⟨bw_blind thx_call, va_recv hK (hP 0 _ rfl) (ci := 5) (q0 := 0) rfl rfl, fun U hU hW => ⟨rfl, by rw [hU], by rw [hU]; exact hP.sub [0] rfl, va_K.moved hW.alike hK, (hN.sub [0] (by decide) rfl).weaken (fun _ _ => trivial), ⟨nx_warm hW hnx, thx_warm hW hU hth⟩⟩⟩ rfl hl.1 rfl (Nat.le_of_ble_eq_true rfl) d_PF_line_1 hex hlocks ⟨Nat.le_of_ble_eq_true rfl, Nat.le_of_ble_eq_true rfl⟩
theorem g_PF_157 : GoodIn wsAll (wsV R_PF 157 R_Text y_Text_reaches ws_Text_reaches) := gd_V ml_PF_157 im_Text_reaches se_Text_reaches ini_Text cd_Text_reaches
def F_PF_needs (x1 : Int32) (x2 : Int32) (o0 o1 : Ob) : Option (Nat × Bool) :=
  bind2 (F_PF_demandRead o0) (fun k_2 u_3 => if k_2 = 0 then (bind2 (F_PF_demandIndex x1 (60 : Int32)) (fun k_6 u_7 => if k_6 = 0 then (bind2 (F_PF_demandIndex x2 (60 : Int32)) (fun k_10 u_11 => if k_10 = 0 then (pln (bind1 (F_Text_reaches x1 x2 o1) (fun v14 => some v14))) else (some (k_10, false)))) else (some (k_6, false)))) else (some (k_2, false)))
abbrev ws_PF_needs : List Cond := Cond.code y_PF_needs b_PF_needs 3 (some .boolean) :: wsAll
abbrev rm_PF_needs : Room := { frames := 1, cells := 0, slots := 0, locals := 22 }
set_option maxHeartbeats 4000000 in
set_option maxRecDepth 100000 in
theorem c_PF_needs (l : Launch) (ct dC : Nat → ClassId) (dI : Nat → Nat → Nat) (a0 a1 : Nat → Nat) (r0_0 : Nat) (r0_4 : Nat) (r0_5 : Nat) (r0_6 : Nat) (v0 : Nat → Nat) (r1_2 : Nat) (sz : Nat) (x1 : Int32) (x2 : Int32) (o0 o1 : Ob) (r : Bool) (hF : F_PF_needs x1 x2 o0 o1 = some (0, r)) : Met l y_PF_needs ws_PF_needs rm_PF_needs (bw_Pc [.ref (a0 0), .int x1, .int x2] (dC, dI) vwCl (tyA ct) [wPF ct a0 r0_0 (a1 0) r0_4 r0_5 r0_6 v0 o0, wText ct a1 r1_2 o1] sz nx) (bw_QR (some (.int (b2i r)))) 0 0 (fun _ => False) := by
  refine Met.ofW (cc := b_PF_needs) (maxL := 3) (ret := (some .boolean)) (by decide) rfl ?_
  intro p e s m args below meth c s₁ B hml hv
  obtain ⟨rfl, hsz, hP, hK, hN0, hnx⟩ := hv
  have hx := B.exec
  have hb := B.bytes
  have hr := B.returns
  have hts : ∀ w ∈ wsAll, w.before [.ref (a0 0), .int x1, .int x2].toArray s = true := fun w h9 => atoms_spec (ws := ws_PF_needs) B.pre w (List.mem_cons_of_mem _ h9)
  have hown : s.vm.findClass R_PF = some m.cls := findClass_of_methodNamed B.named
  have hlocks := B.notSynchronized
  subst hsz
  have hN : bw_N (fun _ => True) [adPF a0, adText a1] := hN0
  generalize hAe : (fun _ : Nat => True) = A at hN
  have hA : ∀ q : Nat, s.heap.size ≤ q → A q := fun q _ => by rw [← hAe]; trivial
  have hS : s.heap = s.heap ∧ ([] : List Loc) = [] := ⟨rfl, rfl⟩
  have hl := lv_entry ([.ref (a0 0), .int x1, .int x2]) (n := 3) (Nat.le_of_ble_eq_true rfl)
  rw [lg_entry_eq]
  generalize (lg_sl ([.ref (a0 0), .int x1, .int x2]) ++ List.replicate (3 - (lg_sl ([.ref (a0 0), .int x1, .int x2])).length) Slot.unset).toArray = ls at hl ⊢
  have hl : lv_has ls 3 [(0, .ref (a0 0)), (1, .int x1), (2, .int x2)] := hl
  have C0 : cx wsAll vwCl nx p s m [.ref (a0 0), .int x1, .int x2].toArray meth c (dC, dI) (tyA ct) b_PF_needs 3 (some .boolean) R_PF A [adPF a0, adText a1] := ⟨hx, hb, hr, hml, hown, hlocks, hts, hK, hN, hA, hnx⟩
  have h := hF
  rw [F_PF_needs] at h
  refine lv_aload_n hx hb d_PF_needs_0 rfl (lv_at hl 0 rfl) ?_
  obtain ⟨k_2, u_3, hG1, h⟩ := bind2_some h
  by_cases hk4 : k_2 = 0
  · subst hk4
    have h := ite_t rfl h
    refine bw_callR (va_runV (As := []) (rest := []) ⟨hx, hb, hml, hown, hts⟩ (c_PF_demandRead l ct dC dI a0 r0_0 (a1 0) r0_4 r0_5 r0_6 v0 _ o0 hG1) (cwV 0 hts g_PF_71 rfl rfl rfl (by decide +kernel) ⟨Nat.le_of_ble_eq_true rfl, Nat.le_of_ble_eq_true rfl⟩) ⟨bw_blind nx_call, va_recv hK (hP 0 _ rfl) (ci := 5) (q0 := 0) rfl rfl, fun U hU hW => ⟨rfl, by rw [hU], by rw [hU]; exact hP.sub [0] rfl, va_K.moved hW.alike hK, (hN.sub [0] (by decide) rfl).weaken (fun _ _ => trivial), nx_warm hW hnx⟩⟩ rfl rfl hl.1 rfl (Nat.le_of_ble_eq_true rfl) d_PF_needs_1 ⟨Nat.le_of_ble_eq_true rfl, Nat.le_of_ble_eq_true rfl⟩) ?_
    refine lv_iload_n hx hb d_PF_needs_4 rfl (lv_at hl 1 rfl) ?_
    refine lv_bipush (v := 60) hx hb d_PF_needs_5 (by decide) ?_
    obtain ⟨k_6, u_7, hG5, h⟩ := bind2_some h
    by_cases hk8 : k_6 = 0
    · subst hk8
      have h := ite_t rfl h
      refine bw_callR (va_runS (As := [.int x1, .int (60 : Int32)]) (rest := []) ⟨hx, hb, hml, hown, hts⟩ (c_PF_demandIndex l ct dC dI _ x1 (60 : Int32) hG5) (cwS 2 hts g_PF_85 rfl rfl rfl (by decide +kernel) ⟨Nat.le_of_ble_eq_true rfl, Nat.le_of_ble_eq_true rfl⟩) ⟨bw_blind nx_call, fun U hU hW => ⟨rfl, by rw [hU], by rw [hU]; exact hP.sub [] rfl, va_K.moved hW.alike hK, (hN.sub [] (by decide) rfl).weaken (fun _ _ => trivial), nx_warm hW hnx⟩⟩ rfl rfl hl.1 rfl (Nat.le_of_ble_eq_true rfl) d_PF_needs_7 ⟨Nat.le_of_ble_eq_true rfl, Nat.le_of_ble_eq_true rfl⟩) ?_
      refine lv_iload_n hx hb d_PF_needs_10 rfl (lv_at hl 2 rfl) ?_
      refine lv_bipush (v := 60) hx hb d_PF_needs_11 (by decide) ?_
      obtain ⟨k_10, u_11, hG9, h⟩ := bind2_some h
      by_cases hk12 : k_10 = 0
      · subst hk12
        have h := ite_t rfl h
        refine bw_callR (va_runS (As := [.int x2, .int (60 : Int32)]) (rest := []) ⟨hx, hb, hml, hown, hts⟩ (c_PF_demandIndex l ct dC dI _ x2 (60 : Int32) hG9) (cwS 2 hts g_PF_85 rfl rfl rfl (by decide +kernel) ⟨Nat.le_of_ble_eq_true rfl, Nat.le_of_ble_eq_true rfl⟩) ⟨bw_blind nx_call, fun U hU hW => ⟨rfl, by rw [hU], by rw [hU]; exact hP.sub [] rfl, va_K.moved hW.alike hK, (hN.sub [] (by decide) rfl).weaken (fun _ _ => trivial), nx_warm hW hnx⟩⟩ rfl rfl hl.1 rfl (Nat.le_of_ble_eq_true rfl) d_PF_needs_13 ⟨Nat.le_of_ble_eq_true rfl, Nat.le_of_ble_eq_true rfl⟩) ?_
        have h := pln_some h
        refine lv_aload_n hx hb d_PF_needs_16 rfl (lv_at hl 0 rfl) ?_
        refine va_get (D := (dC, dI)) (ci := 5) (v := .ref (a1 0)) (C := R_PF) (T := T_PF) (N := 10) hx hb hts in_PF hown hK (hP 0 _ rfl) 0 rfl rfl 1 (by decide) (hts _ fl_PF_19) (fun _ h9 => h9) rfl d_PF_needs_17 ?_
        refine lv_iload_n hx hb d_PF_needs_20 rfl (lv_at hl 1 rfl) ?_
        refine lv_iload_n hx hb d_PF_needs_21 rfl (lv_at hl 2 rfl) ?_
        obtain ⟨v14, hG13, h⟩ := bind1_some h
        refine bw_callR (va_runV (As := [.int x1, .int x2]) (rest := []) ⟨hx, hb, hml, hown, hts⟩ (c_Text_reaches l ct dC dI a1 r1_2 _ x1 x2 o1 v14 hG13) (cwV 2 hts g_PF_157 rfl rfl rfl (by decide +kernel) ⟨Nat.le_of_ble_eq_true rfl, Nat.le_of_ble_eq_true rfl⟩) ⟨bw_blind nx_call, va_recv hK (hP 1 _ rfl) (ci := 2) (q0 := 0) rfl rfl, fun U hU hW => ⟨rfl, by rw [hU], by rw [hU]; exact hP.sub [1] rfl, va_K.moved hW.alike hK, (hN.sub [1] (by decide) rfl).weaken (fun _ _ => trivial), nx_warm hW hnx⟩⟩ rfl rfl hl.1 rfl (Nat.le_of_ble_eq_true rfl) d_PF_needs_22 ⟨Nat.le_of_ble_eq_true rfl, Nat.le_of_ble_eq_true rfl⟩) ?_
        obtain rfl := res1 h
        exact W.zret hx hb hr (b2i_nar _) (fun t ht hW => ⟨rfl, ht.trans hS.1⟩) (bw_nil hS.2) d_PF_needs_25
      · have h := ite_f hk12 h
        exact absurd (thr_eq h) hk12
    · have h := ite_f hk8 h
      exact absurd (thr_eq h) hk8
  · have h := ite_f hk4 h
    exact absurd (thr_eq h) hk4
abbrev rmx_PF_needs : Room := { frames := 7, cells := 1, slots := 6, locals := 121 }
set_option maxHeartbeats 4000000 in
set_option maxRecDepth 100000 in
theorem x_PF_needs (l : Launch) (hl0 : l.stackTraces = false) (ct dC : Nat → ClassId) (dI : Nat → Nat → Nat) (a0 a1 : Nat → Nat) (r0_0 : Nat) (r0_4 : Nat) (r0_5 : Nat) (r0_6 : Nat) (v0 : Nat → Nat) (r1_2 : Nat) (sz : Nat) (x1 : Int32) (x2 : Int32) (o0 o1 : Ob) (k : Nat) (r : Bool) (hF : F_PF_needs x1 x2 o0 o1 = some (k, r)) (hk : ¬ k = 0) : MetT l y_PF_needs ws_PF_needs rmx_PF_needs (bw_Pc [.ref (a0 0), .int x1, .int x2] (dC, dI) vwCl (tyA ct) [wPF ct a0 r0_0 (a1 0) r0_4 r0_5 r0_6 v0 o0, wText ct a1 r1_2 o1] sz thn) (bt_Q (exN k)) 1 6 := by
  refine MetT.ofW (cc := b_PF_needs) (maxL := 3) (ret := (some .boolean)) (by decide) rfl ?_
  intro p e s m args below meth c s₁ B hml hv
  obtain ⟨rfl, hsz, hP, hK, hN0, hnx, hth⟩ := hv
  have hx := B.exec
  have hb := B.bytes
  have hr := B.returns
  have hts : ∀ w ∈ wsAll, w.before [.ref (a0 0), .int x1, .int x2].toArray s = true := fun w h9 => atoms_spec (ws := ws_PF_needs) B.pre w (List.mem_cons_of_mem _ h9)
  have hex : c.exceptionTable.isEmpty = true := B.noHandlers (atoms_spec (ws := ws_PF_needs) B.pre _ List.mem_cons_self)
  have hown : s.vm.findClass R_PF = some m.cls := findClass_of_methodNamed B.named
  have hlocks := B.notSynchronized
  subst hsz
  have hN : bw_N (fun _ => True) [adPF a0, adText a1] := hN0
  have hS : s.heap = s.heap ∧ ([] : List Loc) = [] := ⟨rfl, rfl⟩
  have hl := lv_entry ([.ref (a0 0), .int x1, .int x2]) (n := 3) (Nat.le_of_ble_eq_true rfl)
  rw [lg_entry_eq]
  generalize (lg_sl ([.ref (a0 0), .int x1, .int x2]) ++ List.replicate (3 - (lg_sl ([.ref (a0 0), .int x1, .int x2])).length) Slot.unset).toArray = ls at hl ⊢
  have hl : lv_has ls 3 [(0, .ref (a0 0)), (1, .int x1), (2, .int x2)] := hl
  have h := hF
  rw [F_PF_needs] at h
  refine lv_aload_n hx hb d_PF_needs_0 rfl (lv_at hl 0 rfl) ?_
  obtain ⟨k_2, u_3, hG1, h⟩ := bind2_some h
  by_cases hk4 : k_2 = 0
  · subst hk4
    have h := ite_t rfl h
    refine bw_callR (va_runV (As := []) (rest := []) ⟨hx, hb, hml, hown, hts⟩ (c_PF_demandRead l ct dC dI a0 r0_0 (a1 0) r0_4 r0_5 r0_6 v0 _ o0 hG1) (cwV 0 hts g_PF_71 rfl rfl rfl (by decide +kernel) ⟨Nat.le_of_ble_eq_true rfl, Nat.le_of_ble_eq_true rfl⟩) ⟨bw_blind nx_call, va_recv hK (hP 0 _ rfl) (ci := 5) (q0 := 0) rfl rfl, fun U hU hW => ⟨rfl, by rw [hU], by rw [hU]; exact hP.sub [0] rfl, va_K.moved hW.alike hK, (hN.sub [0] (by decide) rfl).weaken (fun _ _ => trivial), nx_warm hW hnx⟩⟩ rfl rfl hl.1 rfl (Nat.le_of_ble_eq_true rfl) d_PF_needs_1 ⟨Nat.le_of_ble_eq_true rfl, Nat.le_of_ble_eq_true rfl⟩) ?_
    refine lv_iload_n hx hb d_PF_needs_4 rfl (lv_at hl 1 rfl) ?_
    refine lv_bipush (v := 60) hx hb d_PF_needs_5 (by decide) ?_
    obtain ⟨k_6, u_7, hG5, h⟩ := bind2_some h
    by_cases hk8 : k_6 = 0
    · subst hk8
      have h := ite_t rfl h
      refine bw_callR (va_runS (As := [.int x1, .int (60 : Int32)]) (rest := []) ⟨hx, hb, hml, hown, hts⟩ (c_PF_demandIndex l ct dC dI _ x1 (60 : Int32) hG5) (cwS 2 hts g_PF_85 rfl rfl rfl (by decide +kernel) ⟨Nat.le_of_ble_eq_true rfl, Nat.le_of_ble_eq_true rfl⟩) ⟨bw_blind nx_call, fun U hU hW => ⟨rfl, by rw [hU], by rw [hU]; exact hP.sub [] rfl, va_K.moved hW.alike hK, (hN.sub [] (by decide) rfl).weaken (fun _ _ => trivial), nx_warm hW hnx⟩⟩ rfl rfl hl.1 rfl (Nat.le_of_ble_eq_true rfl) d_PF_needs_7 ⟨Nat.le_of_ble_eq_true rfl, Nat.le_of_ble_eq_true rfl⟩) ?_
      refine lv_iload_n hx hb d_PF_needs_10 rfl (lv_at hl 2 rfl) ?_
      refine lv_bipush (v := 60) hx hb d_PF_needs_11 (by decide) ?_
      obtain ⟨k_10, u_11, hG9, h⟩ := bind2_some h
      by_cases hk12 : k_10 = 0
      · subst hk12
        have h := ite_t rfl h
        refine bw_callR (va_runS (As := [.int x2, .int (60 : Int32)]) (rest := []) ⟨hx, hb, hml, hown, hts⟩ (c_PF_demandIndex l ct dC dI _ x2 (60 : Int32) hG9) (cwS 2 hts g_PF_85 rfl rfl rfl (by decide +kernel) ⟨Nat.le_of_ble_eq_true rfl, Nat.le_of_ble_eq_true rfl⟩) ⟨bw_blind nx_call, fun U hU hW => ⟨rfl, by rw [hU], by rw [hU]; exact hP.sub [] rfl, va_K.moved hW.alike hK, (hN.sub [] (by decide) rfl).weaken (fun _ _ => trivial), nx_warm hW hnx⟩⟩ rfl rfl hl.1 rfl (Nat.le_of_ble_eq_true rfl) d_PF_needs_13 ⟨Nat.le_of_ble_eq_true rfl, Nat.le_of_ble_eq_true rfl⟩) ?_
        exact absurd (pln_0 h) hk
      · have h := ite_f hk12 h
        have e9 := (res2 h).1
        rw [e9]
        exact bt_outS (As := [.int x2, .int (60 : Int32)]) (rest := []) ⟨hx, hb, hml, hown, hts⟩ (x_PF_demandIndex l hl0 ct dC dI _ x2 (60 : Int32) k_10 hG9 hk12) (cwS 2 hts g_PF_85 rfl rfl rfl (by decide +kernel) ⟨Nat.le_of_ble_eq_true rfl, Nat.le_of_ble_eq_true rfl⟩) ⟨bw_blind thx_call, fun U hU hW => ⟨rfl, by rw [hU], by rw [hU]; exact hP.sub [] rfl, va_K.moved hW.alike hK, (hN.sub [] (by decide) rfl).weaken (fun _ _ => trivial), ⟨nx_warm hW hnx, thx_warm hW hU hth⟩⟩⟩ rfl hl.1 rfl (Nat.le_of_ble_eq_true rfl) d_PF_needs_13 hex hlocks ⟨Nat.le_of_ble_eq_true rfl, Nat.le_of_ble_eq_true rfl⟩
    · have h := ite_f hk8 h
      have e9 := (res2 h).1
      rw [e9]
      exact bt_outS (As := [.int x1, .int (60 : Int32)]) (rest := []) ⟨hx, hb, hml, hown, hts⟩ (x_PF_demandIndex l hl0 ct dC dI _ x1 (60 : Int32) k_6 hG5 hk8) (cwS 2 hts g_PF_85 rfl rfl rfl (by decide +kernel) ⟨Nat.le_of_ble_eq_true rfl, Nat.le_of_ble_eq_true rfl⟩) ⟨bw_blind thx_call, fun U hU hW => ⟨rfl, by rw [hU], by rw [hU]; exact hP.sub [] rfl, va_K.moved hW.alike hK, (hN.sub [] (by decide) rfl).weaken (fun _ _ => trivial), ⟨nx_warm hW hnx, thx_warm hW hU hth⟩⟩⟩ rfl hl.1 rfl (Nat.le_of_ble_eq_true rfl) d_PF_needs_7 hex hlocks ⟨Nat.le_of_ble_eq_true rfl, Nat.le_of_ble_eq_true rfl⟩
  · have h := ite_f hk4 h
    have e9 := (res2 h).1
    rw [e9]
    exact bt_outV (As := []) (rest := []) ⟨hx, hb, hml, hown, hts⟩ (x_PF_demandRead l hl0 ct dC dI a0 r0_0 (a1 0) r0_4 r0_5 r0_6 v0 _ o0 k_2 hG1 hk4) (cwV 0 hts g_PF_71 rfl rfl rfl (by decide +kernel) ⟨Nat.le_of_ble_eq_true rfl, Nat.le_of_ble_eq_true rfl⟩) ⟨bw_blind thx_call, va_recv hK (hP 0 _ rfl) (ci := 5) (q0 := 0) rfl rfl, fun U hU hW => ⟨rfl, by rw [hU], by rw [hU]; exact hP.sub [0] rfl, va_K.moved hW.alike hK, (hN.sub [0] (by decide) rfl).weaken (fun _ _ => trivial), ⟨nx_warm hW hnx, thx_warm hW hU hth⟩⟩⟩ rfl hl.1 rfl (Nat.le_of_ble_eq_true rfl) d_PF_needs_1 hex hlocks ⟨Nat.le_of_ble_eq_true rfl, Nat.le_of_ble_eq_true rfl⟩
theorem g_PF_161 : GoodIn wsAll (wsV R_PF 161 R_Reckoner y_Reckoner_whyBroken ws_Reckoner_whyBroken) := gd_V ml_PF_161 im_Reckoner_whyBroken se_Reckoner_whyBroken ini_Reckoner cd_Reckoner_whyBroken
def F_PF_limit_17 (o0 o1 o3 o4 : Ob)  : Nat → Int32 → Int32 → Int32 → Int32 → Ob → Option (Int32 × Ob)
  | 0, _, _, _, _, _ => none
  | n + 1, x1, x2, x3, x4, o2 =>
    if (g32 o3 3 0) ≤ x4 then (some ((-1 : Int32), o2)) else (bind2 (F_Reckoner_whyBroken x4 o2 o3 o4 o1) (fun v15 o_16 => if v15 = 0 then (F_PF_limit_17 o0 o1 o3 o4 n x1 x2 x3 (x4 + (1 : Int32)) o_16) else (if x3 = x1 then (if x2 = 0 then (some (x4, o_16)) else (some (v15, o_16))) else (F_PF_limit_17 o0 o1 o3 o4 n x1 x2 (x3 + (1 : Int32)) (x4 + (1 : Int32)) o_16))))
def F_PF_limit (x1 : Int32) (x2 : Int32) (o0 o1 o2 o3 o4 : Ob) : Option (Nat × Int32 × Ob) :=
  bind2 (F_PF_demandWorkedOut o0) (fun k_2 u_3 => if k_2 = 0 then (bind2 (F_PF_demandNotNegative x1) (fun k_6 u_7 => if k_6 = 0 then (bind2 (F_PF_demandZeroOrOne x2) (fun k_10 u_11 => if k_10 = 0 then (pln (F_PF_limit_17 o0 o1 o3 o4 fuel x1 x2 (0 : Int32) (0 : Int32) o2)) else (some (k_10, ((0 : Int32), o2))))) else (some (k_6, ((0 : Int32), o2))))) else (some (k_2, ((0 : Int32), o2))))
abbrev ws_PF_limit : List Cond := Cond.code y_PF_limit b_PF_limit 6 (some .int) :: wsAll
abbrev rm_PF_limit : Room := { frames := 6, cells := 0, slots := 0, locals := 167 }
set_option maxHeartbeats 4000000 in
set_option maxRecDepth 100000 in
theorem k_PF_limit_17 {p : Program} {l : Launch} {e : Env} {s : State} {m : MethodId} {args : Array Value} {below : List Frame} {meth : Method} {c : Code} {A : Nat → Prop} {ct dC : Nat → ClassId} {dI : Nat → Nat → Nat} {a0 a1 a2 a3 a4 : Nat → Nat} {r0_0 : Nat} {r0_6 : Nat} {v0 : Nat → Nat} {r : Int32} {n2 : Ob} {o0 o1 o3 o4 : Ob}  (C0 : cx wsAll vwCl nx p s m args meth c (dC, dI) (tyA ct) b_PF_limit 6 (some .int) R_PF A [adPF a0, adCells a1, adReckoner a2, adText a3, adSteps a4])  : ∀ (n : Nat) (x1 : Int32) (x2 : Int32) (x3 : Int32) (x4 : Int32) (o2 : Ob) (H : Heap) (locs : List Loc) (ls : Array Slot), bw_P (dC, dI) vwCl [wPF ct a0 r0_0 (a3 0) (a2 0) (a1 0) r0_6 v0 o0, wCells ct a1 o1, wReckoner ct a2 o2, wText ct a3 (a4 0) o3, wSteps ct a4 o4] H → va_S A s.heap H locs → lv_has ls 6 [(0, .ref (a0 0)), (1, .int x1), (2, .int x2), (3, .int x3), (4, .int x4)] → F_PF_limit_17 o0 o1 o3 o4 n x1 x2 x3 x4 o2 = some (r, n2) → W p l e (headSpec ws_PF_limit rm_PF_limit).room s m args below meth c H locs 0 0 (MQ below (bw_Q (dC, dI) vwCl (some (.int r)) [wPF ct a0 r0_0 (a3 0) (a2 0) (a1 0) r0_6 v0 o0, wCells ct a1 o1, wReckoner ct a2 n2, wText ct a3 (a4 0) o3, wSteps ct a4 o4] A) args s 0 0 A) (F0 m 17 ls []) := by
  obtain ⟨hx, hb, hr, hml, hown, hlocks, hts, hK, hN, hA, hnx⟩ := id C0
  intro n
  induction n with
  | zero =>
    intro x1 x2 x3 x4 o2 H locs ls hP hS hl h
    cases h
  | succ n ih =>
    intro x1 x2 x3 x4 o2 H locs ls hP hS hl h
    rw [F_PF_limit_17] at h
    refine lv_iload hx hb d_PF_limit_17 (lv_at hl 4 rfl) ?_
    refine lv_aload_n hx hb d_PF_limit_19 rfl (lv_at hl 0 rfl) ?_
    refine va_get (D := (dC, dI)) (ci := 5) (v := .ref (a3 0)) (C := R_PF) (T := T_PF) (N := 10) hx hb hts in_PF hown hK (hP 0 _ rfl) 0 rfl rfl 1 (by decide) (hts _ fl_PF_19) (fun _ h9 => h9) rfl d_PF_limit_20 ?_
    refine va_get (D := (dC, dI)) (ci := 2) (v := .int (g32 o3 3 0)) (C := R_Text) (T := T_Text) (N := 12) hx hb hts in_Text hown hK (hP 3 _ rfl) 0 rfl rfl 3 (by decide) (hts _ fl_PF_115) (fun _ h9 => h9) rfl d_PF_limit_23 ?_
    refine lv_icmp_ge (tgt := 79) hx hb d_PF_limit_26 (by decide) (fun c13 => ?_) (fun c13 => ?_)
    · have h := ite_t c13 h
      refine lv_iconst (v := -1) hx hb d_PF_limit_79 (by decide) ?_
      obtain ⟨rfl, rfl⟩ := res2 h
      exact W.iret hx hb hr (fun t ht hW => ⟨rfl, by rw [ht]; exact hP, hS.F ht⟩) hS.2.2 d_PF_limit_80
    · have h := ite_f c13 h
      refine lv_aload_n hx hb d_PF_limit_29 rfl (lv_at hl 0 rfl) ?_
      refine va_get (D := (dC, dI)) (ci := 5) (v := .ref (a2 0)) (C := R_PF) (T := T_PF) (N := 10) hx hb hts in_PF hown hK (hP 0 _ rfl) 0 rfl rfl 4 (by decide) (hts _ fl_PF_33) (fun _ h9 => h9) rfl d_PF_limit_30 ?_
      refine lv_aload_n hx hb d_PF_limit_33 rfl (lv_at hl 0 rfl) ?_
      refine va_get (D := (dC, dI)) (ci := 5) (v := .ref (a3 0)) (C := R_PF) (T := T_PF) (N := 10) hx hb hts in_PF hown hK (hP 0 _ rfl) 0 rfl rfl 1 (by decide) (hts _ fl_PF_19) (fun _ h9 => h9) rfl d_PF_limit_34 ?_
      refine lv_iload hx hb d_PF_limit_37 (lv_at hl 4 rfl) ?_
      refine lv_aload_n hx hb d_PF_limit_39 rfl (lv_at hl 0 rfl) ?_
      refine va_get (D := (dC, dI)) (ci := 5) (v := .ref (a1 0)) (C := R_PF) (T := T_PF) (N := 10) hx hb hts in_PF hown hK (hP 0 _ rfl) 0 rfl rfl 5 (by decide) (hts _ fl_PF_40) (fun _ h9 => h9) rfl d_PF_limit_40 ?_
      obtain ⟨v15, o_16, hG14, h⟩ := bind2_some h
      refine bw_call (Lc := [wReckoner ct a2 o2, wText ct a3 (a4 0) o3, wSteps ct a4 o4, wCells ct a1 o1]) (Lc' := [wReckoner ct a2 o_16, wText ct a3 (a4 0) o3, wSteps ct a4 o4, wCells ct a1 o1]) (L' := [wPF ct a0 r0_0 (a3 0) (a2 0) (a1 0) r0_6 v0 o0, wCells ct a1 o1, wReckoner ct a2 o_16, wText ct a3 (a4 0) o3, wSteps ct a4 o4]) [2, 3, 4, 1] (va_runV (As := [.ref (a3 0), .int x4, .ref (a1 0)]) (rest := []) ⟨hx, hb, hml, hown, hts⟩ (c_Reckoner_whyBroken l ct dC dI a2 a3 a4 a1 _ x4 o2 o3 o4 o1 v15 o_16 hG14) (cwV 3 hts g_PF_161 rfl rfl rfl (by decide +kernel) ⟨Nat.le_of_ble_eq_true rfl, Nat.le_of_ble_eq_true rfl⟩) ⟨bw_blind nx_call, va_recv hK (hP 2 _ rfl) (ci := 4) (q0 := 0) rfl rfl, fun U hU hW => ⟨rfl, by rw [hU], by rw [hU]; exact hP.sub [2, 3, 4, 1] rfl, va_K.moved hW.alike hK, (hN.sub [2, 3, 4, 1] (by decide) rfl).weaken (fun _ _ => trivial), nx_warm hW hnx⟩⟩ rfl rfl hl.1 rfl (Nat.le_of_ble_eq_true rfl) d_PF_limit_43 ⟨Nat.le_of_ble_eq_true rfl, Nat.le_of_ble_eq_true rfl⟩) hP hN hS hA rfl rfl rfl (fun H locs hP hS => ?_)
      refine lv_istore (lv' := [(5, .int v15), (0, .ref (a0 0)), (1, .int x1), (2, .int x2), (3, .int x3), (4, .int x4)]) hx hb d_PF_limit_46 hl (by decide) rfl (fun ls hl => ?_)
      refine lv_iload hx hb d_PF_limit_48 (lv_at hl 0 rfl) ?_
      refine lv_if_eq (tgt := 73) hx hb d_PF_limit_50 (by decide) (fun c17 => ?_) (fun c17 => ?_)
      · have h := ite_t c17 h
        refine lv_iinc (v := (x4 + (1 : Int32))) (lv' := [(4, .int (x4 + (1 : Int32))), (5, .int v15), (0, .ref (a0 0)), (1, .int x1), (2, .int x2), (3, .int x3)]) hx hb d_PF_limit_73 hl (k := 5) rfl rfl (by decide) rfl (fun ls hl => ?_)
        refine lv_goto (tgt := 17) hx hb d_PF_limit_76 (by decide) ?_
        exact ih x1 x2 x3 (x4 + (1 : Int32)) o_16 _ _ _ hP hS (lv_sub hl [2, 3, 4, 5, 0] rfl) h
      · have h := ite_f c17 h
        refine lv_iload_n hx hb d_PF_limit_53 rfl (lv_at hl 4 rfl) ?_
        refine lv_iload_n hx hb d_PF_limit_54 rfl (lv_at hl 2 rfl) ?_
        refine lv_icmp_ne (tgt := 70) hx hb d_PF_limit_55 (by decide) (fun c18 => ?_) (fun c18 => ?_)
        · have h := ite_f c18 h
          refine lv_iinc (v := (x3 + (1 : Int32))) (lv' := [(3, .int (x3 + (1 : Int32))), (5, .int v15), (0, .ref (a0 0)), (1, .int x1), (2, .int x2), (4, .int x4)]) hx hb d_PF_limit_70 hl (k := 4) rfl rfl (by decide) rfl (fun ls hl => ?_)
          refine lv_iinc (v := (x4 + (1 : Int32))) (lv' := [(4, .int (x4 + (1 : Int32))), (3, .int (x3 + (1 : Int32))), (5, .int v15), (0, .ref (a0 0)), (1, .int x1), (2, .int x2)]) hx hb d_PF_limit_73 hl (k := 5) rfl rfl (by decide) rfl (fun ls hl => ?_)
          refine lv_goto (tgt := 17) hx hb d_PF_limit_76 (by decide) ?_
          exact ih x1 x2 (x3 + (1 : Int32)) (x4 + (1 : Int32)) o_16 _ _ _ hP hS (lv_sub hl [3, 4, 5, 1, 0] rfl) h
        · have h := ite_t c18 h
          refine lv_iload_n hx hb d_PF_limit_58 rfl (lv_at hl 3 rfl) ?_
          refine lv_if_ne (tgt := 67) hx hb d_PF_limit_59 (by decide) (fun c19 => ?_) (fun c19 => ?_)
          · have h := ite_f c19 h
            refine lv_iload hx hb d_PF_limit_67 (lv_at hl 0 rfl) ?_
            obtain ⟨rfl, rfl⟩ := res2 h
            exact W.iret hx hb hr (fun t ht hW => ⟨rfl, by rw [ht]; exact hP, hS.F ht⟩) hS.2.2 d_PF_limit_69
          · have h := ite_t c19 h
            refine lv_iload hx hb d_PF_limit_62 (lv_at hl 5 rfl) ?_
            refine lv_goto (tgt := 69) hx hb d_PF_limit_64 (by decide) ?_
            obtain ⟨rfl, rfl⟩ := res2 h
            exact W.iret hx hb hr (fun t ht hW => ⟨rfl, by rw [ht]; exact hP, hS.F ht⟩) hS.2.2 d_PF_limit_69
set_option maxHeartbeats 4000000 in
set_option maxRecDepth 100000 in
theorem c_PF_limit (l : Launch) (ct dC : Nat → ClassId) (dI : Nat → Nat → Nat) (a0 a1 a2 a3 a4 : Nat → Nat) (r0_0 : Nat) (r0_6 : Nat) (v0 : Nat → Nat) (sz : Nat) (x1 : Int32) (x2 : Int32) (o0 o1 o2 o3 o4 : Ob) (r : Int32) (n2 : Ob) (hF : F_PF_limit x1 x2 o0 o1 o2 o3 o4 = some (0, (r, n2))) : Met l y_PF_limit ws_PF_limit rm_PF_limit (bw_Pc [.ref (a0 0), .int x1, .int x2] (dC, dI) vwCl (tyA ct) [wPF ct a0 r0_0 (a3 0) (a2 0) (a1 0) r0_6 v0 o0, wCells ct a1 o1, wReckoner ct a2 o2, wText ct a3 (a4 0) o3, wSteps ct a4 o4] sz nx) (bw_Q (dC, dI) vwCl (some (.int r)) [wPF ct a0 r0_0 (a3 0) (a2 0) (a1 0) r0_6 v0 o0, wCells ct a1 o1, wReckoner ct a2 n2, wText ct a3 (a4 0) o3, wSteps ct a4 o4] (bw_A [adPF a0, adCells a1, adReckoner a2, adText a3, adSteps a4] sz)) 0 0 (bw_A [adPF a0, adCells a1, adReckoner a2, adText a3, adSteps a4] sz) := by
  refine Met.ofW (cc := b_PF_limit) (maxL := 6) (ret := (some .int)) (by decide) rfl ?_
  intro p e s m args below meth c s₁ B hml hv
  obtain ⟨rfl, hsz, hP, hK, hN0, hnx⟩ := hv
  have hx := B.exec
  have hb := B.bytes
  have hr := B.returns
  have hts : ∀ w ∈ wsAll, w.before [.ref (a0 0), .int x1, .int x2].toArray s = true := fun w h9 => atoms_spec (ws := ws_PF_limit) B.pre w (List.mem_cons_of_mem _ h9)
  have hown : s.vm.findClass R_PF = some m.cls := findClass_of_methodNamed B.named
  have hlocks := B.notSynchronized
  subst hsz
  have hN : bw_N (bw_A [adPF a0, adCells a1, adReckoner a2, adText a3, adSteps a4] s.heap.size) [adPF a0, adCells a1, adReckoner a2, adText a3, adSteps a4] := hN0.self s.heap.size
  generalize hAe : bw_A [adPF a0, adCells a1, adReckoner a2, adText a3, adSteps a4] s.heap.size = A at hN ⊢
  have hA : ∀ q : Nat, s.heap.size ≤ q → A q := fun q h => by rw [← hAe]; exact Or.inr h
  have hS : va_S A s.heap s.heap [] := va_S.rf
  have hl := lv_entry ([.ref (a0 0), .int x1, .int x2]) (n := 6) (Nat.le_of_ble_eq_true rfl)
  rw [lg_entry_eq]
  generalize (lg_sl ([.ref (a0 0), .int x1, .int x2]) ++ List.replicate (6 - (lg_sl ([.ref (a0 0), .int x1, .int x2])).length) Slot.unset).toArray = ls at hl ⊢
  have hl : lv_has ls 6 [(0, .ref (a0 0)), (1, .int x1), (2, .int x2)] := hl
  have C0 : cx wsAll vwCl nx p s m [.ref (a0 0), .int x1, .int x2].toArray meth c (dC, dI) (tyA ct) b_PF_limit 6 (some .int) R_PF A [adPF a0, adCells a1, adReckoner a2, adText a3, adSteps a4] := ⟨hx, hb, hr, hml, hown, hlocks, hts, hK, hN, hA, hnx⟩
  have h := hF
  rw [F_PF_limit] at h
  refine lv_aload_n hx hb d_PF_limit_0 rfl (lv_at hl 0 rfl) ?_
  obtain ⟨k_2, u_3, hG1, h⟩ := bind2_some h
  by_cases hk4 : k_2 = 0
  · subst hk4
    have h := ite_t rfl h
    refine bw_callR (va_runV (As := []) (rest := []) ⟨hx, hb, hml, hown, hts⟩ (c_PF_demandWorkedOut l ct dC dI a0 r0_0 (a3 0) (a2 0) (a1 0) r0_6 v0 _ o0 hG1) (cwV 0 hts g_PF_125 rfl rfl rfl (by decide +kernel) ⟨Nat.le_of_ble_eq_true rfl, Nat.le_of_ble_eq_true rfl⟩) ⟨bw_blind nx_call, va_recv hK (hP 0 _ rfl) (ci := 5) (q0 := 0) rfl rfl, fun U hU hW => ⟨rfl, by rw [hU], by rw [hU]; exact hP.sub [0] rfl, va_K.moved hW.alike hK, (hN.sub [0] (by decide) rfl).weaken (fun _ _ => trivial), nx_warm hW hnx⟩⟩ rfl rfl hl.1 rfl (Nat.le_of_ble_eq_true rfl) d_PF_limit_1 ⟨Nat.le_of_ble_eq_true rfl, Nat.le_of_ble_eq_true rfl⟩) ?_
    refine lv_iload_n hx hb d_PF_limit_4 rfl (lv_at hl 1 rfl) ?_
    obtain ⟨k_6, u_7, hG5, h⟩ := bind2_some h
    by_cases hk8 : k_6 = 0
    · subst hk8
      have h := ite_t rfl h
      refine bw_callR (va_runS (As := [.int x1]) (rest := []) ⟨hx, hb, hml, hown, hts⟩ (c_PF_demandNotNegative l ct dC dI _ x1 hG5) (cwS 1 hts g_PF_74 rfl rfl rfl (by decide +kernel) ⟨Nat.le_of_ble_eq_true rfl, Nat.le_of_ble_eq_true rfl⟩) ⟨bw_blind nx_call, fun U hU hW => ⟨rfl, by rw [hU], by rw [hU]; exact hP.sub [] rfl, va_K.moved hW.alike hK, (hN.sub [] (by decide) rfl).weaken (fun _ _ => trivial), nx_warm hW hnx⟩⟩ rfl rfl hl.1 rfl (Nat.le_of_ble_eq_true rfl) d_PF_limit_5 ⟨Nat.le_of_ble_eq_true rfl, Nat.le_of_ble_eq_true rfl⟩) ?_
      refine lv_iload_n hx hb d_PF_limit_8 rfl (lv_at hl 2 rfl) ?_
      obtain ⟨k_10, u_11, hG9, h⟩ := bind2_some h
      by_cases hk12 : k_10 = 0
      · subst hk12
        have h := ite_t rfl h
        refine bw_callR (va_runS (As := [.int x2]) (rest := []) ⟨hx, hb, hml, hown, hts⟩ (c_PF_demandZeroOrOne l ct dC dI _ x2 hG9) (cwS 1 hts g_PF_132 rfl rfl rfl (by decide +kernel) ⟨Nat.le_of_ble_eq_true rfl, Nat.le_of_ble_eq_true rfl⟩) ⟨bw_blind nx_call, fun U hU hW => ⟨rfl, by rw [hU], by rw [hU]; exact hP.sub [] rfl, va_K.moved hW.alike hK, (hN.sub [] (by decide) rfl).weaken (fun _ _ => trivial), nx_warm hW hnx⟩⟩ rfl rfl hl.1 rfl (Nat.le_of_ble_eq_true rfl) d_PF_limit_9 ⟨Nat.le_of_ble_eq_true rfl, Nat.le_of_ble_eq_true rfl⟩) ?_
        have h := pln_some h
        refine lv_iconst (v := 0) hx hb d_PF_limit_12 (by decide) ?_
        refine lv_istore_n (lv' := [(3, .int (0 : Int32)), (0, .ref (a0 0)), (1, .int x1), (2, .int x2)]) hx hb d_PF_limit_13 rfl hl (by decide) rfl (fun ls hl => ?_)
        refine lv_iconst (v := 0) hx hb d_PF_limit_14 (by decide) ?_
        refine lv_istore (lv' := [(4, .int (0 : Int32)), (3, .int (0 : Int32)), (0, .ref (a0 0)), (1, .int x1), (2, .int x2)]) hx hb d_PF_limit_15 hl (by decide) rfl (fun ls hl => ?_)
        exact k_PF_limit_17 C0 fuel x1 x2 (0 : Int32) (0 : Int32) o2 _ _ _ hP hS (lv_sub hl [2, 3, 4, 1, 0] rfl) h
      · have h := ite_f hk12 h
        exact absurd (thr_eq h) hk12
    · have h := ite_f hk8 h
      exact absurd (thr_eq h) hk8
  · have h := ite_f hk4 h
    exact absurd (thr_eq h) hk4
abbrev rmx_PF_limit : Room := { frames := 7, cells := 1, slots := 6, locals := 167 }
set_option maxHeartbeats 4000000 in
set_option maxRecDepth 100000 in
theorem x_PF_limit (l : Launch) (hl0 : l.stackTraces = false) (ct dC : Nat → ClassId) (dI : Nat → Nat → Nat) (a0 a1 a2 a3 a4 : Nat → Nat) (r0_0 : Nat) (r0_6 : Nat) (v0 : Nat → Nat) (sz : Nat) (x1 : Int32) (x2 : Int32) (o0 o1 o2 o3 o4 : Ob) (k : Nat) (r : Int32) (n2 : Ob) (hF : F_PF_limit x1 x2 o0 o1 o2 o3 o4 = some (k, (r, n2))) (hk : ¬ k = 0) : MetT l y_PF_limit ws_PF_limit rmx_PF_limit (bw_Pc [.ref (a0 0), .int x1, .int x2] (dC, dI) vwCl (tyA ct) [wPF ct a0 r0_0 (a3 0) (a2 0) (a1 0) r0_6 v0 o0, wCells ct a1 o1, wReckoner ct a2 o2, wText ct a3 (a4 0) o3, wSteps ct a4 o4] sz thn) (bt_Q (exN k)) 1 6 := by
  refine MetT.ofW (cc := b_PF_limit) (maxL := 6) (ret := (some .int)) (by decide) rfl ?_
  intro p e s m args below meth c s₁ B hml hv
  obtain ⟨rfl, hsz, hP, hK, hN0, hnx, hth⟩ := hv
  have hx := B.exec
  have hb := B.bytes
  have hr := B.returns
  have hts : ∀ w ∈ wsAll, w.before [.ref (a0 0), .int x1, .int x2].toArray s = true := fun w h9 => atoms_spec (ws := ws_PF_limit) B.pre w (List.mem_cons_of_mem _ h9)
  have hex : c.exceptionTable.isEmpty = true := B.noHandlers (atoms_spec (ws := ws_PF_limit) B.pre _ List.mem_cons_self)
  have hown : s.vm.findClass R_PF = some m.cls := findClass_of_methodNamed B.named
  have hlocks := B.notSynchronized
  subst hsz
  have hN : bw_N (fun _ => True) [adPF a0, adCells a1, adReckoner a2, adText a3, adSteps a4] := hN0
  have hS : s.heap = s.heap ∧ ([] : List Loc) = [] := ⟨rfl, rfl⟩
  have hl := lv_entry ([.ref (a0 0), .int x1, .int x2]) (n := 6) (Nat.le_of_ble_eq_true rfl)
  rw [lg_entry_eq]
  generalize (lg_sl ([.ref (a0 0), .int x1, .int x2]) ++ List.replicate (6 - (lg_sl ([.ref (a0 0), .int x1, .int x2])).length) Slot.unset).toArray = ls at hl ⊢
  have hl : lv_has ls 6 [(0, .ref (a0 0)), (1, .int x1), (2, .int x2)] := hl
  have h := hF
  rw [F_PF_limit] at h
  refine lv_aload_n hx hb d_PF_limit_0 rfl (lv_at hl 0 rfl) ?_
  obtain ⟨k_2, u_3, hG1, h⟩ := bind2_some h
  by_cases hk4 : k_2 = 0
  · subst hk4
    have h := ite_t rfl h
    refine bw_callR (va_runV (As := []) (rest := []) ⟨hx, hb, hml, hown, hts⟩ (c_PF_demandWorkedOut l ct dC dI a0 r0_0 (a3 0) (a2 0) (a1 0) r0_6 v0 _ o0 hG1) (cwV 0 hts g_PF_125 rfl rfl rfl (by decide +kernel) ⟨Nat.le_of_ble_eq_true rfl, Nat.le_of_ble_eq_true rfl⟩) ⟨bw_blind nx_call, va_recv hK (hP 0 _ rfl) (ci := 5) (q0 := 0) rfl rfl, fun U hU hW => ⟨rfl, by rw [hU], by rw [hU]; exact hP.sub [0] rfl, va_K.moved hW.alike hK, (hN.sub [0] (by decide) rfl).weaken (fun _ _ => trivial), nx_warm hW hnx⟩⟩ rfl rfl hl.1 rfl (Nat.le_of_ble_eq_true rfl) d_PF_limit_1 ⟨Nat.le_of_ble_eq_true rfl, Nat.le_of_ble_eq_true rfl⟩) ?_
    refine lv_iload_n hx hb d_PF_limit_4 rfl (lv_at hl 1 rfl) ?_
    obtain ⟨k_6, u_7, hG5, h⟩ := bind2_some h
    by_cases hk8 : k_6 = 0
    · subst hk8
      have h := ite_t rfl h
      refine bw_callR (va_runS (As := [.int x1]) (rest := []) ⟨hx, hb, hml, hown, hts⟩ (c_PF_demandNotNegative l ct dC dI _ x1 hG5) (cwS 1 hts g_PF_74 rfl rfl rfl (by decide +kernel) ⟨Nat.le_of_ble_eq_true rfl, Nat.le_of_ble_eq_true rfl⟩) ⟨bw_blind nx_call, fun U hU hW => ⟨rfl, by rw [hU], by rw [hU]; exact hP.sub [] rfl, va_K.moved hW.alike hK, (hN.sub [] (by decide) rfl).weaken (fun _ _ => trivial), nx_warm hW hnx⟩⟩ rfl rfl hl.1 rfl (Nat.le_of_ble_eq_true rfl) d_PF_limit_5 ⟨Nat.le_of_ble_eq_true rfl, Nat.le_of_ble_eq_true rfl⟩) ?_
      refine lv_iload_n hx hb d_PF_limit_8 rfl (lv_at hl 2 rfl) ?_
      obtain ⟨k_10, u_11, hG9, h⟩ := bind2_some h
      by_cases hk12 : k_10 = 0
      · subst hk12
        have h := ite_t rfl h
        refine bw_callR (va_runS (As := [.int x2]) (rest := []) ⟨hx, hb, hml, hown, hts⟩ (c_PF_demandZeroOrOne l ct dC dI _ x2 hG9) (cwS 1 hts g_PF_132 rfl rfl rfl (by decide +kernel) ⟨Nat.le_of_ble_eq_true rfl, Nat.le_of_ble_eq_true rfl⟩) ⟨bw_blind nx_call, fun U hU hW => ⟨rfl, by rw [hU], by rw [hU]; exact hP.sub [] rfl, va_K.moved hW.alike hK, (hN.sub [] (by decide) rfl).weaken (fun _ _ => trivial), nx_warm hW hnx⟩⟩ rfl rfl hl.1 rfl (Nat.le_of_ble_eq_true rfl) d_PF_limit_9 ⟨Nat.le_of_ble_eq_true rfl, Nat.le_of_ble_eq_true rfl⟩) ?_
        exact absurd (pln_0 h) hk
      · have h := ite_f hk12 h
        have e9 := (res2 h).1
        rw [e9]
        exact bt_outS (As := [.int x2]) (rest := []) ⟨hx, hb, hml, hown, hts⟩ (x_PF_demandZeroOrOne l hl0 ct dC dI _ x2 k_10 hG9 hk12) (cwS 1 hts g_PF_132 rfl rfl rfl (by decide +kernel) ⟨Nat.le_of_ble_eq_true rfl, Nat.le_of_ble_eq_true rfl⟩) ⟨bw_blind thx_call, fun U hU hW => ⟨rfl, by rw [hU], by rw [hU]; exact hP.sub [] rfl, va_K.moved hW.alike hK, (hN.sub [] (by decide) rfl).weaken (fun _ _ => trivial), ⟨nx_warm hW hnx, thx_warm hW hU hth⟩⟩⟩ rfl hl.1 rfl (Nat.le_of_ble_eq_true rfl) d_PF_limit_9 hex hlocks ⟨Nat.le_of_ble_eq_true rfl, Nat.le_of_ble_eq_true rfl⟩
    · have h := ite_f hk8 h
      have e9 := (res2 h).1
      rw [e9]
      exact bt_outS (As := [.int x1]) (rest := []) ⟨hx, hb, hml, hown, hts⟩ (x_PF_demandNotNegative l hl0 ct dC dI _ x1 k_6 hG5 hk8) (cwS 1 hts g_PF_74 rfl rfl rfl (by decide +kernel) ⟨Nat.le_of_ble_eq_true rfl, Nat.le_of_ble_eq_true rfl⟩) ⟨bw_blind thx_call, fun U hU hW => ⟨rfl, by rw [hU], by rw [hU]; exact hP.sub [] rfl, va_K.moved hW.alike hK, (hN.sub [] (by decide) rfl).weaken (fun _ _ => trivial), ⟨nx_warm hW hnx, thx_warm hW hU hth⟩⟩⟩ rfl hl.1 rfl (Nat.le_of_ble_eq_true rfl) d_PF_limit_5 hex hlocks ⟨Nat.le_of_ble_eq_true rfl, Nat.le_of_ble_eq_true rfl⟩
  · have h := ite_f hk4 h
    have e9 := (res2 h).1
    rw [e9]
    exact bt_outV (As := []) (rest := []) ⟨hx, hb, hml, hown, hts⟩ (x_PF_demandWorkedOut l hl0 ct dC dI a0 r0_0 (a3 0) (a2 0) (a1 0) r0_6 v0 _ o0 k_2 hG1 hk4) (cwV 0 hts g_PF_125 rfl rfl rfl (by decide +kernel) ⟨Nat.le_of_ble_eq_true rfl, Nat.le_of_ble_eq_true rfl⟩) ⟨bw_blind thx_call, va_recv hK (hP 0 _ rfl) (ci := 5) (q0 := 0) rfl rfl, fun U hU hW => ⟨rfl, by rw [hU], by rw [hU]; exact hP.sub [0] rfl, va_K.moved hW.alike hK, (hN.sub [0] (by decide) rfl).weaken (fun _ _ => trivial), ⟨nx_warm hW hnx, thx_warm hW hU hth⟩⟩⟩ rfl hl.1 rfl (Nat.le_of_ble_eq_true rfl) d_PF_limit_1 hex hlocks ⟨Nat.le_of_ble_eq_true rfl, Nat.le_of_ble_eq_true rfl⟩
theorem g_PF_172 : GoodIn wsAll (wsV R_PF 172 R_Cells y_Cells_copyFrom ws_Cells_copyFrom) := gd_V ml_PF_172 im_Cells_copyFrom se_Cells_copyFrom ini_Cells cd_Cells_copyFrom
theorem g_PF_176 : GoodIn wsAll (wsV R_PF 176 R_Reckoner y_Reckoner_isAnyBroken ws_Reckoner_isAnyBroken) := gd_V ml_PF_176 im_Reckoner_isAnyBroken se_Reckoner_isAnyBroken ini_Reckoner cd_Reckoner_isAnyBroken
def F_PF_check_62 (o0 o1 o3 o5 : Ob)  : Nat → Int32 → Int64 → Int64 → Int32 → Int32 → Ob → Ob → Option (Int32 × Ob × Ob)
  | 0, _, _, _, _, _, _, _ => none
  | n + 1, x1, x2, x4, x6, x7, o2, o4 =>
    if x1 < x7 then (chk (inb (0 : Int32) 8) (some (x6, (s64 o2 0 (Int32.toNatClampNeg (0 : Int32)) x2), o4))) else (if x6 = (-1 : Int32) then (if (lg_cmp (x2 + ((Int32.toInt64 x7) * x4)) (1000000000 : Int64)) ≤ 0 then (chk (inb (0 : Int32) 8) (bind3 (F_Reckoner_workOutHanging (0 : Int32) (s64 o2 0 (Int32.toNatClampNeg (0 : Int32)) (x2 + ((Int32.toInt64 x7) * x4))) o3 o5 o4) (fun v18 o_19 o_20 => bind2 (F_Reckoner_isAnyBroken o_19 o3 o5 o_20) (fun v22 o_23 => if (b2i v22) = 0 then (F_PF_check_62 o0 o1 o3 o5 n x1 x2 x4 x6 (x7 + (1 : Int32)) o_23 o_20) else (F_PF_check_62 o0 o1 o3 o5 n x1 x2 x4 x7 (x7 + (1 : Int32)) o_23 o_20))))) else (chk (inb (0 : Int32) 8) (some (x6, (s64 o2 0 (Int32.toNatClampNeg (0 : Int32)) x2), o4)))) else (chk (inb (0 : Int32) 8) (some (x6, (s64 o2 0 (Int32.toNatClampNeg (0 : Int32)) x2), o4))))
def F_PF_check (x1 : Int32) (o0 o1 o2 o3 o4 o5 : Ob) : Option (Nat × Int32 × Ob × Ob) :=
  bind2 (F_PF_demandWorkedOut o0) (fun k_2 u_3 => if k_2 = 0 then (if x1 < 0 then (some (2, ((0 : Int32), o2, o4))) else (if x1 ≤ (50 : Int32) then (pln (chk (inb (0 : Int32) 8) (bind1 (F_Cells_copyFrom o4 o1) (fun o_10 => F_PF_check_62 o0 o1 o3 o5 fuel x1 (g64 o2 0 (Int32.toNatClampNeg (0 : Int32))) (g64 o2 1 (Int32.toNatClampNeg (0 : Int32))) (-1 : Int32) (0 : Int32) o2 o_10)))) else (some (2, ((0 : Int32), o2, o4))))) else (some (k_2, ((0 : Int32), o2, o4))))
abbrev ws_PF_check : List Cond := Cond.code y_PF_check b_PF_check 10 (some .int) :: wsAll
abbrev rm_PF_check : Room := { frames := 7, cells := 0, slots := 0, locals := 197 }
set_option maxHeartbeats 4000000 in
set_option maxRecDepth 100000 in
theorem k_PF_check_62 {p : Program} {l : Launch} {e : Env} {s : State} {m : MethodId} {args : Array Value} {below : List Frame} {meth : Method} {c : Code} {A : Nat → Prop} {ct dC : Nat → ClassId} {dI : Nat → Nat → Nat} {a0 a1 a2 a3 a4 a5 : Nat → Nat} {r0_0 : Nat} {v0 : Nat → Nat} {r : Int32} {n2 n4 : Ob} {o0 o1 o3 o5 : Ob}  (C0 : cx wsAll vwCl nx p s m args meth c (dC, dI) (tyA ct) b_PF_check 10 (some .int) R_PF A [adPF a0, adCells a1, adReckoner a2, adText a3, adCells a4, adSteps a5])  : ∀ (n : Nat) (x1 : Int32) (x2 : Int64) (x4 : Int64) (x6 : Int32) (x7 : Int32) (o2 o4 : Ob) (H : Heap) (locs : List Loc) (ls : Array Slot), bw_P (dC, dI) vwCl [wPF ct a0 r0_0 (a3 0) (a2 0) (a1 0) (a4 0) v0 o0, wCells ct a1 o1, wReckoner ct a2 o2, wText ct a3 (a5 0) o3, wCells ct a4 o4, wSteps ct a5 o5] H → va_S A s.heap H locs → lv_has ls 10 [(0, .ref (a0 0)), (1, .int x1), (2, .long x2), (4, .long x4), (6, .int x6), (7, .int x7)] → F_PF_check_62 o0 o1 o3 o5 n x1 x2 x4 x6 x7 o2 o4 = some (r, n2, n4) → W p l e (headSpec ws_PF_check rm_PF_check).room s m args below meth c H locs 0 0 (MQ below (bw_Q (dC, dI) vwCl (some (.int r)) [wPF ct a0 r0_0 (a3 0) (a2 0) (a1 0) (a4 0) v0 o0, wCells ct a1 o1, wReckoner ct a2 n2, wText ct a3 (a5 0) o3, wCells ct a4 n4, wSteps ct a5 o5] A) args s 0 0 A) (F0 m 62 ls []) := by
  obtain ⟨hx, hb, hr, hml, hown, hlocks, hts, hK, hN, hA, hnx⟩ := id C0
  intro n
  induction n with
  | zero =>
    intro x1 x2 x4 x6 x7 o2 o4 H locs ls hP hS hl h
    cases h
  | succ n ih =>
    intro x1 x2 x4 x6 x7 o2 o4 H locs ls hP hS hl h
    rw [F_PF_check_62] at h
    refine lv_iload hx hb d_PF_check_62 (lv_at hl 5 rfl) ?_
    refine lv_iload_n hx hb d_PF_check_64 rfl (lv_at hl 1 rfl) ?_
    refine lv_icmp_gt (tgt := 152) hx hb d_PF_check_65 (by decide) (fun c11 => ?_) (fun c11 => ?_)
    · have h := ite_t c11 h
      refine lv_aload_n hx hb d_PF_check_152 rfl (lv_at hl 0 rfl) ?_
      refine va_get (D := (dC, dI)) (ci := 5) (v := .ref (a2 0)) (C := R_PF) (T := T_PF) (N := 10) hx hb hts in_PF hown hK (hP 0 _ rfl) 0 rfl rfl 4 (by decide) (hts _ fl_PF_33) (fun _ h9 => h9) rfl d_PF_check_153 ?_
      refine va_get (D := (dC, dI)) (ci := 4) (v := .ref (a2 1)) (C := R_Reckoner) (T := T_Reckoner) (N := 6) hx hb hts in_Reckoner hown hK (hP 2 _ rfl) 0 rfl rfl 0 (by decide) (hts _ fl_PF_166) (fun _ h9 => h9) rfl d_PF_check_156 ?_
      refine lv_iconst (v := 0) hx hb d_PF_check_159 (by decide) ?_
      refine lv_lload_n hx hb d_PF_check_160 rfl (lv_at hl 2 rfl) ?_
      obtain ⟨hi12, h⟩ := chk_some h
      refine st_Reckoner_0 hx hb hK hP hN hS 2 rfl (inb_in hi12) d_PF_check_161 (fun H locs hP hS => ?_)
      have hP : bw_P (dC, dI) vwCl [wPF ct a0 r0_0 (a3 0) (a2 0) (a1 0) (a4 0) v0 o0, wCells ct a1 o1, wReckoner ct a2 (s64 o2 0 (Int32.toNatClampNeg (0 : Int32)) x2), wText ct a3 (a5 0) o3, wCells ct a4 o4, wSteps ct a5 o5] H := hP
      refine lv_iload hx hb d_PF_check_162 (lv_at hl 4 rfl) ?_
      obtain ⟨rfl, rfl, rfl⟩ := res3 h
      exact W.iret hx hb hr (fun t ht hW => ⟨rfl, by rw [ht]; exact hP, hS.F ht⟩) hS.2.2 d_PF_check_164
    · have h := ite_f c11 h
      refine lv_iload hx hb d_PF_check_68 (lv_at hl 4 rfl) ?_
      refine lv_iconst (v := -1) hx hb d_PF_check_70 (by decide) ?_
      refine lv_icmp_ne (tgt := 152) hx hb d_PF_check_71 (by decide) (fun c13 => ?_) (fun c13 => ?_)
      · have h := ite_f c13 h
        refine lv_aload_n hx hb d_PF_check_152 rfl (lv_at hl 0 rfl) ?_
        refine va_get (D := (dC, dI)) (ci := 5) (v := .ref (a2 0)) (C := R_PF) (T := T_PF) (N := 10) hx hb hts in_PF hown hK (hP 0 _ rfl) 0 rfl rfl 4 (by decide) (hts _ fl_PF_33) (fun _ h9 => h9) rfl d_PF_check_153 ?_
        refine va_get (D := (dC, dI)) (ci := 4) (v := .ref (a2 1)) (C := R_Reckoner) (T := T_Reckoner) (N := 6) hx hb hts in_Reckoner hown hK (hP 2 _ rfl) 0 rfl rfl 0 (by decide) (hts _ fl_PF_166) (fun _ h9 => h9) rfl d_PF_check_156 ?_
        refine lv_iconst (v := 0) hx hb d_PF_check_159 (by decide) ?_
        refine lv_lload_n hx hb d_PF_check_160 rfl (lv_at hl 2 rfl) ?_
        obtain ⟨hi14, h⟩ := chk_some h
        refine st_Reckoner_0 hx hb hK hP hN hS 2 rfl (inb_in hi14) d_PF_check_161 (fun H locs hP hS => ?_)
        have hP : bw_P (dC, dI) vwCl [wPF ct a0 r0_0 (a3 0) (a2 0) (a1 0) (a4 0) v0 o0, wCells ct a1 o1, wReckoner ct a2 (s64 o2 0 (Int32.toNatClampNeg (0 : Int32)) x2), wText ct a3 (a5 0) o3, wCells ct a4 o4, wSteps ct a5 o5] H := hP
        refine lv_iload hx hb d_PF_check_162 (lv_at hl 4 rfl) ?_
        obtain ⟨rfl, rfl, rfl⟩ := res3 h
        exact W.iret hx hb hr (fun t ht hW => ⟨rfl, by rw [ht]; exact hP, hS.F ht⟩) hS.2.2 d_PF_check_164
      · have h := ite_t c13 h
        refine lv_lload_n hx hb d_PF_check_74 rfl (lv_at hl 2 rfl) ?_
        refine lv_iload hx hb d_PF_check_75 (lv_at hl 5 rfl) ?_
        refine lv_i2l (v := (Int32.toInt64 x7)) hx hb d_PF_check_77 rfl ?_
        refine lv_lload hx hb d_PF_check_78 (lv_at hl 3 rfl) ?_
        refine lv_lmul hx hb d_PF_check_80 ?_
        refine lv_ladd hx hb d_PF_check_81 ?_
        refine lv_lstore (lv' := [(8, .long (x2 + ((Int32.toInt64 x7) * x4))), (0, .ref (a0 0)), (1, .int x1), (2, .long x2), (4, .long x4), (6, .int x6), (7, .int x7)]) hx hb d_PF_check_82 hl (by decide) rfl (fun ls hl => ?_)
        refine lv_lload hx hb d_PF_check_84 (lv_at hl 0 rfl) ?_
        refine lv_ldc2 (v := 1000000000) hx hb hown (hts _ cn_PF_89) d_PF_check_86 ?_
        refine W.lcmp hx hb d_PF_check_89 ?_
        refine lv_if_le (tgt := 96) hx hb d_PF_check_90 (by decide) (fun c15 => ?_) (fun c15 => ?_)
        · have h := ite_t c15 h
          refine lv_aload_n hx hb d_PF_check_96 rfl (lv_at hl 1 rfl) ?_
          refine va_get (D := (dC, dI)) (ci := 5) (v := .ref (a2 0)) (C := R_PF) (T := T_PF) (N := 10) hx hb hts in_PF hown hK (hP 0 _ rfl) 0 rfl rfl 4 (by decide) (hts _ fl_PF_33) (fun _ h9 => h9) rfl d_PF_check_97 ?_
          refine va_get (D := (dC, dI)) (ci := 4) (v := .ref (a2 1)) (C := R_Reckoner) (T := T_Reckoner) (N := 6) hx hb hts in_Reckoner hown hK (hP 2 _ rfl) 0 rfl rfl 0 (by decide) (hts _ fl_PF_166) (fun _ h9 => h9) rfl d_PF_check_100 ?_
          refine lv_iconst (v := 0) hx hb d_PF_check_103 (by decide) ?_
          refine lv_lload hx hb d_PF_check_104 (lv_at hl 0 rfl) ?_
          obtain ⟨hi16, h⟩ := chk_some h
          refine st_Reckoner_0 hx hb hK hP hN hS 2 rfl (inb_in hi16) d_PF_check_106 (fun H locs hP hS => ?_)
          have hP : bw_P (dC, dI) vwCl [wPF ct a0 r0_0 (a3 0) (a2 0) (a1 0) (a4 0) v0 o0, wCells ct a1 o1, wReckoner ct a2 (s64 o2 0 (Int32.toNatClampNeg (0 : Int32)) (x2 + ((Int32.toInt64 x7) * x4))), wText ct a3 (a5 0) o3, wCells ct a4 o4, wSteps ct a5 o5] H := hP
          refine lv_aload_n hx hb d_PF_check_107 rfl (lv_at hl 1 rfl) ?_
          refine va_get (D := (dC, dI)) (ci := 5) (v := .ref (a2 0)) (C := R_PF) (T := T_PF) (N := 10) hx hb hts in_PF hown hK (hP 0 _ rfl) 0 rfl rfl 4 (by decide) (hts _ fl_PF_33) (fun _ h9 => h9) rfl d_PF_check_108 ?_
          refine lv_aload_n hx hb d_PF_check_111 rfl (lv_at hl 1 rfl) ?_
          refine va_get (D := (dC, dI)) (ci := 5) (v := .ref (a3 0)) (C := R_PF) (T := T_PF) (N := 10) hx hb hts in_PF hown hK (hP 0 _ rfl) 0 rfl rfl 1 (by decide) (hts _ fl_PF_19) (fun _ h9 => h9) rfl d_PF_check_112 ?_
          refine lv_iconst (v := 0) hx hb d_PF_check_115 (by decide) ?_
          refine lv_aload_n hx hb d_PF_check_116 rfl (lv_at hl 1 rfl) ?_
          refine va_get (D := (dC, dI)) (ci := 5) (v := .ref (a4 0)) (C := R_PF) (T := T_PF) (N := 10) hx hb hts in_PF hown hK (hP 0 _ rfl) 0 rfl rfl 6 (by decide) (hts _ fl_PF_44) (fun _ h9 => h9) rfl d_PF_check_117 ?_
          obtain ⟨v18, o_19, o_20, hG17, h⟩ := bind3_some h
          refine bw_call (Lc := [wReckoner ct a2 (s64 o2 0 (Int32.toNatClampNeg (0 : Int32)) (x2 + ((Int32.toInt64 x7) * x4))), wText ct a3 (a5 0) o3, wSteps ct a5 o5, wCells ct a4 o4]) (Lc' := [wReckoner ct a2 o_19, wText ct a3 (a5 0) o3, wSteps ct a5 o5, wCells ct a4 o_20]) (L' := [wPF ct a0 r0_0 (a3 0) (a2 0) (a1 0) (a4 0) v0 o0, wCells ct a1 o1, wReckoner ct a2 o_19, wText ct a3 (a5 0) o3, wCells ct a4 o_20, wSteps ct a5 o5]) [2, 3, 5, 4] (va_runV (As := [.ref (a3 0), .int (0 : Int32), .ref (a4 0)]) (rest := []) ⟨hx, hb, hml, hown, hts⟩ (c_Reckoner_workOutHanging l ct dC dI a2 a3 a5 a4 _ (0 : Int32) (s64 o2 0 (Int32.toNatClampNeg (0 : Int32)) (x2 + ((Int32.toInt64 x7) * x4))) o3 o5 o4 v18 o_19 o_20 hG17) (cwV 3 hts g_PF_104 rfl rfl rfl (by decide +kernel) ⟨Nat.le_of_ble_eq_true rfl, Nat.le_of_ble_eq_true rfl⟩) ⟨bw_blind nx_call, va_recv hK (hP 2 _ rfl) (ci := 4) (q0 := 0) rfl rfl, fun U hU hW => ⟨rfl, by rw [hU], by rw [hU]; exact hP.sub [2, 3, 5, 4] rfl, va_K.moved hW.alike hK, (hN.sub [2, 3, 5, 4] (by decide) rfl).weaken (fun _ _ => trivial), nx_warm hW hnx⟩⟩ rfl rfl hl.1 rfl (Nat.le_of_ble_eq_true rfl) d_PF_check_120 ⟨Nat.le_of_ble_eq_true rfl, Nat.le_of_ble_eq_true rfl⟩) hP hN hS hA rfl rfl rfl (fun H locs hP hS => ?_)
          refine lv_pop hx hb d_PF_check_123 rfl ?_
          refine lv_aload_n hx hb d_PF_check_124 rfl (lv_at hl 1 rfl) ?_
          refine va_get (D := (dC, dI)) (ci := 5) (v := .ref (a2 0)) (C := R_PF) (T := T_PF) (N := 10) hx hb hts in_PF hown hK (hP 0 _ rfl) 0 rfl rfl 4 (by decide) (hts _ fl_PF_33) (fun _ h9 => h9) rfl d_PF_check_125 ?_
          refine lv_aload_n hx hb d_PF_check_128 rfl (lv_at hl 1 rfl) ?_
          refine va_get (D := (dC, dI)) (ci := 5) (v := .ref (a3 0)) (C := R_PF) (T := T_PF) (N := 10) hx hb hts in_PF hown hK (hP 0 _ rfl) 0 rfl rfl 1 (by decide) (hts _ fl_PF_19) (fun _ h9 => h9) rfl d_PF_check_129 ?_
          refine lv_aload_n hx hb d_PF_check_132 rfl (lv_at hl 1 rfl) ?_
          refine va_get (D := (dC, dI)) (ci := 5) (v := .ref (a4 0)) (C := R_PF) (T := T_PF) (N := 10) hx hb hts in_PF hown hK (hP 0 _ rfl) 0 rfl rfl 6 (by decide) (hts _ fl_PF_44) (fun _ h9 => h9) rfl d_PF_check_133 ?_
          obtain ⟨v22, o_23, hG21, h⟩ := bind2_some h
          refine bw_call (Lc := [wReckoner ct a2 o_19, wText ct a3 (a5 0) o3, wSteps ct a5 o5, wCells ct a4 o_20]) (Lc' := [wReckoner ct a2 o_23, wText ct a3 (a5 0) o3, wSteps ct a5 o5, wCells ct a4 o_20]) (L' := [wPF ct a0 r0_0 (a3 0) (a2 0) (a1 0) (a4 0) v0 o0, wCells ct a1 o1, wReckoner ct a2 o_23, wText ct a3 (a5 0) o3, wCells ct a4 o_20, wSteps ct a5 o5]) [2, 3, 5, 4] (va_runV (As := [.ref (a3 0), .ref (a4 0)]) (rest := []) ⟨hx, hb, hml, hown, hts⟩ (c_Reckoner_isAnyBroken l ct dC dI a2 a3 a5 a4 _ o_19 o3 o5 o_20 v22 o_23 hG21) (cwV 2 hts g_PF_176 rfl rfl rfl (by decide +kernel) ⟨Nat.le_of_ble_eq_true rfl, Nat.le_of_ble_eq_true rfl⟩) ⟨bw_blind nx_call, va_recv hK (hP 2 _ rfl) (ci := 4) (q0 := 0) rfl rfl, fun U hU hW => ⟨rfl, by rw [hU], by rw [hU]; exact hP.sub [2, 3, 5, 4] rfl, va_K.moved hW.alike hK, (hN.sub [2, 3, 5, 4] (by decide) rfl).weaken (fun _ _ => trivial), nx_warm hW hnx⟩⟩ rfl rfl hl.1 rfl (Nat.le_of_ble_eq_true rfl) d_PF_check_136 ⟨Nat.le_of_ble_eq_true rfl, Nat.le_of_ble_eq_true rfl⟩) hP hN hS hA rfl rfl rfl (fun H locs hP hS => ?_)
          refine lv_if_eq (tgt := 146) hx hb d_PF_check_139 (by decide) (fun c24 => ?_) (fun c24 => ?_)
          · have h := ite_t c24 h
            refine lv_iinc (v := (x7 + (1 : Int32))) (lv' := [(7, .int (x7 + (1 : Int32))), (8, .long (x2 + ((Int32.toInt64 x7) * x4))), (0, .ref (a0 0)), (1, .int x1), (2, .long x2), (4, .long x4), (6, .int x6)]) hx hb d_PF_check_146 hl (k := 6) rfl rfl (by decide) rfl (fun ls hl => ?_)
            refine lv_goto (tgt := 62) hx hb d_PF_check_149 (by decide) ?_
            exact ih x1 x2 x4 x6 (x7 + (1 : Int32)) o_23 o_20 _ _ _ hP hS (lv_sub hl [2, 3, 4, 5, 6, 0] rfl) h
          · have h := ite_f c24 h
            refine lv_iload hx hb d_PF_check_142 (lv_at hl 6 rfl) ?_
            refine lv_istore (lv' := [(6, .int x7), (8, .long (x2 + ((Int32.toInt64 x7) * x4))), (0, .ref (a0 0)), (1, .int x1), (2, .long x2), (4, .long x4), (7, .int x7)]) hx hb d_PF_check_144 hl (by decide) rfl (fun ls hl => ?_)
            refine lv_iinc (v := (x7 + (1 : Int32))) (lv' := [(7, .int (x7 + (1 : Int32))), (6, .int x7), (8, .long (x2 + ((Int32.toInt64 x7) * x4))), (0, .ref (a0 0)), (1, .int x1), (2, .long x2), (4, .long x4)]) hx hb d_PF_check_146 hl (k := 6) rfl rfl (by decide) rfl (fun ls hl => ?_)
            refine lv_goto (tgt := 62) hx hb d_PF_check_149 (by decide) ?_
            exact ih x1 x2 x4 x7 (x7 + (1 : Int32)) o_23 o_20 _ _ _ hP hS (lv_sub hl [3, 4, 5, 6, 1, 0] rfl) h
        · have h := ite_f c15 h
          refine lv_goto (tgt := 152) hx hb d_PF_check_93 (by decide) ?_
          refine lv_aload_n hx hb d_PF_check_152 rfl (lv_at hl 1 rfl) ?_
          refine va_get (D := (dC, dI)) (ci := 5) (v := .ref (a2 0)) (C := R_PF) (T := T_PF) (N := 10) hx hb hts in_PF hown hK (hP 0 _ rfl) 0 rfl rfl 4 (by decide) (hts _ fl_PF_33) (fun _ h9 => h9) rfl d_PF_check_153 ?_
          refine va_get (D := (dC, dI)) (ci := 4) (v := .ref (a2 1)) (C := R_Reckoner) (T := T_Reckoner) (N := 6) hx hb hts in_Reckoner hown hK (hP 2 _ rfl) 0 rfl rfl 0 (by decide) (hts _ fl_PF_166) (fun _ h9 => h9) rfl d_PF_check_156 ?_
          refine lv_iconst (v := 0) hx hb d_PF_check_159 (by decide) ?_
          refine lv_lload_n hx hb d_PF_check_160 rfl (lv_at hl 3 rfl) ?_
          obtain ⟨hi25, h⟩ := chk_some h
          refine st_Reckoner_0 hx hb hK hP hN hS 2 rfl (inb_in hi25) d_PF_check_161 (fun H locs hP hS => ?_)
          have hP : bw_P (dC, dI) vwCl [wPF ct a0 r0_0 (a3 0) (a2 0) (a1 0) (a4 0) v0 o0, wCells ct a1 o1, wReckoner ct a2 (s64 o2 0 (Int32.toNatClampNeg (0 : Int32)) x2), wText ct a3 (a5 0) o3, wCells ct a4 o4, wSteps ct a5 o5] H := hP
          refine lv_iload hx hb d_PF_check_162 (lv_at hl 5 rfl) ?_
          obtain ⟨rfl, rfl, rfl⟩ := res3 h
          exact W.iret hx hb hr (fun t ht hW => ⟨rfl, by rw [ht]; exact hP, hS.F ht⟩) hS.2.2 d_PF_check_164
set_option maxHeartbeats 4000000 in
set_option maxRecDepth 100000 in
theorem c_PF_check (l : Launch) (ct dC : Nat → ClassId) (dI : Nat → Nat → Nat) (a0 a1 a2 a3 a4 a5 : Nat → Nat) (r0_0 : Nat) (v0 : Nat → Nat) (sz : Nat) (x1 : Int32) (o0 o1 o2 o3 o4 o5 : Ob) (r : Int32) (n2 n4 : Ob) (hF : F_PF_check x1 o0 o1 o2 o3 o4 o5 = some (0, (r, n2, n4))) : Met l y_PF_check ws_PF_check rm_PF_check (bw_Pc [.ref (a0 0), .int x1] (dC, dI) vwCl (tyA ct) [wPF ct a0 r0_0 (a3 0) (a2 0) (a1 0) (a4 0) v0 o0, wCells ct a1 o1, wReckoner ct a2 o2, wText ct a3 (a5 0) o3, wCells ct a4 o4, wSteps ct a5 o5] sz nx) (bw_Q (dC, dI) vwCl (some (.int r)) [wPF ct a0 r0_0 (a3 0) (a2 0) (a1 0) (a4 0) v0 o0, wCells ct a1 o1, wReckoner ct a2 n2, wText ct a3 (a5 0) o3, wCells ct a4 n4, wSteps ct a5 o5] (bw_A [adPF a0, adCells a1, adReckoner a2, adText a3, adCells a4, adSteps a5] sz)) 0 0 (bw_A [adPF a0, adCells a1, adReckoner a2, adText a3, adCells a4, adSteps a5] sz) := by
  refine Met.ofW (cc := b_PF_check) (maxL := 10) (ret := (some .int)) (by decide) rfl ?_
  intro p e s m args below meth c s₁ B hml hv
  obtain ⟨rfl, hsz, hP, hK, hN0, hnx⟩ := hv
  have hx := B.exec
  have hb := B.bytes
  have hr := B.returns
  have hts : ∀ w ∈ wsAll, w.before [.ref (a0 0), .int x1].toArray s = true := fun w h9 => atoms_spec (ws := ws_PF_check) B.pre w (List.mem_cons_of_mem _ h9)
  have hown : s.vm.findClass R_PF = some m.cls := findClass_of_methodNamed B.named
  have hlocks := B.notSynchronized
  subst hsz
  have hN : bw_N (bw_A [adPF a0, adCells a1, adReckoner a2, adText a3, adCells a4, adSteps a5] s.heap.size) [adPF a0, adCells a1, adReckoner a2, adText a3, adCells a4, adSteps a5] := hN0.self s.heap.size
  generalize hAe : bw_A [adPF a0, adCells a1, adReckoner a2, adText a3, adCells a4, adSteps a5] s.heap.size = A at hN ⊢
  have hA : ∀ q : Nat, s.heap.size ≤ q → A q := fun q h => by rw [← hAe]; exact Or.inr h
  have hS : va_S A s.heap s.heap [] := va_S.rf
  have hl := lv_entry ([.ref (a0 0), .int x1]) (n := 10) (Nat.le_of_ble_eq_true rfl)
  rw [lg_entry_eq]
  generalize (lg_sl ([.ref (a0 0), .int x1]) ++ List.replicate (10 - (lg_sl ([.ref (a0 0), .int x1])).length) Slot.unset).toArray = ls at hl ⊢
  have hl : lv_has ls 10 [(0, .ref (a0 0)), (1, .int x1)] := hl
  have C0 : cx wsAll vwCl nx p s m [.ref (a0 0), .int x1].toArray meth c (dC, dI) (tyA ct) b_PF_check 10 (some .int) R_PF A [adPF a0, adCells a1, adReckoner a2, adText a3, adCells a4, adSteps a5] := ⟨hx, hb, hr, hml, hown, hlocks, hts, hK, hN, hA, hnx⟩
  have h := hF
  rw [F_PF_check] at h
  refine lv_aload_n hx hb d_PF_check_0 rfl (lv_at hl 0 rfl) ?_
  obtain ⟨k_2, u_3, hG1, h⟩ := bind2_some h
  by_cases hk4 : k_2 = 0
  · subst hk4
    have h := ite_t rfl h
    refine bw_callR (va_runV (As := []) (rest := []) ⟨hx, hb, hml, hown, hts⟩ (c_PF_demandWorkedOut l ct dC dI a0 r0_0 (a3 0) (a2 0) (a1 0) (a4 0) v0 _ o0 hG1) (cwV 0 hts g_PF_125 rfl rfl rfl (by decide +kernel) ⟨Nat.le_of_ble_eq_true rfl, Nat.le_of_ble_eq_true rfl⟩) ⟨bw_blind nx_call, va_recv hK (hP 0 _ rfl) (ci := 5) (q0 := 0) rfl rfl, fun U hU hW => ⟨rfl, by rw [hU], by rw [hU]; exact hP.sub [0] rfl, va_K.moved hW.alike hK, (hN.sub [0] (by decide) rfl).weaken (fun _ _ => trivial), nx_warm hW hnx⟩⟩ rfl rfl hl.1 rfl (Nat.le_of_ble_eq_true rfl) d_PF_check_1 ⟨Nat.le_of_ble_eq_true rfl, Nat.le_of_ble_eq_true rfl⟩) ?_
    refine lv_iload_n hx hb d_PF_check_4 rfl (lv_at hl 1 rfl) ?_
    refine lv_if_lt (tgt := 14) hx hb d_PF_check_5 (by decide) (fun c5 => ?_) (fun c5 => ?_)
    · have h := ite_t c5 h
      exact (thr_ne h).elim
    · have h := ite_f c5 h
      refine lv_iload_n hx hb d_PF_check_8 rfl (lv_at hl 1 rfl) ?_
      refine lv_bipush (v := 50) hx hb d_PF_check_9 (by decide) ?_
      refine lv_icmp_le (tgt := 24) hx hb d_PF_check_11 (by decide) (fun c6 => ?_) (fun c6 => ?_)
      · have h := ite_t c6 h
        have h := pln_some h
        refine lv_aload_n hx hb d_PF_check_24 rfl (lv_at hl 0 rfl) ?_
        refine va_get (D := (dC, dI)) (ci := 5) (v := .ref (a2 0)) (C := R_PF) (T := T_PF) (N := 10) hx hb hts in_PF hown hK (hP 0 _ rfl) 0 rfl rfl 4 (by decide) (hts _ fl_PF_33) (fun _ h9 => h9) rfl d_PF_check_25 ?_
        refine va_get (D := (dC, dI)) (ci := 4) (v := .ref (a2 1)) (C := R_Reckoner) (T := T_Reckoner) (N := 6) hx hb hts in_Reckoner hown hK (hP 2 _ rfl) 0 rfl rfl 0 (by decide) (hts _ fl_PF_166) (fun _ h9 => h9) rfl d_PF_check_28 ?_
        refine lv_iconst (v := 0) hx hb d_PF_check_31 (by decide) ?_
        obtain ⟨hi7, h⟩ := chk_some h
        refine va_lald (f := g64 o2 0) hx hb hK (hP 2 _ rfl) 1 1 rfl rfl (inb_in hi7) d_PF_check_32 ?_
        refine lv_lstore_n (lv' := [(2, .long (g64 o2 0 (Int32.toNatClampNeg (0 : Int32)))), (0, .ref (a0 0)), (1, .int x1)]) hx hb d_PF_check_33 rfl hl (by decide) rfl (fun ls hl => ?_)
        refine lv_aload_n hx hb d_PF_check_34 rfl (lv_at hl 1 rfl) ?_
        refine va_get (D := (dC, dI)) (ci := 5) (v := .ref (a2 0)) (C := R_PF) (T := T_PF) (N := 10) hx hb hts in_PF hown hK (hP 0 _ rfl) 0 rfl rfl 4 (by decide) (hts _ fl_PF_33) (fun _ h9 => h9) rfl d_PF_check_35 ?_
        refine va_get (D := (dC, dI)) (ci := 4) (v := .ref (a2 2)) (C := R_Reckoner) (T := T_Reckoner) (N := 6) hx hb hts in_Reckoner hown hK (hP 2 _ rfl) 0 rfl rfl 1 (by decide) (hts _ fl_PF_169) (fun _ h9 => h9) rfl d_PF_check_38 ?_
        refine lv_iconst (v := 0) hx hb d_PF_check_41 (by decide) ?_
        refine va_lald (f := g64 o2 1) hx hb hK (hP 2 _ rfl) 2 1 rfl rfl (inb_in hi7) d_PF_check_42 ?_
        refine lv_lstore (lv' := [(4, .long (g64 o2 1 (Int32.toNatClampNeg (0 : Int32)))), (2, .long (g64 o2 0 (Int32.toNatClampNeg (0 : Int32)))), (0, .ref (a0 0)), (1, .int x1)]) hx hb d_PF_check_43 hl (by decide) rfl (fun ls hl => ?_)
        refine lv_iconst (v := -1) hx hb d_PF_check_45 (by decide) ?_
        refine lv_istore (lv' := [(6, .int (-1 : Int32)), (4, .long (g64 o2 1 (Int32.toNatClampNeg (0 : Int32)))), (2, .long (g64 o2 0 (Int32.toNatClampNeg (0 : Int32)))), (0, .ref (a0 0)), (1, .int x1)]) hx hb d_PF_check_46 hl (by decide) rfl (fun ls hl => ?_)
        refine lv_aload_n hx hb d_PF_check_48 rfl (lv_at hl 3 rfl) ?_
        refine va_get (D := (dC, dI)) (ci := 5) (v := .ref (a4 0)) (C := R_PF) (T := T_PF) (N := 10) hx hb hts in_PF hown hK (hP 0 _ rfl) 0 rfl rfl 6 (by decide) (hts _ fl_PF_44) (fun _ h9 => h9) rfl d_PF_check_49 ?_
        refine lv_aload_n hx hb d_PF_check_52 rfl (lv_at hl 3 rfl) ?_
        refine va_get (D := (dC, dI)) (ci := 5) (v := .ref (a1 0)) (C := R_PF) (T := T_PF) (N := 10) hx hb hts in_PF hown hK (hP 0 _ rfl) 0 rfl rfl 5 (by decide) (hts _ fl_PF_40) (fun _ h9 => h9) rfl d_PF_check_53 ?_
        obtain ⟨o_10, hG9, h⟩ := bind1_some h
        refine bw_call (Lc := [wCells ct a4 o4, wCells ct a1 o1]) (Lc' := [wCells ct a4 o_10, wCells ct a1 o1]) (L' := [wPF ct a0 r0_0 (a3 0) (a2 0) (a1 0) (a4 0) v0 o0, wCells ct a1 o1, wReckoner ct a2 o2, wText ct a3 (a5 0) o3, wCells ct a4 o_10, wSteps ct a5 o5]) [4, 1] (va_runV (As := [.ref (a1 0)]) (rest := []) ⟨hx, hb, hml, hown, hts⟩ (c_Cells_copyFrom l ct dC dI a4 a1 _ o4 o1 o_10 hG9) (cwV 1 hts g_PF_172 rfl rfl rfl (by decide +kernel) ⟨Nat.le_of_ble_eq_true rfl, Nat.le_of_ble_eq_true rfl⟩) ⟨bw_blind nx_call, va_recv hK (hP 4 _ rfl) (ci := 1) (q0 := 0) rfl rfl, fun U hU hW => ⟨rfl, by rw [hU], by rw [hU]; exact hP.sub [4, 1] rfl, va_K.moved hW.alike hK, (hN.sub [4, 1] (by decide) rfl).weaken (fun _ _ => trivial), nx_warm hW hnx⟩⟩ rfl rfl hl.1 rfl (Nat.le_of_ble_eq_true rfl) d_PF_check_56 ⟨Nat.le_of_ble_eq_true rfl, Nat.le_of_ble_eq_true rfl⟩) hP hN hS hA rfl rfl rfl (fun H locs hP hS => ?_)
        refine lv_iconst (v := 0) hx hb d_PF_check_59 (by decide) ?_
        refine lv_istore (lv' := [(7, .int (0 : Int32)), (6, .int (-1 : Int32)), (4, .long (g64 o2 1 (Int32.toNatClampNeg (0 : Int32)))), (2, .long (g64 o2 0 (Int32.toNatClampNeg (0 : Int32)))), (0, .ref (a0 0)), (1, .int x1)]) hx hb d_PF_check_60 hl (by decide) rfl (fun ls hl => ?_)
        exact k_PF_check_62 C0 fuel x1 (g64 o2 0 (Int32.toNatClampNeg (0 : Int32))) (g64 o2 1 (Int32.toNatClampNeg (0 : Int32))) (-1 : Int32) (0 : Int32) o2 o_10 _ _ _ hP hS (lv_sub hl [4, 5, 3, 2, 1, 0] rfl) h
      · have h := ite_f c6 h
        exact (thr_ne h).elim
  · have h := ite_f hk4 h
    exact absurd (thr_eq h) hk4
abbrev rmx_PF_check : Room := { frames := 7, cells := 1, slots := 6, locals := 197 }
set_option maxHeartbeats 4000000 in
set_option maxRecDepth 100000 in
theorem x_PF_check (l : Launch) (hl0 : l.stackTraces = false) (ct dC : Nat → ClassId) (dI : Nat → Nat → Nat) (a0 a1 a2 a3 a4 a5 : Nat → Nat) (r0_0 : Nat) (v0 : Nat → Nat) (sz : Nat) (x1 : Int32) (o0 o1 o2 o3 o4 o5 : Ob) (k : Nat) (r : Int32) (n2 n4 : Ob) (hF : F_PF_check x1 o0 o1 o2 o3 o4 o5 = some (k, (r, n2, n4))) (hk : ¬ k = 0) : MetT l y_PF_check ws_PF_check rmx_PF_check (bw_Pc [.ref (a0 0), .int x1] (dC, dI) vwCl (tyA ct) [wPF ct a0 r0_0 (a3 0) (a2 0) (a1 0) (a4 0) v0 o0, wCells ct a1 o1, wReckoner ct a2 o2, wText ct a3 (a5 0) o3, wCells ct a4 o4, wSteps ct a5 o5] sz thn) (bt_Q (exN k)) 1 6 := by
  refine MetT.ofW (cc := b_PF_check) (maxL := 10) (ret := (some .int)) (by decide) rfl ?_
  intro p e s m args below meth c s₁ B hml hv
  obtain ⟨rfl, hsz, hP, hK, hN0, hnx, hth⟩ := hv
  have hx := B.exec
  have hb := B.bytes
  have hr := B.returns
  have hts : ∀ w ∈ wsAll, w.before [.ref (a0 0), .int x1].toArray s = true := fun w h9 => atoms_spec (ws := ws_PF_check) B.pre w (List.mem_cons_of_mem _ h9)
  have hex : c.exceptionTable.isEmpty = true := B.noHandlers (atoms_spec (ws := ws_PF_check) B.pre _ List.mem_cons_self)
  have hown : s.vm.findClass R_PF = some m.cls := findClass_of_methodNamed B.named
  have hlocks := B.notSynchronized
  subst hsz
  have hN : bw_N (fun _ => True) [adPF a0, adCells a1, adReckoner a2, adText a3, adCells a4, adSteps a5] := hN0
  have hS : s.heap = s.heap ∧ ([] : List Loc) = [] := ⟨rfl, rfl⟩
  have hl := lv_entry ([.ref (a0 0), .int x1]) (n := 10) (Nat.le_of_ble_eq_true rfl)
  rw [lg_entry_eq]
  generalize (lg_sl ([.ref (a0 0), .int x1]) ++ List.replicate (10 - (lg_sl ([.ref (a0 0), .int x1])).length) Slot.unset).toArray = ls at hl ⊢
  have hl : lv_has ls 10 [(0, .ref (a0 0)), (1, .int x1)] := hl
  have h := hF
  rw [F_PF_check] at h
  refine lv_aload_n hx hb d_PF_check_0 rfl (lv_at hl 0 rfl) ?_
  obtain ⟨k_2, u_3, hG1, h⟩ := bind2_some h
  by_cases hk4 : k_2 = 0
  · subst hk4
    have h := ite_t rfl h
    refine bw_callR (va_runV (As := []) (rest := []) ⟨hx, hb, hml, hown, hts⟩ (c_PF_demandWorkedOut l ct dC dI a0 r0_0 (a3 0) (a2 0) (a1 0) (a4 0) v0 _ o0 hG1) (cwV 0 hts g_PF_125 rfl rfl rfl (by decide +kernel) ⟨Nat.le_of_ble_eq_true rfl, Nat.le_of_ble_eq_true rfl⟩) ⟨bw_blind nx_call, va_recv hK (hP 0 _ rfl) (ci := 5) (q0 := 0) rfl rfl, fun U hU hW => ⟨rfl, by rw [hU], by rw [hU]; exact hP.sub [0] rfl, va_K.moved hW.alike hK, (hN.sub [0] (by decide) rfl).weaken (fun _ _ => trivial), nx_warm hW hnx⟩⟩ rfl rfl hl.1 rfl (Nat.le_of_ble_eq_true rfl) d_PF_check_1 ⟨Nat.le_of_ble_eq_true rfl, Nat.le_of_ble_eq_true rfl⟩) ?_
    refine lv_iload_n hx hb d_PF_check_4 rfl (lv_at hl 1 rfl) ?_
    refine lv_if_lt (tgt := 14) hx hb d_PF_check_5 (by decide) (fun c5 => ?_) (fun c5 => ?_)
    · have h := ite_t c5 h
      have e9 := (res2 h).1
      rw [e9]
      obtain ⟨q9, hq9⟩ := thx_s2 hth
      exact bt_throw hx hb hl0 hown (by decide) (by decide) (at_2 hts hth) (hts _ cl_PF_93) (hts _ ins_IllegalArgumentException) (hts _ ini_IllegalArgumentException) hq9 d_PF_check_14 d_PF_check_17 d_PF_check_18 d_PF_check_20 d_PF_check_23 hex (hl.1.trans hml.symm) hlocks (Nat.le_of_ble_eq_true rfl) (Nat.le_of_ble_eq_true rfl) (Nat.le_of_ble_eq_true rfl) (Nat.le_of_ble_eq_true rfl)
    · have h := ite_f c5 h
      refine lv_iload_n hx hb d_PF_check_8 rfl (lv_at hl 1 rfl) ?_
      refine lv_bipush (v := 50) hx hb d_PF_check_9 (by decide) ?_
      refine lv_icmp_le (tgt := 24) hx hb d_PF_check_11 (by decide) (fun c6 => ?_) (fun c6 => ?_)
      · have h := ite_t c6 h
        exact absurd (pln_0 h) hk
      · have h := ite_f c6 h
        have e9 := (res2 h).1
        rw [e9]
        obtain ⟨q9, hq9⟩ := thx_s2 hth
        exact bt_throw hx hb hl0 hown (by decide) (by decide) (at_2 hts hth) (hts _ cl_PF_93) (hts _ ins_IllegalArgumentException) (hts _ ini_IllegalArgumentException) hq9 d_PF_check_14 d_PF_check_17 d_PF_check_18 d_PF_check_20 d_PF_check_23 hex (hl.1.trans hml.symm) hlocks (Nat.le_of_ble_eq_true rfl) (Nat.le_of_ble_eq_true rfl) (Nat.le_of_ble_eq_true rfl) (Nat.le_of_ble_eq_true rfl)
  · have h := ite_f hk4 h
    have e9 := (res2 h).1
    rw [e9]
    exact bt_outV (As := []) (rest := []) ⟨hx, hb, hml, hown, hts⟩ (x_PF_demandWorkedOut l hl0 ct dC dI a0 r0_0 (a3 0) (a2 0) (a1 0) (a4 0) v0 _ o0 k_2 hG1 hk4) (cwV 0 hts g_PF_125 rfl rfl rfl (by decide +kernel) ⟨Nat.le_of_ble_eq_true rfl, Nat.le_of_ble_eq_true rfl⟩) ⟨bw_blind thx_call, va_recv hK (hP 0 _ rfl) (ci := 5) (q0 := 0) rfl rfl, fun U hU hW => ⟨rfl, by rw [hU], by rw [hU]; exact hP.sub [0] rfl, va_K.moved hW.alike hK, (hN.sub [0] (by decide) rfl).weaken (fun _ _ => trivial), ⟨nx_warm hW hnx, thx_warm hW hU hth⟩⟩⟩ rfl hl.1 rfl (Nat.le_of_ble_eq_true rfl) d_PF_check_1 hex hlocks ⟨Nat.le_of_ble_eq_true rfl, Nat.le_of_ble_eq_true rfl⟩
theorem g_PF_182 : GoodIn wsAll (wsV R_PF 182 R_Cells y_Cells_isAsIn ws_Cells_isAsIn) := gd_V ml_PF_182 im_Cells_isAsIn se_Cells_isAsIn ini_Cells cd_Cells_isAsIn
def F_PF_same_21 (o0 o1 o3 o5 : Ob)  : Nat → Int32 → Ob → Ob → Option (Bool × Ob × Ob)
  | 0, _, _, _ => none
  | n + 1, x1, o2, o4 =>
    if (60 : Int32) ≤ x1 then (some (true, o2, o4)) else (bind1 (F_Cells_isAsIn x1 o1 o4) (fun v10 => if (b2i v10) = 0 then (some (false, o2, o4)) else (chk (inb x1 60) (if (g32 o1 3 (Int32.toNatClampNeg x1)) = (g32 o4 3 (Int32.toNatClampNeg x1)) then (F_PF_same_21 o0 o1 o3 o5 n (x1 + (1 : Int32)) o2 o4) else (some (false, o2, o4))))))
def F_PF_same  (o0 o1 o2 o3 o4 o5 : Ob) : Option (Nat × Bool × Ob × Ob) :=
  bind2 (F_PF_demandWorkedOut o0) (fun k_2 u_3 => if k_2 = 0 then (pln (bind2 (F_Reckoner_workOutAll o2 o3 o5 o4) (fun o_6 o_7 => F_PF_same_21 o0 o1 o3 o5 fuel (0 : Int32) o_6 o_7))) else (some (k_2, (false, o2, o4))))
abbrev ws_PF_same : List Cond := Cond.code y_PF_same b_PF_same 2 (some .boolean) :: wsAll
abbrev rm_PF_same : Room := { frames := 7, cells := 0, slots := 0, locals := 194 }
set_option maxHeartbeats 4000000 in
set_option maxRecDepth 100000 in
theorem k_PF_same_21 {p : Program} {l : Launch} {e : Env} {s : State} {m : MethodId} {args : Array Value} {below : List Frame} {meth : Method} {c : Code} {A : Nat → Prop} {ct dC : Nat → ClassId} {dI : Nat → Nat → Nat} {a0 a1 a2 a3 a4 a5 : Nat → Nat} {r0_0 : Nat} {v0 : Nat → Nat} {r : Bool} {n2 n4 : Ob} {o0 o1 o3 o5 : Ob}  (C0 : cx wsAll vwCl nx p s m args meth c (dC, dI) (tyA ct) b_PF_same 2 (some .boolean) R_PF A [adPF a0, adCells a1, adReckoner a2, adText a3, adCells a4, adSteps a5])  : ∀ (n : Nat) (x1 : Int32) (o2 o4 : Ob) (H : Heap) (locs : List Loc) (ls : Array Slot), bw_P (dC, dI) vwCl [wPF ct a0 r0_0 (a3 0) (a2 0) (a1 0) (a4 0) v0 o0, wCells ct a1 o1, wReckoner ct a2 o2, wText ct a3 (a5 0) o3, wCells ct a4 o4, wSteps ct a5 o5] H → va_S A s.heap H locs → lv_has ls 2 [(0, .ref (a0 0)), (1, .int x1)] → F_PF_same_21 o0 o1 o3 o5 n x1 o2 o4 = some (r, n2, n4) → W p l e (headSpec ws_PF_same rm_PF_same).room s m args below meth c H locs 0 0 (MQ below (bw_Q (dC, dI) vwCl (some (.int (b2i r))) [wPF ct a0 r0_0 (a3 0) (a2 0) (a1 0) (a4 0) v0 o0, wCells ct a1 o1, wReckoner ct a2 n2, wText ct a3 (a5 0) o3, wCells ct a4 n4, wSteps ct a5 o5] A) args s 0 0 A) (F0 m 21 ls []) := by
  obtain ⟨hx, hb, hr, hml, hown, hlocks, hts, hK, hN, hA, hnx⟩ := id C0
  intro n
  induction n with
  | zero =>
    intro x1 o2 o4 H locs ls hP hS hl h
    cases h
  | succ n ih =>
    intro x1 o2 o4 H locs ls hP hS hl h
    rw [F_PF_same_21] at h
    refine lv_iload_n hx hb d_PF_same_21 rfl (lv_at hl 1 rfl) ?_
    refine lv_bipush (v := 60) hx hb d_PF_same_22 (by decide) ?_
    refine lv_icmp_ge (tgt := 71) hx hb d_PF_same_24 (by decide) (fun c8 => ?_) (fun c8 => ?_)
    · have h := ite_t c8 h
      refine lv_iconst (v := 1) hx hb d_PF_same_71 (by decide) ?_
      obtain ⟨rfl, rfl, rfl⟩ := res3 h
      exact W.zret hx hb hr rfl (fun t ht hW => ⟨rfl, by rw [ht]; exact hP, hS.F ht⟩) hS.2.2 d_PF_same_72
    · have h := ite_f c8 h
      refine lv_aload_n hx hb d_PF_same_27 rfl (lv_at hl 0 rfl) ?_
      refine va_get (D := (dC, dI)) (ci := 5) (v := .ref (a1 0)) (C := R_PF) (T := T_PF) (N := 10) hx hb hts in_PF hown hK (hP 0 _ rfl) 0 rfl rfl 5 (by decide) (hts _ fl_PF_40) (fun _ h9 => h9) rfl d_PF_same_28 ?_
      refine lv_aload_n hx hb d_PF_same_31 rfl (lv_at hl 0 rfl) ?_
      refine va_get (D := (dC, dI)) (ci := 5) (v := .ref (a4 0)) (C := R_PF) (T := T_PF) (N := 10) hx hb hts in_PF hown hK (hP 0 _ rfl) 0 rfl rfl 6 (by decide) (hts _ fl_PF_44) (fun _ h9 => h9) rfl d_PF_same_32 ?_
      refine lv_iload_n hx hb d_PF_same_35 rfl (lv_at hl 1 rfl) ?_
      obtain ⟨v10, hG9, h⟩ := bind1_some h
      refine bw_callR (va_runV (As := [.ref (a4 0), .int x1]) (rest := []) ⟨hx, hb, hml, hown, hts⟩ (c_Cells_isAsIn l ct dC dI a1 a4 _ x1 o1 o4 v10 hG9) (cwV 2 hts g_PF_182 rfl rfl rfl (by decide +kernel) ⟨Nat.le_of_ble_eq_true rfl, Nat.le_of_ble_eq_true rfl⟩) ⟨bw_blind nx_call, va_recv hK (hP 1 _ rfl) (ci := 1) (q0 := 0) rfl rfl, fun U hU hW => ⟨rfl, by rw [hU], by rw [hU]; exact hP.sub [1, 4] rfl, va_K.moved hW.alike hK, (hN.sub [1, 4] (by decide) rfl).weaken (fun _ _ => trivial), nx_warm hW hnx⟩⟩ rfl rfl hl.1 rfl (Nat.le_of_ble_eq_true rfl) d_PF_same_36 ⟨Nat.le_of_ble_eq_true rfl, Nat.le_of_ble_eq_true rfl⟩) ?_
      refine lv_if_eq (tgt := 63) hx hb d_PF_same_39 (by decide) (fun c11 => ?_) (fun c11 => ?_)
      · have h := ite_t c11 h
        refine lv_iconst (v := 0) hx hb d_PF_same_63 (by decide) ?_
        obtain ⟨rfl, rfl, rfl⟩ := res3 h
        exact W.zret hx hb hr rfl (fun t ht hW => ⟨rfl, by rw [ht]; exact hP, hS.F ht⟩) hS.2.2 d_PF_same_64
      · have h := ite_f c11 h
        refine lv_aload_n hx hb d_PF_same_42 rfl (lv_at hl 0 rfl) ?_
        refine va_get (D := (dC, dI)) (ci := 5) (v := .ref (a1 0)) (C := R_PF) (T := T_PF) (N := 10) hx hb hts in_PF hown hK (hP 0 _ rfl) 0 rfl rfl 5 (by decide) (hts _ fl_PF_40) (fun _ h9 => h9) rfl d_PF_same_43 ?_
        refine va_get (D := (dC, dI)) (ci := 1) (v := .ref (a1 4)) (C := R_Cells) (T := T_Cells) (N := 4) hx hb hts in_Cells hown hK (hP 1 _ rfl) 0 rfl rfl 3 (by decide) (hts _ fl_PF_151) (fun _ h9 => h9) rfl d_PF_same_46 ?_
        refine lv_iload_n hx hb d_PF_same_49 rfl (lv_at hl 1 rfl) ?_
        obtain ⟨hi12, h⟩ := chk_some h
        refine va_iald (f := g32 o1 3) hx hb hK (hP 1 _ rfl) 4 0 rfl rfl (inb_in hi12) d_PF_same_50 ?_
        refine lv_aload_n hx hb d_PF_same_51 rfl (lv_at hl 0 rfl) ?_
        refine va_get (D := (dC, dI)) (ci := 5) (v := .ref (a4 0)) (C := R_PF) (T := T_PF) (N := 10) hx hb hts in_PF hown hK (hP 0 _ rfl) 0 rfl rfl 6 (by decide) (hts _ fl_PF_44) (fun _ h9 => h9) rfl d_PF_same_52 ?_
        refine va_get (D := (dC, dI)) (ci := 1) (v := .ref (a4 4)) (C := R_Cells) (T := T_Cells) (N := 4) hx hb hts in_Cells hown hK (hP 4 _ rfl) 0 rfl rfl 3 (by decide) (hts _ fl_PF_151) (fun _ h9 => h9) rfl d_PF_same_55 ?_
        refine lv_iload_n hx hb d_PF_same_58 rfl (lv_at hl 1 rfl) ?_
        refine va_iald (f := g32 o4 3) hx hb hK (hP 4 _ rfl) 4 0 rfl rfl (inb_in hi12) d_PF_same_59 ?_
        refine lv_icmp_eq (tgt := 65) hx hb d_PF_same_60 (by decide) (fun c14 => ?_) (fun c14 => ?_)
        · have h := ite_t c14 h
          refine lv_iinc (v := (x1 + (1 : Int32))) (lv' := [(1, .int (x1 + (1 : Int32))), (0, .ref (a0 0))]) hx hb d_PF_same_65 hl (k := 1) rfl rfl (by decide) rfl (fun ls hl => ?_)
          refine lv_goto (tgt := 21) hx hb d_PF_same_68 (by decide) ?_
          exact ih (x1 + (1 : Int32)) o2 o4 _ _ _ hP hS (lv_sub hl [1, 0] rfl) h
        · have h := ite_f c14 h
          refine lv_iconst (v := 0) hx hb d_PF_same_63 (by decide) ?_
          obtain ⟨rfl, rfl, rfl⟩ := res3 h
          exact W.zret hx hb hr rfl (fun t ht hW => ⟨rfl, by rw [ht]; exact hP, hS.F ht⟩) hS.2.2 d_PF_same_64
set_option maxHeartbeats 4000000 in
set_option maxRecDepth 100000 in
theorem c_PF_same (l : Launch) (ct dC : Nat → ClassId) (dI : Nat → Nat → Nat) (a0 a1 a2 a3 a4 a5 : Nat → Nat) (r0_0 : Nat) (v0 : Nat → Nat) (sz : Nat)  (o0 o1 o2 o3 o4 o5 : Ob) (r : Bool) (n2 n4 : Ob) (hF : F_PF_same o0 o1 o2 o3 o4 o5 = some (0, (r, n2, n4))) : Met l y_PF_same ws_PF_same rm_PF_same (bw_Pc [.ref (a0 0)] (dC, dI) vwCl (tyA ct) [wPF ct a0 r0_0 (a3 0) (a2 0) (a1 0) (a4 0) v0 o0, wCells ct a1 o1, wReckoner ct a2 o2, wText ct a3 (a5 0) o3, wCells ct a4 o4, wSteps ct a5 o5] sz nx) (bw_Q (dC, dI) vwCl (some (.int (b2i r))) [wPF ct a0 r0_0 (a3 0) (a2 0) (a1 0) (a4 0) v0 o0, wCells ct a1 o1, wReckoner ct a2 n2, wText ct a3 (a5 0) o3, wCells ct a4 n4, wSteps ct a5 o5] (bw_A [adPF a0, adCells a1, adReckoner a2, adText a3, adCells a4, adSteps a5] sz)) 0 0 (bw_A [adPF a0, adCells a1, adReckoner a2, adText a3, adCells a4, adSteps a5] sz) := by
  refine Met.ofW (cc := b_PF_same) (maxL := 2) (ret := (some .boolean)) (by decide) rfl ?_
  intro p e s m args below meth c s₁ B hml hv
  obtain ⟨rfl, hsz, hP, hK, hN0, hnx⟩ := hv
  have hx := B.exec
  have hb := B.bytes
  have hr := B.returns
  have hts : ∀ w ∈ wsAll, w.before [.ref (a0 0)].toArray s = true := fun w h9 => atoms_spec (ws := ws_PF_same) B.pre w (List.mem_cons_of_mem _ h9)
  have hown : s.vm.findClass R_PF = some m.cls := findClass_of_methodNamed B.named
  have hlocks := B.notSynchronized
  subst hsz
  have hN : bw_N (bw_A [adPF a0, adCells a1, adReckoner a2, adText a3, adCells a4, adSteps a5] s.heap.size) [adPF a0, adCells a1, adReckoner a2, adText a3, adCells a4, adSteps a5] := hN0.self s.heap.size
  generalize hAe : bw_A [adPF a0, adCells a1, adReckoner a2, adText a3, adCells a4, adSteps a5] s.heap.size = A at hN ⊢
  have hA : ∀ q : Nat, s.heap.size ≤ q → A q := fun q h => by rw [← hAe]; exact Or.inr h
  have hS : va_S A s.heap s.heap [] := va_S.rf
  have hl := lv_entry ([.ref (a0 0)]) (n := 2) (Nat.le_of_ble_eq_true rfl)
  rw [lg_entry_eq]
  generalize (lg_sl ([.ref (a0 0)]) ++ List.replicate (2 - (lg_sl ([.ref (a0 0)])).length) Slot.unset).toArray = ls at hl ⊢
  have hl : lv_has ls 2 [(0, .ref (a0 0))] := hl
  have C0 : cx wsAll vwCl nx p s m [.ref (a0 0)].toArray meth c (dC, dI) (tyA ct) b_PF_same 2 (some .boolean) R_PF A [adPF a0, adCells a1, adReckoner a2, adText a3, adCells a4, adSteps a5] := ⟨hx, hb, hr, hml, hown, hlocks, hts, hK, hN, hA, hnx⟩
  have h := hF
  rw [F_PF_same] at h
  refine lv_aload_n hx hb d_PF_same_0 rfl (lv_at hl 0 rfl) ?_
  obtain ⟨k_2, u_3, hG1, h⟩ := bind2_some h
  by_cases hk4 : k_2 = 0
  · subst hk4
    have h := ite_t rfl h
    refine bw_callR (va_runV (As := []) (rest := []) ⟨hx, hb, hml, hown, hts⟩ (c_PF_demandWorkedOut l ct dC dI a0 r0_0 (a3 0) (a2 0) (a1 0) (a4 0) v0 _ o0 hG1) (cwV 0 hts g_PF_125 rfl rfl rfl (by decide +kernel) ⟨Nat.le_of_ble_eq_true rfl, Nat.le_of_ble_eq_true rfl⟩) ⟨bw_blind nx_call, va_recv hK (hP 0 _ rfl) (ci := 5) (q0 := 0) rfl rfl, fun U hU hW => ⟨rfl, by rw [hU], by rw [hU]; exact hP.sub [0] rfl, va_K.moved hW.alike hK, (hN.sub [0] (by decide) rfl).weaken (fun _ _ => trivial), nx_warm hW hnx⟩⟩ rfl rfl hl.1 rfl (Nat.le_of_ble_eq_true rfl) d_PF_same_1 ⟨Nat.le_of_ble_eq_true rfl, Nat.le_of_ble_eq_true rfl⟩) ?_
    have h := pln_some h
    refine lv_aload_n hx hb d_PF_same_4 rfl (lv_at hl 0 rfl) ?_
    refine va_get (D := (dC, dI)) (ci := 5) (v := .ref (a2 0)) (C := R_PF) (T := T_PF) (N := 10) hx hb hts in_PF hown hK (hP 0 _ rfl) 0 rfl rfl 4 (by decide) (hts _ fl_PF_33) (fun _ h9 => h9) rfl d_PF_same_5 ?_
    refine lv_aload_n hx hb d_PF_same_8 rfl (lv_at hl 0 rfl) ?_
    refine va_get (D := (dC, dI)) (ci := 5) (v := .ref (a3 0)) (C := R_PF) (T := T_PF) (N := 10) hx hb hts in_PF hown hK (hP 0 _ rfl) 0 rfl rfl 1 (by decide) (hts _ fl_PF_19) (fun _ h9 => h9) rfl d_PF_same_9 ?_
    refine lv_aload_n hx hb d_PF_same_12 rfl (lv_at hl 0 rfl) ?_
    refine va_get (D := (dC, dI)) (ci := 5) (v := .ref (a4 0)) (C := R_PF) (T := T_PF) (N := 10) hx hb hts in_PF hown hK (hP 0 _ rfl) 0 rfl rfl 6 (by decide) (hts _ fl_PF_44) (fun _ h9 => h9) rfl d_PF_same_13 ?_
    obtain ⟨o_6, o_7, hG5, h⟩ := bind2_some h
    refine bw_call (Lc := [wReckoner ct a2 o2, wText ct a3 (a5 0) o3, wSteps ct a5 o5, wCells ct a4 o4]) (Lc' := [wReckoner ct a2 o_6, wText ct a3 (a5 0) o3, wSteps ct a5 o5, wCells ct a4 o_7]) (L' := [wPF ct a0 r0_0 (a3 0) (a2 0) (a1 0) (a4 0) v0 o0, wCells ct a1 o1, wReckoner ct a2 o_6, wText ct a3 (a5 0) o3, wCells ct a4 o_7, wSteps ct a5 o5]) [2, 3, 5, 4] (va_runV (As := [.ref (a3 0), .ref (a4 0)]) (rest := []) ⟨hx, hb, hml, hown, hts⟩ (c_Reckoner_workOutAll l ct dC dI a2 a3 a5 a4 _ o2 o3 o5 o4 o_6 o_7 hG5) (cwV 2 hts g_PF_108 rfl rfl rfl (by decide +kernel) ⟨Nat.le_of_ble_eq_true rfl, Nat.le_of_ble_eq_true rfl⟩) ⟨bw_blind nx_call, va_recv hK (hP 2 _ rfl) (ci := 4) (q0 := 0) rfl rfl, fun U hU hW => ⟨rfl, by rw [hU], by rw [hU]; exact hP.sub [2, 3, 5, 4] rfl, va_K.moved hW.alike hK, (hN.sub [2, 3, 5, 4] (by decide) rfl).weaken (fun _ _ => trivial), nx_warm hW hnx⟩⟩ rfl rfl hl.1 rfl (Nat.le_of_ble_eq_true rfl) d_PF_same_16 ⟨Nat.le_of_ble_eq_true rfl, Nat.le_of_ble_eq_true rfl⟩) hP hN hS hA rfl rfl rfl (fun H locs hP hS => ?_)
    refine lv_iconst (v := 0) hx hb d_PF_same_19 (by decide) ?_
    refine lv_istore_n (lv' := [(1, .int (0 : Int32)), (0, .ref (a0 0))]) hx hb d_PF_same_20 rfl hl (by decide) rfl (fun ls hl => ?_)
    exact k_PF_same_21 C0 fuel (0 : Int32) o_6 o_7 _ _ _ hP hS (lv_sub hl [1, 0] rfl) h
  · have h := ite_f hk4 h
    exact absurd (thr_eq h) hk4
abbrev rmx_PF_same : Room := { frames := 7, cells := 1, slots := 6, locals := 194 }
set_option maxHeartbeats 4000000 in
set_option maxRecDepth 100000 in
theorem x_PF_same (l : Launch) (hl0 : l.stackTraces = false) (ct dC : Nat → ClassId) (dI : Nat → Nat → Nat) (a0 a1 a2 a3 a4 a5 : Nat → Nat) (r0_0 : Nat) (v0 : Nat → Nat) (sz : Nat)  (o0 o1 o2 o3 o4 o5 : Ob) (k : Nat) (r : Bool) (n2 n4 : Ob) (hF : F_PF_same o0 o1 o2 o3 o4 o5 = some (k, (r, n2, n4))) (hk : ¬ k = 0) : MetT l y_PF_same ws_PF_same rmx_PF_same (bw_Pc [.ref (a0 0)] (dC, dI) vwCl (tyA ct) [wPF ct a0 r0_0 (a3 0) (a2 0) (a1 0) (a4 0) v0 o0, wCells ct a1 o1, wReckoner ct a2 o2, wText ct a3 (a5 0) o3, wCells ct a4 o4, wSteps ct a5 o5] sz thn) (bt_Q (exN k)) 1 6 := by
  refine MetT.ofW (cc := b_PF_same) (maxL := 2) (ret := (some .boolean)) (by decide) rfl ?_
  intro p e s m args below meth c s₁ B hml hv
  obtain ⟨rfl, hsz, hP, hK, hN0, hnx, hth⟩ := hv
  have hx := B.exec
  have hb := B.bytes
  have hr := B.returns
  have hts : ∀ w ∈ wsAll, w.before [.ref (a0 0)].toArray s = true := fun w h9 => atoms_spec (ws := ws_PF_same) B.pre w (List.mem_cons_of_mem _ h9)
  have hex : c.exceptionTable.isEmpty = true := B.noHandlers (atoms_spec (ws := ws_PF_same) B.pre _ List.mem_cons_self)
  have hown : s.vm.findClass R_PF = some m.cls := findClass_of_methodNamed B.named
  have hlocks := B.notSynchronized
  subst hsz
  have hN : bw_N (fun _ => True) [adPF a0, adCells a1, adReckoner a2, adText a3, adCells a4, adSteps a5] := hN0
  have hS : s.heap = s.heap ∧ ([] : List Loc) = [] := ⟨rfl, rfl⟩
  have hl := lv_entry ([.ref (a0 0)]) (n := 2) (Nat.le_of_ble_eq_true rfl)
  rw [lg_entry_eq]
  generalize (lg_sl ([.ref (a0 0)]) ++ List.replicate (2 - (lg_sl ([.ref (a0 0)])).length) Slot.unset).toArray = ls at hl ⊢
  have hl : lv_has ls 2 [(0, .ref (a0 0))] := hl
  have h := hF
  rw [F_PF_same] at h
  refine lv_aload_n hx hb d_PF_same_0 rfl (lv_at hl 0 rfl) ?_
  obtain ⟨k_2, u_3, hG1, h⟩ := bind2_some h
  by_cases hk4 : k_2 = 0
  · subst hk4
    have h := ite_t rfl h
    refine bw_callR (va_runV (As := []) (rest := []) ⟨hx, hb, hml, hown, hts⟩ (c_PF_demandWorkedOut l ct dC dI a0 r0_0 (a3 0) (a2 0) (a1 0) (a4 0) v0 _ o0 hG1) (cwV 0 hts g_PF_125 rfl rfl rfl (by decide +kernel) ⟨Nat.le_of_ble_eq_true rfl, Nat.le_of_ble_eq_true rfl⟩) ⟨bw_blind nx_call, va_recv hK (hP 0 _ rfl) (ci := 5) (q0 := 0) rfl rfl, fun U hU hW => ⟨rfl, by rw [hU], by rw [hU]; exact hP.sub [0] rfl, va_K.moved hW.alike hK, (hN.sub [0] (by decide) rfl).weaken (fun _ _ => trivial), nx_warm hW hnx⟩⟩ rfl rfl hl.1 rfl (Nat.le_of_ble_eq_true rfl) d_PF_same_1 ⟨Nat.le_of_ble_eq_true rfl, Nat.le_of_ble_eq_true rfl⟩) ?_
    exact absurd (pln_0 h) hk
  · have h := ite_f hk4 h
    have e9 := (res2 h).1
    rw [e9]
    exact bt_outV (As := []) (rest := []) ⟨hx, hb, hml, hown, hts⟩ (x_PF_demandWorkedOut l hl0 ct dC dI a0 r0_0 (a3 0) (a2 0) (a1 0) (a4 0) v0 _ o0 k_2 hG1 hk4) (cwV 0 hts g_PF_125 rfl rfl rfl (by decide +kernel) ⟨Nat.le_of_ble_eq_true rfl, Nat.le_of_ble_eq_true rfl⟩) ⟨bw_blind thx_call, va_recv hK (hP 0 _ rfl) (ci := 5) (q0 := 0) rfl rfl, fun U hU hW => ⟨rfl, by rw [hU], by rw [hU]; exact hP.sub [0] rfl, va_K.moved hW.alike hK, (hN.sub [0] (by decide) rfl).weaken (fun _ _ => trivial), ⟨nx_warm hW hnx, thx_warm hW hU hth⟩⟩⟩ rfl hl.1 rfl (Nat.le_of_ble_eq_true rfl) d_PF_same_1 hex hlocks ⟨Nat.le_of_ble_eq_true rfl, Nat.le_of_ble_eq_true rfl⟩
