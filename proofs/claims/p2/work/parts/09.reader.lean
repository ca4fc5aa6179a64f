/-! 09.reader -/
abbrev b_Reader_collect : ByteArray := prog_3_method_2_code
def y_Reader_collect : MethodName := ⟨R_Reader, "collect", "(C)Z"⟩
abbrev b_Reader_next : ByteArray := prog_3_method_5_code
def y_Reader_next : MethodName := ⟨R_Reader, "next", "()C"⟩
abbrev b_Reader_pass : ByteArray := prog_3_method_6_code
def y_Reader_pass : MethodName := ⟨R_Reader, "pass", "(C)Z"⟩
abbrev b_Reader_hold : ByteArray := prog_3_method_23_code
def y_Reader_hold : MethodName := ⟨R_Reader, "hold", "(I)V"⟩
abbrev b_Reader_openGroup : ByteArray := prog_3_method_17_code
def y_Reader_openGroup : MethodName := ⟨R_Reader, "openGroup", "()V"⟩
abbrev b_Reader_readDigits : ByteArray := prog_3_method_15_code
def y_Reader_readDigits : MethodName := ⟨R_Reader, "readDigits", "(II)I"⟩
abbrev b_Reader_dropZerosBehind : ByteArray := prog_3_method_16_code
def y_Reader_dropZerosBehind : MethodName := ⟨R_Reader, "dropZerosBehind", "(I)V"⟩
abbrev b_Reader_readNumber : ByteArray := prog_3_method_14_code
def y_Reader_readNumber : MethodName := ⟨R_Reader, "readNumber", "()Z"⟩
abbrev b_Reader_lastWaiting : ByteArray := prog_3_method_24_code
def y_Reader_lastWaiting : MethodName := ⟨R_Reader, "lastWaiting", "()I"⟩
abbrev b_Reader_releaseNegations : ByteArray := prog_3_method_26_code
def y_Reader_releaseNegations : MethodName := ⟨R_Reader, "releaseNegations", "()V"⟩
abbrev b_Reader_shapeBy : ByteArray := prog_3_method_22_code
def y_Reader_shapeBy : MethodName := ⟨R_Reader, "shapeBy", "(I)I"⟩
abbrev b_Reader_releaseWaiting : ByteArray := prog_3_method_25_code
def y_Reader_releaseWaiting : MethodName := ⟨R_Reader, "releaseWaiting", "(I)V"⟩
abbrev b_Reader_areNeededAround : ByteArray := prog_3_method_19_code
def y_Reader_areNeededAround : MethodName := ⟨R_Reader, "areNeededAround", "(IIC)Z"⟩
abbrev b_Reader_closeGroups : ByteArray := prog_3_method_18_code
def y_Reader_closeGroups : MethodName := ⟨R_Reader, "closeGroups", "()V"⟩
abbrev b_Reader_operatorOf : ByteArray := prog_3_method_21_code
def y_Reader_operatorOf : MethodName := ⟨R_Reader, "operatorOf", "(C)I"⟩
abbrev b_Reader_readOperator : ByteArray := prog_3_method_20_code
def y_Reader_readOperator : MethodName := ⟨R_Reader, "readOperator", "()Z"⟩
abbrev b_Reader_passSign : ByteArray := prog_3_method_11_code
def y_Reader_passSign : MethodName := ⟨R_Reader, "passSign", "()Z"⟩
abbrev b_Reader_print : ByteArray := prog_3_method_27_code
def y_Reader_print : MethodName := ⟨R_Reader, "print", "()V"⟩
theorem fl_Reader_19 : Cond.fieldLink "PartFormulas$Reader" 19 "PartFormulas$Reader" "length" "I" ∈ wsAll := wa_of 211 (by decide +kernel) (by decide +kernel)
theorem fl_Reader_9 : Cond.fieldLink "PartFormulas$Reader" 9 "PartFormulas$Reader" "typed" "[C" ∈ wsAll := wa_of 209 (by decide +kernel) (by decide +kernel)
theorem fl_Reader_15 : Cond.fieldLink "PartFormulas$Reader" 15 "PartFormulas$Reader" "dropped" "[Z" ∈ wsAll := wa_of 210 (by decide +kernel) (by decide +kernel)
theorem fl_Reader_23 : Cond.fieldLink "PartFormulas$Reader" 23 "PartFormulas$Reader" "at" "I" ∈ wsAll := wa_of 212 (by decide +kernel) (by decide +kernel)
theorem cd_Reader_next : Cond.code ⟨"PartFormulas$Reader", "next", "()C"⟩ prog_3_method_5_code 1 (some .char) ∈ wsAll := wa_of 368 (by decide +kernel) (by decide +kernel)
theorem ml_Reader_78 : Cond.methodLink "PartFormulas$Reader" 78 ⟨"PartFormulas$Reader", "next", "()C"⟩ ∈ wsAll := wa_of 365 (by decide +kernel) (by decide +kernel)
theorem im_Reader_next : Cond.instanceMethod ⟨"PartFormulas$Reader", "next", "()C"⟩ ∈ wsAll := wa_of 367 (by decide +kernel) (by decide +kernel)
theorem se_Reader_next : Cond.selects "PartFormulas$Reader" ⟨"PartFormulas$Reader", "next", "()C"⟩ ⟨"PartFormulas$Reader", "next", "()C"⟩ ∈ wsAll := wa_of 2 (by decide +kernel) (by decide +kernel)
theorem ini_Reader : Cond.initialized "PartFormulas$Reader" ∈ wsAll := wa_of 75 (by decide +kernel) (by decide +kernel)
theorem fl_Reader_37 : Cond.fieldLink "PartFormulas$Reader" 37 "PartFormulas$Reader" "waitingCount" "I" ∈ wsAll := wa_of 215 (by decide +kernel) (by decide +kernel)
theorem fl_Reader_33 : Cond.fieldLink "PartFormulas$Reader" 33 "PartFormulas$Reader" "waiting" "[I" ∈ wsAll := wa_of 214 (by decide +kernel) (by decide +kernel)
theorem cd_Reader_hold : Cond.code ⟨"PartFormulas$Reader", "hold", "(I)V"⟩ prog_3_method_23_code 2 (none : Option Jvm.ClassFile.FieldType) ∈ wsAll := wa_of 388 (by decide +kernel) (by decide +kernel)
theorem ml_Reader_138 : Cond.methodLink "PartFormulas$Reader" 138 ⟨"PartFormulas$Reader", "hold", "(I)V"⟩ ∈ wsAll := wa_of 385 (by decide +kernel) (by decide +kernel)
theorem im_Reader_hold : Cond.instanceMethod ⟨"PartFormulas$Reader", "hold", "(I)V"⟩ ∈ wsAll := wa_of 387 (by decide +kernel) (by decide +kernel)
theorem se_Reader_hold : Cond.selects "PartFormulas$Reader" ⟨"PartFormulas$Reader", "hold", "(I)V"⟩ ⟨"PartFormulas$Reader", "hold", "(I)V"⟩ ∈ wsAll := wa_of 6 (by decide +kernel) (by decide +kernel)
theorem fl_Reader_49 : Cond.fieldLink "PartFormulas$Reader" 49 "PartFormulas$Reader" "groups" "I" ∈ wsAll := wa_of 219 (by decide +kernel) (by decide +kernel)
theorem fl_Reader_40 : Cond.fieldLink "PartFormulas$Reader" 40 "PartFormulas$Reader" "openedAt" "[I" ∈ wsAll := wa_of 216 (by decide +kernel) (by decide +kernel)
theorem fl_Reader_43 : Cond.fieldLink "PartFormulas$Reader" 43 "PartFormulas$Reader" "shapeByOperators" "[I" ∈ wsAll := wa_of 217 (by decide +kernel) (by decide +kernel)
theorem cd_Reader_readDigits : Cond.code ⟨"PartFormulas$Reader", "readDigits", "(II)I"⟩ prog_3_method_15_code 5 (some .int) ∈ wsAll := wa_of 400 (by decide +kernel) (by decide +kernel)
theorem ml_Reader_156 : Cond.methodLink "PartFormulas$Reader" 156 ⟨"PartFormulas$Reader", "readDigits", "(II)I"⟩ ∈ wsAll := wa_of 397 (by decide +kernel) (by decide +kernel)
theorem im_Reader_readDigits : Cond.instanceMethod ⟨"PartFormulas$Reader", "readDigits", "(II)I"⟩ ∈ wsAll := wa_of 399 (by decide +kernel) (by decide +kernel)
theorem se_Reader_readDigits : Cond.selects "PartFormulas$Reader" ⟨"PartFormulas$Reader", "readDigits", "(II)I"⟩ ⟨"PartFormulas$Reader", "readDigits", "(II)I"⟩ ∈ wsAll := wa_of 9 (by decide +kernel) (by decide +kernel)
theorem fl_Reader_29 : Cond.fieldLink "PartFormulas$Reader" 29 "PartFormulas$Reader" "text" "LPartFormulas$Text;" ∈ wsAll := wa_of 213 (by decide +kernel) (by decide +kernel)
theorem fl_Reader_128 : Cond.fieldLink "PartFormulas$Reader" 128 "PartFormulas$Text" "steps" "LPartFormulas$Steps;" ∈ wsAll := wa_of 161 (by decide +kernel) (by decide +kernel)
theorem ml_Reader_163 : Cond.methodLink "PartFormulas$Reader" 163 ⟨"PartFormulas$Steps", "add", "(III)V"⟩ ∈ wsAll := wa_of 405 (by decide +kernel) (by decide +kernel)
theorem cd_Reader_dropZerosBehind : Cond.code ⟨"PartFormulas$Reader", "dropZerosBehind", "(I)V"⟩ prog_3_method_16_code 3 (none : Option Jvm.ClassFile.FieldType) ∈ wsAll := wa_of 404 (by decide +kernel) (by decide +kernel)
theorem ml_Reader_160 : Cond.methodLink "PartFormulas$Reader" 160 ⟨"PartFormulas$Reader", "dropZerosBehind", "(I)V"⟩ ∈ wsAll := wa_of 401 (by decide +kernel) (by decide +kernel)
theorem im_Reader_dropZerosBehind : Cond.instanceMethod ⟨"PartFormulas$Reader", "dropZerosBehind", "(I)V"⟩ ∈ wsAll := wa_of 403 (by decide +kernel) (by decide +kernel)
theorem se_Reader_dropZerosBehind : Cond.selects "PartFormulas$Reader" ⟨"PartFormulas$Reader", "dropZerosBehind", "(I)V"⟩ ⟨"PartFormulas$Reader", "dropZerosBehind", "(I)V"⟩ ∈ wsAll := wa_of 10 (by decide +kernel) (by decide +kernel)
theorem cd_Reader_lastWaiting : Cond.code ⟨"PartFormulas$Reader", "lastWaiting", "()I"⟩ prog_3_method_24_code 1 (some .int) ∈ wsAll := wa_of 520 (by decide +kernel) (by decide +kernel)
theorem ml_Reader_167 : Cond.methodLink "PartFormulas$Reader" 167 ⟨"PartFormulas$Reader", "lastWaiting", "()I"⟩ ∈ wsAll := wa_of 517 (by decide +kernel) (by decide +kernel)
theorem im_Reader_lastWaiting : Cond.instanceMethod ⟨"PartFormulas$Reader", "lastWaiting", "()I"⟩ ∈ wsAll := wa_of 519 (by decide +kernel) (by decide +kernel)
theorem se_Reader_lastWaiting : Cond.selects "PartFormulas$Reader" ⟨"PartFormulas$Reader", "lastWaiting", "()I"⟩ ⟨"PartFormulas$Reader", "lastWaiting", "()I"⟩ ∈ wsAll := wa_of 13 (by decide +kernel) (by decide +kernel)
theorem fl_Reader_52 : Cond.fieldLink "PartFormulas$Reader" 52 "PartFormulas$Reader" "nested" "I" ∈ wsAll := wa_of 220 (by decide +kernel) (by decide +kernel)
theorem cd_Reader_shapeBy : Cond.code ⟨"PartFormulas$Reader", "shapeBy", "(I)I"⟩ prog_3_method_22_code 1 (some .int) ∈ wsAll := wa_of 531 (by decide +kernel) (by decide +kernel)
theorem ml_Reader_178 : Cond.methodLink "PartFormulas$Reader" 178 ⟨"PartFormulas$Reader", "shapeBy", "(I)I"⟩ ∈ wsAll := wa_of 529 (by decide +kernel) (by decide +kernel)
theorem st_Reader_shapeBy : Cond.static ⟨"PartFormulas$Reader", "shapeBy", "(I)I"⟩ ∈ wsAll := wa_of 530 (by decide +kernel) (by decide +kernel)
theorem cd_Reader_releaseWaiting : Cond.code ⟨"PartFormulas$Reader", "releaseWaiting", "(I)V"⟩ prog_3_method_25_code 2 (none : Option Jvm.ClassFile.FieldType) ∈ wsAll := wa_of 528 (by decide +kernel) (by decide +kernel)
theorem ml_Reader_125 : Cond.methodLink "PartFormulas$Reader" 125 ⟨"PartFormulas$Reader", "releaseWaiting", "(I)V"⟩ ∈ wsAll := wa_of 525 (by decide +kernel) (by decide +kernel)
theorem im_Reader_releaseWaiting : Cond.instanceMethod ⟨"PartFormulas$Reader", "releaseWaiting", "(I)V"⟩ ∈ wsAll := wa_of 527 (by decide +kernel) (by decide +kernel)
theorem se_Reader_releaseWaiting : Cond.selects "PartFormulas$Reader" ⟨"PartFormulas$Reader", "releaseWaiting", "(I)V"⟩ ⟨"PartFormulas$Reader", "releaseWaiting", "(I)V"⟩ ∈ wsAll := wa_of 15 (by decide +kernel) (by decide +kernel)
theorem fl_Reader_46 : Cond.fieldLink "PartFormulas$Reader" 46 "PartFormulas$Reader" "shapeOfFactor" "[I" ∈ wsAll := wa_of 218 (by decide +kernel) (by decide +kernel)
theorem cd_Reader_areNeededAround : Cond.code ⟨"PartFormulas$Reader", "areNeededAround", "(IIC)Z"⟩ prog_3_method_19_code 4 (some .boolean) ∈ wsAll := wa_of 534 (by decide +kernel) (by decide +kernel)
theorem ml_Reader_170 : Cond.methodLink "PartFormulas$Reader" 170 ⟨"PartFormulas$Reader", "areNeededAround", "(IIC)Z"⟩ ∈ wsAll := wa_of 532 (by decide +kernel) (by decide +kernel)
theorem st_Reader_areNeededAround : Cond.static ⟨"PartFormulas$Reader", "areNeededAround", "(IIC)Z"⟩ ∈ wsAll := wa_of 533 (by decide +kernel) (by decide +kernel)
theorem cd_Reader_releaseNegations : Cond.code ⟨"PartFormulas$Reader", "releaseNegations", "()V"⟩ prog_3_method_26_code 1 (none : Option Jvm.ClassFile.FieldType) ∈ wsAll := wa_of 516 (by decide +kernel) (by decide +kernel)
theorem ml_Reader_153 : Cond.methodLink "PartFormulas$Reader" 153 ⟨"PartFormulas$Reader", "releaseNegations", "()V"⟩ ∈ wsAll := wa_of 513 (by decide +kernel) (by decide +kernel)
theorem im_Reader_releaseNegations : Cond.instanceMethod ⟨"PartFormulas$Reader", "releaseNegations", "()V"⟩ ∈ wsAll := wa_of 515 (by decide +kernel) (by decide +kernel)
theorem se_Reader_releaseNegations : Cond.selects "PartFormulas$Reader" ⟨"PartFormulas$Reader", "releaseNegations", "()V"⟩ ⟨"PartFormulas$Reader", "releaseNegations", "()V"⟩ ∈ wsAll := wa_of 12 (by decide +kernel) (by decide +kernel)
theorem cd_Reader_operatorOf : Cond.code ⟨"PartFormulas$Reader", "operatorOf", "(C)I"⟩ prog_3_method_21_code 1 (some .int) ∈ wsAll := wa_of 541 (by decide +kernel) (by decide +kernel)
theorem ml_Reader_174 : Cond.methodLink "PartFormulas$Reader" 174 ⟨"PartFormulas$Reader", "operatorOf", "(C)I"⟩ ∈ wsAll := wa_of 539 (by decide +kernel) (by decide +kernel)
theorem st_Reader_operatorOf : Cond.static ⟨"PartFormulas$Reader", "operatorOf", "(C)I"⟩ ∈ wsAll := wa_of 540 (by decide +kernel) (by decide +kernel)
theorem ml_Reader_181 : Cond.methodLink "PartFormulas$Reader" 181 ⟨"java/lang/Math", "max", "(II)I"⟩ ∈ wsAll := wa_of 542 (by decide +kernel) (by decide +kernel)
theorem st_JMath_max : Cond.static ⟨"java/lang/Math", "max", "(II)I"⟩ ∈ wsAll := wa_of 452 (by decide +kernel) (by decide +kernel)
theorem ini_JMath : Cond.initialized "java/lang/Math" ∈ wsAll := wa_of 83 (by decide +kernel) (by decide +kernel)
theorem cd_JMath_max : Cond.code ⟨"java/lang/Math", "max", "(II)I"⟩ prog_15_method_65_code 2 (some .int) ∈ wsAll := wa_of 453 (by decide +kernel) (by decide +kernel)
theorem cd_Reader_pass : Cond.code ⟨"PartFormulas$Reader", "pass", "(C)Z"⟩ prog_3_method_6_code 2 (some .boolean) ∈ wsAll := wa_of 364 (by decide +kernel) (by decide +kernel)
theorem ml_Reader_62 : Cond.methodLink "PartFormulas$Reader" 62 ⟨"PartFormulas$Reader", "pass", "(C)Z"⟩ ∈ wsAll := wa_of 361 (by decide +kernel) (by decide +kernel)
theorem im_Reader_pass : Cond.instanceMethod ⟨"PartFormulas$Reader", "pass", "(C)Z"⟩ ∈ wsAll := wa_of 363 (by decide +kernel) (by decide +kernel)
theorem se_Reader_pass : Cond.selects "PartFormulas$Reader" ⟨"PartFormulas$Reader", "pass", "(C)Z"⟩ ⟨"PartFormulas$Reader", "pass", "(C)Z"⟩ ∈ wsAll := wa_of 1 (by decide +kernel) (by decide +kernel)
theorem cd_Text_countCondition : Cond.code ⟨"PartFormulas$Text", "countCondition", "()V"⟩ prog_6_method_7_code 1 (none : Option Jvm.ClassFile.FieldType) ∈ wsAll := wa_of 554 (by decide +kernel) (by decide +kernel)
theorem ml_Reader_113 : Cond.methodLink "PartFormulas$Reader" 113 ⟨"PartFormulas$Text", "countCondition", "()V"⟩ ∈ wsAll := wa_of 551 (by decide +kernel) (by decide +kernel)
theorem im_Text_countCondition : Cond.instanceMethod ⟨"PartFormulas$Text", "countCondition", "()V"⟩ ∈ wsAll := wa_of 552 (by decide +kernel) (by decide +kernel)
theorem se_Text_countCondition : Cond.selects "PartFormulas$Text" ⟨"PartFormulas$Text", "countCondition", "()V"⟩ ⟨"PartFormulas$Text", "countCondition", "()V"⟩ ∈ wsAll := wa_of 553 (by decide +kernel) (by decide +kernel)
theorem fl_Reader_186 : Cond.fieldLink "PartFormulas$Reader" 186 "PartFormulas$Text" "printed" "[C" ∈ wsAll := wa_of 155 (by decide +kernel) (by decide +kernel)
theorem fl_Reader_189 : Cond.fieldLink "PartFormulas$Reader" 189 "PartFormulas$Text" "printedLength" "I" ∈ wsAll := wa_of 158 (by decide +kernel) (by decide +kernel)
theorem d_Reader_areNeededAround_0 : decode b_Reader_areNeededAround 0 = .ok (.iload_n 1, 1) := by decide +kernel
theorem d_Reader_areNeededAround_1 : decode b_Reader_areNeededAround 1 = .ok (.iconst 4, 1) := by decide +kernel
theorem d_Reader_areNeededAround_2 : decode b_Reader_areNeededAround 2 = .ok (.if_icmp .eq 15, 3) := by decide +kernel
theorem d_Reader_areNeededAround_5 : decode b_Reader_areNeededAround 5 = .ok (.iload_n 1, 1) := by decide +kernel
theorem d_Reader_areNeededAround_6 : decode b_Reader_areNeededAround 6 = .ok (.bipush 7, 2) := by decide +kernel
theorem d_Reader_areNeededAround_8 : decode b_Reader_areNeededAround 8 = .ok (.if_icmp .eq 9, 3) := by decide +kernel
theorem d_Reader_areNeededAround_11 : decode b_Reader_areNeededAround 11 = .ok (.iload_n 1, 1) := by decide +kernel
theorem d_Reader_areNeededAround_12 : decode b_Reader_areNeededAround 12 = .ok (.bipush 8, 2) := by decide +kernel
theorem d_Reader_areNeededAround_14 : decode b_Reader_areNeededAround 14 = .ok (.if_icmp .ne 7, 3) := by decide +kernel
theorem d_Reader_areNeededAround_17 : decode b_Reader_areNeededAround 17 = .ok (.iconst 1, 1) := by decide +kernel
theorem d_Reader_areNeededAround_18 : decode b_Reader_areNeededAround 18 = .ok (.goto 4, 3) := by decide +kernel
theorem d_Reader_areNeededAround_21 : decode b_Reader_areNeededAround 21 = .ok (.iconst 0, 1) := by decide +kernel
theorem d_Reader_areNeededAround_22 : decode b_Reader_areNeededAround 22 = .ok (.istore_n 3, 1) := by decide +kernel
theorem d_Reader_areNeededAround_23 : decode b_Reader_areNeededAround 23 = .ok (.iload_n 0, 1) := by decide +kernel
theorem d_Reader_areNeededAround_24 : decode b_Reader_areNeededAround 24 = .ok (.iconst 2, 1) := by decide +kernel
theorem d_Reader_areNeededAround_25 : decode b_Reader_areNeededAround 25 = .ok (.if_icmp .ne 36, 3) := by decide +kernel
theorem d_Reader_areNeededAround_28 : decode b_Reader_areNeededAround 28 = .ok (.iload_n 3, 1) := by decide +kernel
theorem d_Reader_areNeededAround_29 : decode b_Reader_areNeededAround 29 = .ok (.ifCond .ne 26, 3) := by decide +kernel
theorem d_Reader_areNeededAround_32 : decode b_Reader_areNeededAround 32 = .ok (.iload_n 1, 1) := by decide +kernel
theorem d_Reader_areNeededAround_33 : decode b_Reader_areNeededAround 33 = .ok (.iconst 5, 1) := by decide +kernel
theorem d_Reader_areNeededAround_34 : decode b_Reader_areNeededAround 34 = .ok (.if_icmp .eq 21, 3) := by decide +kernel
theorem d_Reader_areNeededAround_37 : decode b_Reader_areNeededAround 37 = .ok (.iload_n 1, 1) := by decide +kernel
theorem d_Reader_areNeededAround_38 : decode b_Reader_areNeededAround 38 = .ok (.bipush 6, 2) := by decide +kernel
theorem d_Reader_areNeededAround_40 : decode b_Reader_areNeededAround 40 = .ok (.if_icmp .eq 15, 3) := by decide +kernel
theorem d_Reader_areNeededAround_43 : decode b_Reader_areNeededAround 43 = .ok (.iload_n 2, 1) := by decide +kernel
theorem d_Reader_areNeededAround_44 : decode b_Reader_areNeededAround 44 = .ok (.bipush 42, 2) := by decide +kernel
theorem d_Reader_areNeededAround_46 : decode b_Reader_areNeededAround 46 = .ok (.if_icmp .eq 9, 3) := by decide +kernel
theorem d_Reader_areNeededAround_49 : decode b_Reader_areNeededAround 49 = .ok (.iload_n 2, 1) := by decide +kernel
theorem d_Reader_areNeededAround_50 : decode b_Reader_areNeededAround 50 = .ok (.bipush 47, 2) := by decide +kernel
theorem d_Reader_areNeededAround_52 : decode b_Reader_areNeededAround 52 = .ok (.if_icmp .ne 7, 3) := by decide +kernel
theorem d_Reader_areNeededAround_55 : decode b_Reader_areNeededAround 55 = .ok (.iconst 1, 1) := by decide +kernel
theorem d_Reader_areNeededAround_56 : decode b_Reader_areNeededAround 56 = .ok (.goto 4, 3) := by decide +kernel
theorem d_Reader_areNeededAround_59 : decode b_Reader_areNeededAround 59 = .ok (.iconst 0, 1) := by decide +kernel
theorem d_Reader_areNeededAround_60 : decode b_Reader_areNeededAround 60 = .ok (.ireturn, 1) := by decide +kernel
theorem d_Reader_areNeededAround_61 : decode b_Reader_areNeededAround 61 = .ok (.iload_n 0, 1) := by decide +kernel
theorem d_Reader_areNeededAround_62 : decode b_Reader_areNeededAround 62 = .ok (.iconst 1, 1) := by decide +kernel
theorem d_Reader_areNeededAround_63 : decode b_Reader_areNeededAround 63 = .ok (.if_icmp .ne 11, 3) := by decide +kernel
theorem d_Reader_areNeededAround_66 : decode b_Reader_areNeededAround 66 = .ok (.iload_n 3, 1) := by decide +kernel
theorem d_Reader_areNeededAround_67 : decode b_Reader_areNeededAround 67 = .ok (.ifCond .eq 7, 3) := by decide +kernel
theorem d_Reader_areNeededAround_70 : decode b_Reader_areNeededAround 70 = .ok (.iconst 1, 1) := by decide +kernel
theorem d_Reader_areNeededAround_71 : decode b_Reader_areNeededAround 71 = .ok (.goto 4, 3) := by decide +kernel
theorem d_Reader_areNeededAround_74 : decode b_Reader_areNeededAround 74 = .ok (.iconst 0, 1) := by decide +kernel
theorem d_Reader_areNeededAround_75 : decode b_Reader_areNeededAround 75 = .ok (.ireturn, 1) := by decide +kernel
theorem d_Reader_closeGroups_0 : decode b_Reader_closeGroups 0 = .ok (.aload_n 0, 1) := by decide +kernel
theorem d_Reader_closeGroups_1 : decode b_Reader_closeGroups 1 = .ok (.getfield 49, 3) := by decide +kernel
theorem d_Reader_closeGroups_4 : decode b_Reader_closeGroups 4 = .ok (.ifCond .le 165, 3) := by decide +kernel
theorem d_Reader_closeGroups_7 : decode b_Reader_closeGroups 7 = .ok (.aload_n 0, 1) := by decide +kernel
theorem d_Reader_closeGroups_8 : decode b_Reader_closeGroups 8 = .ok (.invokevirtual 78, 3) := by decide +kernel
theorem d_Reader_closeGroups_11 : decode b_Reader_closeGroups 11 = .ok (.bipush 41, 2) := by decide +kernel
theorem d_Reader_closeGroups_13 : decode b_Reader_closeGroups 13 = .ok (.if_icmp .ne 156, 3) := by decide +kernel
theorem d_Reader_closeGroups_16 : decode b_Reader_closeGroups 16 = .ok (.aload_n 0, 1) := by decide +kernel
theorem d_Reader_closeGroups_17 : decode b_Reader_closeGroups 17 = .ok (.iconst 0, 1) := by decide +kernel
theorem d_Reader_closeGroups_18 : decode b_Reader_closeGroups 18 = .ok (.invokevirtual 125, 3) := by decide +kernel
theorem d_Reader_closeGroups_21 : decode b_Reader_closeGroups 21 = .ok (.aload_n 0, 1) := by decide +kernel
theorem d_Reader_closeGroups_22 : decode b_Reader_closeGroups 22 = .ok (.dup, 1) := by decide +kernel
theorem d_Reader_closeGroups_23 : decode b_Reader_closeGroups 23 = .ok (.getfield 37, 3) := by decide +kernel
theorem d_Reader_closeGroups_26 : decode b_Reader_closeGroups 26 = .ok (.iconst 1, 1) := by decide +kernel
theorem d_Reader_closeGroups_27 : decode b_Reader_closeGroups 27 = .ok (.isub, 1) := by decide +kernel
theorem d_Reader_closeGroups_28 : decode b_Reader_closeGroups 28 = .ok (.putfield 37, 3) := by decide +kernel
theorem d_Reader_closeGroups_31 : decode b_Reader_closeGroups 31 = .ok (.aload_n 0, 1) := by decide +kernel
theorem d_Reader_closeGroups_32 : decode b_Reader_closeGroups 32 = .ok (.getfield 43, 3) := by decide +kernel
theorem d_Reader_closeGroups_35 : decode b_Reader_closeGroups 35 = .ok (.aload_n 0, 1) := by decide +kernel
theorem d_Reader_closeGroups_36 : decode b_Reader_closeGroups 36 = .ok (.getfield 49, 3) := by decide +kernel
theorem d_Reader_closeGroups_39 : decode b_Reader_closeGroups 39 = .ok (.iaload, 1) := by decide +kernel
theorem d_Reader_closeGroups_40 : decode b_Reader_closeGroups 40 = .ok (.ifCond .ne 15, 3) := by decide +kernel
theorem d_Reader_closeGroups_43 : decode b_Reader_closeGroups 43 = .ok (.aload_n 0, 1) := by decide +kernel
theorem d_Reader_closeGroups_44 : decode b_Reader_closeGroups 44 = .ok (.getfield 46, 3) := by decide +kernel
theorem d_Reader_closeGroups_47 : decode b_Reader_closeGroups 47 = .ok (.aload_n 0, 1) := by decide +kernel
theorem d_Reader_closeGroups_48 : decode b_Reader_closeGroups 48 = .ok (.getfield 49, 3) := by decide +kernel
theorem d_Reader_closeGroups_51 : decode b_Reader_closeGroups 51 = .ok (.iaload, 1) := by decide +kernel
theorem d_Reader_closeGroups_52 : decode b_Reader_closeGroups 52 = .ok (.goto 12, 3) := by decide +kernel
theorem d_Reader_closeGroups_55 : decode b_Reader_closeGroups 55 = .ok (.aload_n 0, 1) := by decide +kernel
theorem d_Reader_closeGroups_56 : decode b_Reader_closeGroups 56 = .ok (.getfield 43, 3) := by decide +kernel
theorem d_Reader_closeGroups_59 : decode b_Reader_closeGroups 59 = .ok (.aload_n 0, 1) := by decide +kernel
theorem d_Reader_closeGroups_60 : decode b_Reader_closeGroups 60 = .ok (.getfield 49, 3) := by decide +kernel
theorem d_Reader_closeGroups_63 : decode b_Reader_closeGroups 63 = .ok (.iaload, 1) := by decide +kernel
theorem d_Reader_closeGroups_64 : decode b_Reader_closeGroups 64 = .ok (.istore_n 1, 1) := by decide +kernel
theorem d_Reader_closeGroups_65 : decode b_Reader_closeGroups 65 = .ok (.aload_n 0, 1) := by decide +kernel
theorem d_Reader_closeGroups_66 : decode b_Reader_closeGroups 66 = .ok (.invokevirtual 167, 3) := by decide +kernel
theorem d_Reader_closeGroups_69 : decode b_Reader_closeGroups 69 = .ok (.istore_n 2, 1) := by decide +kernel
theorem d_Reader_closeGroups_70 : decode b_Reader_closeGroups 70 = .ok (.aload_n 0, 1) := by decide +kernel
theorem d_Reader_closeGroups_71 : decode b_Reader_closeGroups 71 = .ok (.getfield 40, 3) := by decide +kernel
theorem d_Reader_closeGroups_74 : decode b_Reader_closeGroups 74 = .ok (.aload_n 0, 1) := by decide +kernel
theorem d_Reader_closeGroups_75 : decode b_Reader_closeGroups 75 = .ok (.getfield 49, 3) := by decide +kernel
theorem d_Reader_closeGroups_78 : decode b_Reader_closeGroups 78 = .ok (.iaload, 1) := by decide +kernel
theorem d_Reader_closeGroups_79 : decode b_Reader_closeGroups 79 = .ok (.istore_n 3, 1) := by decide +kernel
theorem d_Reader_closeGroups_80 : decode b_Reader_closeGroups 80 = .ok (.aload_n 0, 1) := by decide +kernel
theorem d_Reader_closeGroups_81 : decode b_Reader_closeGroups 81 = .ok (.getfield 23, 3) := by decide +kernel
theorem d_Reader_closeGroups_84 : decode b_Reader_closeGroups 84 = .ok (.istore 4, 2) := by decide +kernel
theorem d_Reader_closeGroups_86 : decode b_Reader_closeGroups 86 = .ok (.aload_n 0, 1) := by decide +kernel
theorem d_Reader_closeGroups_87 : decode b_Reader_closeGroups 87 = .ok (.dup, 1) := by decide +kernel
theorem d_Reader_closeGroups_88 : decode b_Reader_closeGroups 88 = .ok (.getfield 23, 3) := by decide +kernel
theorem d_Reader_closeGroups_91 : decode b_Reader_closeGroups 91 = .ok (.iconst 1, 1) := by decide +kernel
theorem d_Reader_closeGroups_92 : decode b_Reader_closeGroups 92 = .ok (.iadd, 1) := by decide +kernel
theorem d_Reader_closeGroups_93 : decode b_Reader_closeGroups 93 = .ok (.putfield 23, 3) := by decide +kernel
theorem d_Reader_closeGroups_96 : decode b_Reader_closeGroups 96 = .ok (.iload_n 1, 1) := by decide +kernel
theorem d_Reader_closeGroups_97 : decode b_Reader_closeGroups 97 = .ok (.iload_n 2, 1) := by decide +kernel
theorem d_Reader_closeGroups_98 : decode b_Reader_closeGroups 98 = .ok (.aload_n 0, 1) := by decide +kernel
theorem d_Reader_closeGroups_99 : decode b_Reader_closeGroups 99 = .ok (.invokevirtual 78, 3) := by decide +kernel
theorem d_Reader_closeGroups_102 : decode b_Reader_closeGroups 102 = .ok (.invokestatic 170, 3) := by decide +kernel
theorem d_Reader_closeGroups_105 : decode b_Reader_closeGroups 105 = .ok (.ifCond .ne 18, 3) := by decide +kernel
theorem d_Reader_closeGroups_108 : decode b_Reader_closeGroups 108 = .ok (.aload_n 0, 1) := by decide +kernel
theorem d_Reader_closeGroups_109 : decode b_Reader_closeGroups 109 = .ok (.getfield 15, 3) := by decide +kernel
theorem d_Reader_closeGroups_112 : decode b_Reader_closeGroups 112 = .ok (.iload_n 3, 1) := by decide +kernel
theorem d_Reader_closeGroups_113 : decode b_Reader_closeGroups 113 = .ok (.iconst 1, 1) := by decide +kernel
theorem d_Reader_closeGroups_114 : decode b_Reader_closeGroups 114 = .ok (.bastore, 1) := by decide +kernel
theorem d_Reader_closeGroups_115 : decode b_Reader_closeGroups 115 = .ok (.aload_n 0, 1) := by decide +kernel
theorem d_Reader_closeGroups_116 : decode b_Reader_closeGroups 116 = .ok (.getfield 15, 3) := by decide +kernel
theorem d_Reader_closeGroups_119 : decode b_Reader_closeGroups 119 = .ok (.iload 4, 2) := by decide +kernel
theorem d_Reader_closeGroups_121 : decode b_Reader_closeGroups 121 = .ok (.iconst 1, 1) := by decide +kernel
theorem d_Reader_closeGroups_122 : decode b_Reader_closeGroups 122 = .ok (.bastore, 1) := by decide +kernel
theorem d_Reader_closeGroups_123 : decode b_Reader_closeGroups 123 = .ok (.aload_n 0, 1) := by decide +kernel
theorem d_Reader_closeGroups_124 : decode b_Reader_closeGroups 124 = .ok (.dup, 1) := by decide +kernel
theorem d_Reader_closeGroups_125 : decode b_Reader_closeGroups 125 = .ok (.getfield 49, 3) := by decide +kernel
theorem d_Reader_closeGroups_128 : decode b_Reader_closeGroups 128 = .ok (.iconst 1, 1) := by decide +kernel
theorem d_Reader_closeGroups_129 : decode b_Reader_closeGroups 129 = .ok (.isub, 1) := by decide +kernel
theorem d_Reader_closeGroups_130 : decode b_Reader_closeGroups 130 = .ok (.putfield 49, 3) := by decide +kernel
theorem d_Reader_closeGroups_133 : decode b_Reader_closeGroups 133 = .ok (.aload_n 0, 1) := by decide +kernel
theorem d_Reader_closeGroups_134 : decode b_Reader_closeGroups 134 = .ok (.dup, 1) := by decide +kernel
theorem d_Reader_closeGroups_135 : decode b_Reader_closeGroups 135 = .ok (.getfield 52, 3) := by decide +kernel
theorem d_Reader_closeGroups_138 : decode b_Reader_closeGroups 138 = .ok (.iconst 1, 1) := by decide +kernel
theorem d_Reader_closeGroups_139 : decode b_Reader_closeGroups 139 = .ok (.isub, 1) := by decide +kernel
theorem d_Reader_closeGroups_140 : decode b_Reader_closeGroups 140 = .ok (.putfield 52, 3) := by decide +kernel
theorem d_Reader_closeGroups_143 : decode b_Reader_closeGroups 143 = .ok (.aload_n 0, 1) := by decide +kernel
theorem d_Reader_closeGroups_144 : decode b_Reader_closeGroups 144 = .ok (.getfield 46, 3) := by decide +kernel
theorem d_Reader_closeGroups_147 : decode b_Reader_closeGroups 147 = .ok (.aload_n 0, 1) := by decide +kernel
theorem d_Reader_closeGroups_148 : decode b_Reader_closeGroups 148 = .ok (.getfield 49, 3) := by decide +kernel
theorem d_Reader_closeGroups_151 : decode b_Reader_closeGroups 151 = .ok (.iload_n 2, 1) := by decide +kernel
theorem d_Reader_closeGroups_152 : decode b_Reader_closeGroups 152 = .ok (.iconst 4, 1) := by decide +kernel
theorem d_Reader_closeGroups_153 : decode b_Reader_closeGroups 153 = .ok (.if_icmp .ne 7, 3) := by decide +kernel
theorem d_Reader_closeGroups_156 : decode b_Reader_closeGroups 156 = .ok (.iconst 0, 1) := by decide +kernel
theorem d_Reader_closeGroups_157 : decode b_Reader_closeGroups 157 = .ok (.goto 4, 3) := by decide +kernel
theorem d_Reader_closeGroups_160 : decode b_Reader_closeGroups 160 = .ok (.iload_n 1, 1) := by decide +kernel
theorem d_Reader_closeGroups_161 : decode b_Reader_closeGroups 161 = .ok (.iastore, 1) := by decide +kernel
theorem d_Reader_closeGroups_162 : decode b_Reader_closeGroups 162 = .ok (.aload_n 0, 1) := by decide +kernel
theorem d_Reader_closeGroups_163 : decode b_Reader_closeGroups 163 = .ok (.invokevirtual 153, 3) := by decide +kernel
theorem d_Reader_closeGroups_166 : decode b_Reader_closeGroups 166 = .ok (.goto (-166), 3) := by decide +kernel
theorem d_Reader_closeGroups_169 : decode b_Reader_closeGroups 169 = .ok (.return_, 1) := by decide +kernel
theorem d_Reader_collect_0 : decode b_Reader_collect 0 = .ok (.aload_n 0, 1) := by decide +kernel
theorem d_Reader_collect_1 : decode b_Reader_collect 1 = .ok (.getfield 19, 3) := by decide +kernel
theorem d_Reader_collect_4 : decode b_Reader_collect 4 = .ok (.sipush 400, 3) := by decide +kernel
theorem d_Reader_collect_7 : decode b_Reader_collect 7 = .ok (.if_icmp .lt 5, 3) := by decide +kernel
theorem d_Reader_collect_10 : decode b_Reader_collect 10 = .ok (.iconst 0, 1) := by decide +kernel
theorem d_Reader_collect_11 : decode b_Reader_collect 11 = .ok (.ireturn, 1) := by decide +kernel
theorem d_Reader_collect_12 : decode b_Reader_collect 12 = .ok (.aload_n 0, 1) := by decide +kernel
theorem d_Reader_collect_13 : decode b_Reader_collect 13 = .ok (.getfield 9, 3) := by decide +kernel
theorem d_Reader_collect_16 : decode b_Reader_collect 16 = .ok (.aload_n 0, 1) := by decide +kernel
theorem d_Reader_collect_17 : decode b_Reader_collect 17 = .ok (.getfield 19, 3) := by decide +kernel
theorem d_Reader_collect_20 : decode b_Reader_collect 20 = .ok (.iload_n 1, 1) := by decide +kernel
theorem d_Reader_collect_21 : decode b_Reader_collect 21 = .ok (.castore, 1) := by decide +kernel
theorem d_Reader_collect_22 : decode b_Reader_collect 22 = .ok (.aload_n 0, 1) := by decide +kernel
theorem d_Reader_collect_23 : decode b_Reader_collect 23 = .ok (.getfield 15, 3) := by decide +kernel
theorem d_Reader_collect_26 : decode b_Reader_collect 26 = .ok (.aload_n 0, 1) := by decide +kernel
theorem d_Reader_collect_27 : decode b_Reader_collect 27 = .ok (.getfield 19, 3) := by decide +kernel
theorem d_Reader_collect_30 : decode b_Reader_collect 30 = .ok (.iconst 0, 1) := by decide +kernel
theorem d_Reader_collect_31 : decode b_Reader_collect 31 = .ok (.bastore, 1) := by decide +kernel
theorem d_Reader_collect_32 : decode b_Reader_collect 32 = .ok (.aload_n 0, 1) := by decide +kernel
theorem d_Reader_collect_33 : decode b_Reader_collect 33 = .ok (.dup, 1) := by decide +kernel
theorem d_Reader_collect_34 : decode b_Reader_collect 34 = .ok (.getfield 19, 3) := by decide +kernel
theorem d_Reader_collect_37 : decode b_Reader_collect 37 = .ok (.iconst 1, 1) := by decide +kernel
theorem d_Reader_collect_38 : decode b_Reader_collect 38 = .ok (.iadd, 1) := by decide +kernel
theorem d_Reader_collect_39 : decode b_Reader_collect 39 = .ok (.putfield 19, 3) := by decide +kernel
theorem d_Reader_collect_42 : decode b_Reader_collect 42 = .ok (.iconst 1, 1) := by decide +kernel
theorem d_Reader_collect_43 : decode b_Reader_collect 43 = .ok (.ireturn, 1) := by decide +kernel
theorem d_Reader_dropZerosBehind_0 : decode b_Reader_dropZerosBehind 0 = .ok (.aload_n 0, 1) := by decide +kernel
theorem d_Reader_dropZerosBehind_1 : decode b_Reader_dropZerosBehind 1 = .ok (.getfield 23, 3) := by decide +kernel
theorem d_Reader_dropZerosBehind_4 : decode b_Reader_dropZerosBehind 4 = .ok (.iconst 1, 1) := by decide +kernel
theorem d_Reader_dropZerosBehind_5 : decode b_Reader_dropZerosBehind 5 = .ok (.isub, 1) := by decide +kernel
theorem d_Reader_dropZerosBehind_6 : decode b_Reader_dropZerosBehind 6 = .ok (.istore_n 2, 1) := by decide +kernel
theorem d_Reader_dropZerosBehind_7 : decode b_Reader_dropZerosBehind 7 = .ok (.iload_n 2, 1) := by decide +kernel
theorem d_Reader_dropZerosBehind_8 : decode b_Reader_dropZerosBehind 8 = .ok (.iload_n 1, 1) := by decide +kernel
theorem d_Reader_dropZerosBehind_9 : decode b_Reader_dropZerosBehind 9 = .ok (.if_icmp .le 27, 3) := by decide +kernel
theorem d_Reader_dropZerosBehind_12 : decode b_Reader_dropZerosBehind 12 = .ok (.aload_n 0, 1) := by decide +kernel
theorem d_Reader_dropZerosBehind_13 : decode b_Reader_dropZerosBehind 13 = .ok (.getfield 9, 3) := by decide +kernel
theorem d_Reader_dropZerosBehind_16 : decode b_Reader_dropZerosBehind 16 = .ok (.iload_n 2, 1) := by decide +kernel
theorem d_Reader_dropZerosBehind_17 : decode b_Reader_dropZerosBehind 17 = .ok (.caload, 1) := by decide +kernel
theorem d_Reader_dropZerosBehind_18 : decode b_Reader_dropZerosBehind 18 = .ok (.bipush 48, 2) := by decide +kernel
theorem d_Reader_dropZerosBehind_20 : decode b_Reader_dropZerosBehind 20 = .ok (.if_icmp .ne 16, 3) := by decide +kernel
theorem d_Reader_dropZerosBehind_23 : decode b_Reader_dropZerosBehind 23 = .ok (.aload_n 0, 1) := by decide +kernel
theorem d_Reader_dropZerosBehind_24 : decode b_Reader_dropZerosBehind 24 = .ok (.getfield 15, 3) := by decide +kernel
theorem d_Reader_dropZerosBehind_27 : decode b_Reader_dropZerosBehind 27 = .ok (.iload_n 2, 1) := by decide +kernel
theorem d_Reader_dropZerosBehind_28 : decode b_Reader_dropZerosBehind 28 = .ok (.iconst 1, 1) := by decide +kernel
theorem d_Reader_dropZerosBehind_29 : decode b_Reader_dropZerosBehind 29 = .ok (.bastore, 1) := by decide +kernel
theorem d_Reader_dropZerosBehind_30 : decode b_Reader_dropZerosBehind 30 = .ok (.iinc 2 (-1), 3) := by decide +kernel
theorem d_Reader_dropZerosBehind_33 : decode b_Reader_dropZerosBehind 33 = .ok (.goto (-26), 3) := by decide +kernel
theorem d_Reader_dropZerosBehind_36 : decode b_Reader_dropZerosBehind 36 = .ok (.iload_n 2, 1) := by decide +kernel
theorem d_Reader_dropZerosBehind_37 : decode b_Reader_dropZerosBehind 37 = .ok (.iload_n 1, 1) := by decide +kernel
theorem d_Reader_dropZerosBehind_38 : decode b_Reader_dropZerosBehind 38 = .ok (.if_icmp .ne 10, 3) := by decide +kernel
theorem d_Reader_dropZerosBehind_41 : decode b_Reader_dropZerosBehind 41 = .ok (.aload_n 0, 1) := by decide +kernel
theorem d_Reader_dropZerosBehind_42 : decode b_Reader_dropZerosBehind 42 = .ok (.getfield 15, 3) := by decide +kernel
theorem d_Reader_dropZerosBehind_45 : decode b_Reader_dropZerosBehind 45 = .ok (.iload_n 1, 1) := by decide +kernel
theorem d_Reader_dropZerosBehind_46 : decode b_Reader_dropZerosBehind 46 = .ok (.iconst 1, 1) := by decide +kernel
theorem d_Reader_dropZerosBehind_47 : decode b_Reader_dropZerosBehind 47 = .ok (.bastore, 1) := by decide +kernel
theorem d_Reader_dropZerosBehind_48 : decode b_Reader_dropZerosBehind 48 = .ok (.return_, 1) := by decide +kernel
theorem d_Reader_hold_0 : decode b_Reader_hold 0 = .ok (.aload_n 0, 1) := by decide +kernel
theorem d_Reader_hold_1 : decode b_Reader_hold 1 = .ok (.getfield 37, 3) := by decide +kernel
theorem d_Reader_hold_4 : decode b_Reader_hold 4 = .ok (.sipush 400, 3) := by decide +kernel
theorem d_Reader_hold_7 : decode b_Reader_hold 7 = .ok (.if_icmp .ge 23, 3) := by decide +kernel
theorem d_Reader_hold_10 : decode b_Reader_hold 10 = .ok (.aload_n 0, 1) := by decide +kernel
theorem d_Reader_hold_11 : decode b_Reader_hold 11 = .ok (.getfield 33, 3) := by decide +kernel
theorem d_Reader_hold_14 : decode b_Reader_hold 14 = .ok (.aload_n 0, 1) := by decide +kernel
theorem d_Reader_hold_15 : decode b_Reader_hold 15 = .ok (.getfield 37, 3) := by decide +kernel
theorem d_Reader_hold_18 : decode b_Reader_hold 18 = .ok (.iload_n 1, 1) := by decide +kernel
theorem d_Reader_hold_19 : decode b_Reader_hold 19 = .ok (.iastore, 1) := by decide +kernel
theorem d_Reader_hold_20 : decode b_Reader_hold 20 = .ok (.aload_n 0, 1) := by decide +kernel
theorem d_Reader_hold_21 : decode b_Reader_hold 21 = .ok (.dup, 1) := by decide +kernel
theorem d_Reader_hold_22 : decode b_Reader_hold 22 = .ok (.getfield 37, 3) := by decide +kernel
theorem d_Reader_hold_25 : decode b_Reader_hold 25 = .ok (.iconst 1, 1) := by decide +kernel
theorem d_Reader_hold_26 : decode b_Reader_hold 26 = .ok (.iadd, 1) := by decide +kernel
theorem d_Reader_hold_27 : decode b_Reader_hold 27 = .ok (.putfield 37, 3) := by decide +kernel
theorem d_Reader_hold_30 : decode b_Reader_hold 30 = .ok (.return_, 1) := by decide +kernel
theorem d_Reader_lastWaiting_0 : decode b_Reader_lastWaiting 0 = .ok (.aload_n 0, 1) := by decide +kernel
theorem d_Reader_lastWaiting_1 : decode b_Reader_lastWaiting 1 = .ok (.getfield 37, 3) := by decide +kernel
theorem d_Reader_lastWaiting_4 : decode b_Reader_lastWaiting 4 = .ok (.ifCond .le 17, 3) := by decide +kernel
theorem d_Reader_lastWaiting_7 : decode b_Reader_lastWaiting 7 = .ok (.aload_n 0, 1) := by decide +kernel
theorem d_Reader_lastWaiting_8 : decode b_Reader_lastWaiting 8 = .ok (.getfield 33, 3) := by decide +kernel
theorem d_Reader_lastWaiting_11 : decode b_Reader_lastWaiting 11 = .ok (.aload_n 0, 1) := by decide +kernel
theorem d_Reader_lastWaiting_12 : decode b_Reader_lastWaiting 12 = .ok (.getfield 37, 3) := by decide +kernel
theorem d_Reader_lastWaiting_15 : decode b_Reader_lastWaiting 15 = .ok (.iconst 1, 1) := by decide +kernel
theorem d_Reader_lastWaiting_16 : decode b_Reader_lastWaiting 16 = .ok (.isub, 1) := by decide +kernel
theorem d_Reader_lastWaiting_17 : decode b_Reader_lastWaiting 17 = .ok (.iaload, 1) := by decide +kernel
theorem d_Reader_lastWaiting_18 : decode b_Reader_lastWaiting 18 = .ok (.goto 4, 3) := by decide +kernel
theorem d_Reader_lastWaiting_21 : decode b_Reader_lastWaiting 21 = .ok (.iconst 0, 1) := by decide +kernel
theorem d_Reader_lastWaiting_22 : decode b_Reader_lastWaiting 22 = .ok (.ireturn, 1) := by decide +kernel
theorem d_Reader_next_0 : decode b_Reader_next 0 = .ok (.aload_n 0, 1) := by decide +kernel
theorem d_Reader_next_1 : decode b_Reader_next 1 = .ok (.getfield 23, 3) := by decide +kernel
theorem d_Reader_next_4 : decode b_Reader_next 4 = .ok (.aload_n 0, 1) := by decide +kernel
theorem d_Reader_next_5 : decode b_Reader_next 5 = .ok (.getfield 19, 3) := by decide +kernel
theorem d_Reader_next_8 : decode b_Reader_next 8 = .ok (.if_icmp .ge 15, 3) := by decide +kernel
theorem d_Reader_next_11 : decode b_Reader_next 11 = .ok (.aload_n 0, 1) := by decide +kernel
theorem d_Reader_next_12 : decode b_Reader_next 12 = .ok (.getfield 9, 3) := by decide +kernel
theorem d_Reader_next_15 : decode b_Reader_next 15 = .ok (.aload_n 0, 1) := by decide +kernel
theorem d_Reader_next_16 : decode b_Reader_next 16 = .ok (.getfield 23, 3) := by decide +kernel
theorem d_Reader_next_19 : decode b_Reader_next 19 = .ok (.caload, 1) := by decide +kernel
theorem d_Reader_next_20 : decode b_Reader_next 20 = .ok (.goto 4, 3) := by decide +kernel
theorem d_Reader_next_23 : decode b_Reader_next 23 = .ok (.iconst 0, 1) := by decide +kernel
theorem d_Reader_next_24 : decode b_Reader_next 24 = .ok (.ireturn, 1) := by decide +kernel
theorem d_Reader_openGroup_0 : decode b_Reader_openGroup 0 = .ok (.aload_n 0, 1) := by decide +kernel
theorem d_Reader_openGroup_1 : decode b_Reader_openGroup 1 = .ok (.bipush 9, 2) := by decide +kernel
theorem d_Reader_openGroup_3 : decode b_Reader_openGroup 3 = .ok (.invokevirtual 138, 3) := by decide +kernel
theorem d_Reader_openGroup_6 : decode b_Reader_openGroup 6 = .ok (.aload_n 0, 1) := by decide +kernel
theorem d_Reader_openGroup_7 : decode b_Reader_openGroup 7 = .ok (.dup, 1) := by decide +kernel
theorem d_Reader_openGroup_8 : decode b_Reader_openGroup 8 = .ok (.getfield 49, 3) := by decide +kernel
theorem d_Reader_openGroup_11 : decode b_Reader_openGroup 11 = .ok (.iconst 1, 1) := by decide +kernel
theorem d_Reader_openGroup_12 : decode b_Reader_openGroup 12 = .ok (.iadd, 1) := by decide +kernel
theorem d_Reader_openGroup_13 : decode b_Reader_openGroup 13 = .ok (.putfield 49, 3) := by decide +kernel
theorem d_Reader_openGroup_16 : decode b_Reader_openGroup 16 = .ok (.aload_n 0, 1) := by decide +kernel
theorem d_Reader_openGroup_17 : decode b_Reader_openGroup 17 = .ok (.getfield 40, 3) := by decide +kernel
theorem d_Reader_openGroup_20 : decode b_Reader_openGroup 20 = .ok (.aload_n 0, 1) := by decide +kernel
theorem d_Reader_openGroup_21 : decode b_Reader_openGroup 21 = .ok (.getfield 49, 3) := by decide +kernel
theorem d_Reader_openGroup_24 : decode b_Reader_openGroup 24 = .ok (.aload_n 0, 1) := by decide +kernel
theorem d_Reader_openGroup_25 : decode b_Reader_openGroup 25 = .ok (.getfield 23, 3) := by decide +kernel
theorem d_Reader_openGroup_28 : decode b_Reader_openGroup 28 = .ok (.iastore, 1) := by decide +kernel
theorem d_Reader_openGroup_29 : decode b_Reader_openGroup 29 = .ok (.aload_n 0, 1) := by decide +kernel
theorem d_Reader_openGroup_30 : decode b_Reader_openGroup 30 = .ok (.getfield 43, 3) := by decide +kernel
theorem d_Reader_openGroup_33 : decode b_Reader_openGroup 33 = .ok (.aload_n 0, 1) := by decide +kernel
theorem d_Reader_openGroup_34 : decode b_Reader_openGroup 34 = .ok (.getfield 49, 3) := by decide +kernel
theorem d_Reader_openGroup_37 : decode b_Reader_openGroup 37 = .ok (.iconst 0, 1) := by decide +kernel
theorem d_Reader_openGroup_38 : decode b_Reader_openGroup 38 = .ok (.iastore, 1) := by decide +kernel
theorem d_Reader_openGroup_39 : decode b_Reader_openGroup 39 = .ok (.return_, 1) := by decide +kernel
theorem d_Reader_operatorOf_0 : decode b_Reader_operatorOf 0 = .ok (.iload_n 0, 1) := by decide +kernel
theorem d_Reader_operatorOf_1 : decode b_Reader_operatorOf 1 = .ok (.bipush 43, 2) := by decide +kernel
theorem d_Reader_operatorOf_3 : decode b_Reader_operatorOf 3 = .ok (.if_icmp .ne 5, 3) := by decide +kernel
theorem d_Reader_operatorOf_6 : decode b_Reader_operatorOf 6 = .ok (.iconst 5, 1) := by decide +kernel
theorem d_Reader_operatorOf_7 : decode b_Reader_operatorOf 7 = .ok (.ireturn, 1) := by decide +kernel
theorem d_Reader_operatorOf_8 : decode b_Reader_operatorOf 8 = .ok (.iload_n 0, 1) := by decide +kernel
theorem d_Reader_operatorOf_9 : decode b_Reader_operatorOf 9 = .ok (.bipush 45, 2) := by decide +kernel
theorem d_Reader_operatorOf_11 : decode b_Reader_operatorOf 11 = .ok (.if_icmp .ne 6, 3) := by decide +kernel
theorem d_Reader_operatorOf_14 : decode b_Reader_operatorOf 14 = .ok (.bipush 6, 2) := by decide +kernel
theorem d_Reader_operatorOf_16 : decode b_Reader_operatorOf 16 = .ok (.ireturn, 1) := by decide +kernel
theorem d_Reader_operatorOf_17 : decode b_Reader_operatorOf 17 = .ok (.iload_n 0, 1) := by decide +kernel
theorem d_Reader_operatorOf_18 : decode b_Reader_operatorOf 18 = .ok (.bipush 42, 2) := by decide +kernel
theorem d_Reader_operatorOf_20 : decode b_Reader_operatorOf 20 = .ok (.if_icmp .ne 6, 3) := by decide +kernel
theorem d_Reader_operatorOf_23 : decode b_Reader_operatorOf 23 = .ok (.bipush 7, 2) := by decide +kernel
theorem d_Reader_operatorOf_25 : decode b_Reader_operatorOf 25 = .ok (.ireturn, 1) := by decide +kernel
theorem d_Reader_operatorOf_26 : decode b_Reader_operatorOf 26 = .ok (.iload_n 0, 1) := by decide +kernel
theorem d_Reader_operatorOf_27 : decode b_Reader_operatorOf 27 = .ok (.bipush 47, 2) := by decide +kernel
theorem d_Reader_operatorOf_29 : decode b_Reader_operatorOf 29 = .ok (.if_icmp .ne 8, 3) := by decide +kernel
theorem d_Reader_operatorOf_32 : decode b_Reader_operatorOf 32 = .ok (.bipush 8, 2) := by decide +kernel
theorem d_Reader_operatorOf_34 : decode b_Reader_operatorOf 34 = .ok (.goto 4, 3) := by decide +kernel
theorem d_Reader_operatorOf_37 : decode b_Reader_operatorOf 37 = .ok (.iconst 0, 1) := by decide +kernel
theorem d_Reader_operatorOf_38 : decode b_Reader_operatorOf 38 = .ok (.ireturn, 1) := by decide +kernel
theorem d_Reader_pass_0 : decode b_Reader_pass 0 = .ok (.aload_n 0, 1) := by decide +kernel
theorem d_Reader_pass_1 : decode b_Reader_pass 1 = .ok (.invokevirtual 78, 3) := by decide +kernel
theorem d_Reader_pass_4 : decode b_Reader_pass 4 = .ok (.iload_n 1, 1) := by decide +kernel
theorem d_Reader_pass_5 : decode b_Reader_pass 5 = .ok (.if_icmp .eq 5, 3) := by decide +kernel
theorem d_Reader_pass_8 : decode b_Reader_pass 8 = .ok (.iconst 0, 1) := by decide +kernel
theorem d_Reader_pass_9 : decode b_Reader_pass 9 = .ok (.ireturn, 1) := by decide +kernel
theorem d_Reader_pass_10 : decode b_Reader_pass 10 = .ok (.aload_n 0, 1) := by decide +kernel
theorem d_Reader_pass_11 : decode b_Reader_pass 11 = .ok (.dup, 1) := by decide +kernel
theorem d_Reader_pass_12 : decode b_Reader_pass 12 = .ok (.getfield 23, 3) := by decide +kernel
theorem d_Reader_pass_15 : decode b_Reader_pass 15 = .ok (.iconst 1, 1) := by decide +kernel
theorem d_Reader_pass_16 : decode b_Reader_pass 16 = .ok (.iadd, 1) := by decide +kernel
theorem d_Reader_pass_17 : decode b_Reader_pass 17 = .ok (.putfield 23, 3) := by decide +kernel
theorem d_Reader_pass_20 : decode b_Reader_pass 20 = .ok (.iconst 1, 1) := by decide +kernel
theorem d_Reader_pass_21 : decode b_Reader_pass 21 = .ok (.ireturn, 1) := by decide +kernel
theorem d_Reader_passSign_0 : decode b_Reader_passSign 0 = .ok (.aload_n 0, 1) := by decide +kernel
theorem d_Reader_passSign_1 : decode b_Reader_passSign 1 = .ok (.bipush 60, 2) := by decide +kernel
theorem d_Reader_passSign_3 : decode b_Reader_passSign 3 = .ok (.invokevirtual 62, 3) := by decide +kernel
theorem d_Reader_passSign_6 : decode b_Reader_passSign 6 = .ok (.ifCond .ne 23, 3) := by decide +kernel
theorem d_Reader_passSign_9 : decode b_Reader_passSign 9 = .ok (.aload_n 0, 1) := by decide +kernel
theorem d_Reader_passSign_10 : decode b_Reader_passSign 10 = .ok (.bipush 62, 2) := by decide +kernel
theorem d_Reader_passSign_12 : decode b_Reader_passSign 12 = .ok (.invokevirtual 62, 3) := by decide +kernel
theorem d_Reader_passSign_15 : decode b_Reader_passSign 15 = .ok (.ifCond .ne 14, 3) := by decide +kernel
theorem d_Reader_passSign_18 : decode b_Reader_passSign 18 = .ok (.aload_n 0, 1) := by decide +kernel
theorem d_Reader_passSign_19 : decode b_Reader_passSign 19 = .ok (.bipush 61, 2) := by decide +kernel
theorem d_Reader_passSign_21 : decode b_Reader_passSign 21 = .ok (.invokevirtual 62, 3) := by decide +kernel
theorem d_Reader_passSign_24 : decode b_Reader_passSign 24 = .ok (.ifCond .ne 5, 3) := by decide +kernel
theorem d_Reader_passSign_27 : decode b_Reader_passSign 27 = .ok (.iconst 0, 1) := by decide +kernel
theorem d_Reader_passSign_28 : decode b_Reader_passSign 28 = .ok (.ireturn, 1) := by decide +kernel
theorem d_Reader_passSign_29 : decode b_Reader_passSign 29 = .ok (.aload_n 0, 1) := by decide +kernel
theorem d_Reader_passSign_30 : decode b_Reader_passSign 30 = .ok (.getfield 29, 3) := by decide +kernel
theorem d_Reader_passSign_33 : decode b_Reader_passSign 33 = .ok (.invokevirtual 113, 3) := by decide +kernel
theorem d_Reader_passSign_36 : decode b_Reader_passSign 36 = .ok (.iconst 1, 1) := by decide +kernel
theorem d_Reader_passSign_37 : decode b_Reader_passSign 37 = .ok (.ireturn, 1) := by decide +kernel
theorem d_Reader_print_0 : decode b_Reader_print 0 = .ok (.iconst 0, 1) := by decide +kernel
theorem d_Reader_print_1 : decode b_Reader_print 1 = .ok (.istore_n 1, 1) := by decide +kernel
theorem d_Reader_print_2 : decode b_Reader_print 2 = .ok (.iload_n 1, 1) := by decide +kernel
theorem d_Reader_print_3 : decode b_Reader_print 3 = .ok (.aload_n 0, 1) := by decide +kernel
theorem d_Reader_print_4 : decode b_Reader_print 4 = .ok (.getfield 19, 3) := by decide +kernel
theorem d_Reader_print_7 : decode b_Reader_print 7 = .ok (.if_icmp .ge 52, 3) := by decide +kernel
theorem d_Reader_print_10 : decode b_Reader_print 10 = .ok (.aload_n 0, 1) := by decide +kernel
theorem d_Reader_print_11 : decode b_Reader_print 11 = .ok (.getfield 15, 3) := by decide +kernel
theorem d_Reader_print_14 : decode b_Reader_print 14 = .ok (.iload_n 1, 1) := by decide +kernel
theorem d_Reader_print_15 : decode b_Reader_print 15 = .ok (.baload, 1) := by decide +kernel
theorem d_Reader_print_16 : decode b_Reader_print 16 = .ok (.ifCond .ne 37, 3) := by decide +kernel
theorem d_Reader_print_19 : decode b_Reader_print 19 = .ok (.aload_n 0, 1) := by decide +kernel
theorem d_Reader_print_20 : decode b_Reader_print 20 = .ok (.getfield 29, 3) := by decide +kernel
theorem d_Reader_print_23 : decode b_Reader_print 23 = .ok (.getfield 186, 3) := by decide +kernel
theorem d_Reader_print_26 : decode b_Reader_print 26 = .ok (.aload_n 0, 1) := by decide +kernel
theorem d_Reader_print_27 : decode b_Reader_print 27 = .ok (.getfield 29, 3) := by decide +kernel
theorem d_Reader_print_30 : decode b_Reader_print 30 = .ok (.getfield 189, 3) := by decide +kernel
theorem d_Reader_print_33 : decode b_Reader_print 33 = .ok (.aload_n 0, 1) := by decide +kernel
theorem d_Reader_print_34 : decode b_Reader_print 34 = .ok (.getfield 9, 3) := by decide +kernel
theorem d_Reader_print_37 : decode b_Reader_print 37 = .ok (.iload_n 1, 1) := by decide +kernel
theorem d_Reader_print_38 : decode b_Reader_print 38 = .ok (.caload, 1) := by decide +kernel
theorem d_Reader_print_39 : decode b_Reader_print 39 = .ok (.castore, 1) := by decide +kernel
theorem d_Reader_print_40 : decode b_Reader_print 40 = .ok (.aload_n 0, 1) := by decide +kernel
theorem d_Reader_print_41 : decode b_Reader_print 41 = .ok (.getfield 29, 3) := by decide +kernel
theorem d_Reader_print_44 : decode b_Reader_print 44 = .ok (.dup, 1) := by decide +kernel
theorem d_Reader_print_45 : decode b_Reader_print 45 = .ok (.getfield 189, 3) := by decide +kernel
theorem d_Reader_print_48 : decode b_Reader_print 48 = .ok (.iconst 1, 1) := by decide +kernel
theorem d_Reader_print_49 : decode b_Reader_print 49 = .ok (.iadd, 1) := by decide +kernel
theorem d_Reader_print_50 : decode b_Reader_print 50 = .ok (.putfield 189, 3) := by decide +kernel
theorem d_Reader_print_53 : decode b_Reader_print 53 = .ok (.iinc 1 1, 3) := by decide +kernel
theorem d_Reader_print_56 : decode b_Reader_print 56 = .ok (.goto (-54), 3) := by decide +kernel
theorem d_Reader_print_59 : decode b_Reader_print 59 = .ok (.return_, 1) := by decide +kernel
theorem d_Reader_readDigits_0 : decode b_Reader_readDigits 0 = .ok (.iload_n 1, 1) := by decide +kernel
theorem d_Reader_readDigits_1 : decode b_Reader_readDigits 1 = .ok (.istore_n 3, 1) := by decide +kernel
theorem d_Reader_readDigits_2 : decode b_Reader_readDigits 2 = .ok (.iconst 0, 1) := by decide +kernel
theorem d_Reader_readDigits_3 : decode b_Reader_readDigits 3 = .ok (.istore 4, 2) := by decide +kernel
theorem d_Reader_readDigits_5 : decode b_Reader_readDigits 5 = .ok (.iload 4, 2) := by decide +kernel
theorem d_Reader_readDigits_7 : decode b_Reader_readDigits 7 = .ok (.iload_n 2, 1) := by decide +kernel
theorem d_Reader_readDigits_8 : decode b_Reader_readDigits 8 = .ok (.if_icmp .ge 76, 3) := by decide +kernel
theorem d_Reader_readDigits_11 : decode b_Reader_readDigits 11 = .ok (.aload_n 0, 1) := by decide +kernel
theorem d_Reader_readDigits_12 : decode b_Reader_readDigits 12 = .ok (.getfield 23, 3) := by decide +kernel
theorem d_Reader_readDigits_15 : decode b_Reader_readDigits 15 = .ok (.aload_n 0, 1) := by decide +kernel
theorem d_Reader_readDigits_16 : decode b_Reader_readDigits 16 = .ok (.getfield 19, 3) := by decide +kernel
theorem d_Reader_readDigits_19 : decode b_Reader_readDigits 19 = .ok (.if_icmp .ge 65, 3) := by decide +kernel
theorem d_Reader_readDigits_22 : decode b_Reader_readDigits 22 = .ok (.aload_n 0, 1) := by decide +kernel
theorem d_Reader_readDigits_23 : decode b_Reader_readDigits 23 = .ok (.getfield 9, 3) := by decide +kernel
theorem d_Reader_readDigits_26 : decode b_Reader_readDigits 26 = .ok (.aload_n 0, 1) := by decide +kernel
theorem d_Reader_readDigits_27 : decode b_Reader_readDigits 27 = .ok (.getfield 23, 3) := by decide +kernel
theorem d_Reader_readDigits_30 : decode b_Reader_readDigits 30 = .ok (.caload, 1) := by decide +kernel
theorem d_Reader_readDigits_31 : decode b_Reader_readDigits 31 = .ok (.bipush 48, 2) := by decide +kernel
theorem d_Reader_readDigits_33 : decode b_Reader_readDigits 33 = .ok (.if_icmp .lt 51, 3) := by decide +kernel
theorem d_Reader_readDigits_36 : decode b_Reader_readDigits 36 = .ok (.aload_n 0, 1) := by decide +kernel
theorem d_Reader_readDigits_37 : decode b_Reader_readDigits 37 = .ok (.getfield 9, 3) := by decide +kernel
theorem d_Reader_readDigits_40 : decode b_Reader_readDigits 40 = .ok (.aload_n 0, 1) := by decide +kernel
theorem d_Reader_readDigits_41 : decode b_Reader_readDigits 41 = .ok (.getfield 23, 3) := by decide +kernel
theorem d_Reader_readDigits_44 : decode b_Reader_readDigits 44 = .ok (.caload, 1) := by decide +kernel
theorem d_Reader_readDigits_45 : decode b_Reader_readDigits 45 = .ok (.bipush 57, 2) := by decide +kernel
theorem d_Reader_readDigits_47 : decode b_Reader_readDigits 47 = .ok (.if_icmp .gt 37, 3) := by decide +kernel
theorem d_Reader_readDigits_50 : decode b_Reader_readDigits 50 = .ok (.bipush 10, 2) := by decide +kernel
theorem d_Reader_readDigits_52 : decode b_Reader_readDigits 52 = .ok (.iload_n 3, 1) := by decide +kernel
theorem d_Reader_readDigits_53 : decode b_Reader_readDigits 53 = .ok (.imul, 1) := by decide +kernel
theorem d_Reader_readDigits_54 : decode b_Reader_readDigits 54 = .ok (.aload_n 0, 1) := by decide +kernel
theorem d_Reader_readDigits_55 : decode b_Reader_readDigits 55 = .ok (.getfield 9, 3) := by decide +kernel
theorem d_Reader_readDigits_58 : decode b_Reader_readDigits 58 = .ok (.aload_n 0, 1) := by decide +kernel
theorem d_Reader_readDigits_59 : decode b_Reader_readDigits 59 = .ok (.getfield 23, 3) := by decide +kernel
theorem d_Reader_readDigits_62 : decode b_Reader_readDigits 62 = .ok (.caload, 1) := by decide +kernel
theorem d_Reader_readDigits_63 : decode b_Reader_readDigits 63 = .ok (.bipush 48, 2) := by decide +kernel
theorem d_Reader_readDigits_65 : decode b_Reader_readDigits 65 = .ok (.isub, 1) := by decide +kernel
theorem d_Reader_readDigits_66 : decode b_Reader_readDigits 66 = .ok (.iadd, 1) := by decide +kernel
theorem d_Reader_readDigits_67 : decode b_Reader_readDigits 67 = .ok (.istore_n 3, 1) := by decide +kernel
theorem d_Reader_readDigits_68 : decode b_Reader_readDigits 68 = .ok (.aload_n 0, 1) := by decide +kernel
theorem d_Reader_readDigits_69 : decode b_Reader_readDigits 69 = .ok (.dup, 1) := by decide +kernel
theorem d_Reader_readDigits_70 : decode b_Reader_readDigits 70 = .ok (.getfield 23, 3) := by decide +kernel
theorem d_Reader_readDigits_73 : decode b_Reader_readDigits 73 = .ok (.iconst 1, 1) := by decide +kernel
theorem d_Reader_readDigits_74 : decode b_Reader_readDigits 74 = .ok (.iadd, 1) := by decide +kernel
theorem d_Reader_readDigits_75 : decode b_Reader_readDigits 75 = .ok (.putfield 23, 3) := by decide +kernel
theorem d_Reader_readDigits_78 : decode b_Reader_readDigits 78 = .ok (.iinc 4 1, 3) := by decide +kernel
theorem d_Reader_readDigits_81 : decode b_Reader_readDigits 81 = .ok (.goto (-76), 3) := by decide +kernel
theorem d_Reader_readDigits_84 : decode b_Reader_readDigits 84 = .ok (.iload_n 3, 1) := by decide +kernel
theorem d_Reader_readDigits_85 : decode b_Reader_readDigits 85 = .ok (.ireturn, 1) := by decide +kernel
theorem d_Reader_readNumber_0 : decode b_Reader_readNumber 0 = .ok (.aload_n 0, 1) := by decide +kernel
theorem d_Reader_readNumber_1 : decode b_Reader_readNumber 1 = .ok (.getfield 23, 3) := by decide +kernel
theorem d_Reader_readNumber_4 : decode b_Reader_readNumber 4 = .ok (.istore_n 1, 1) := by decide +kernel
theorem d_Reader_readNumber_5 : decode b_Reader_readNumber 5 = .ok (.aload_n 0, 1) := by decide +kernel
theorem d_Reader_readNumber_6 : decode b_Reader_readNumber 6 = .ok (.iconst 0, 1) := by decide +kernel
theorem d_Reader_readNumber_7 : decode b_Reader_readNumber 7 = .ok (.iconst 5, 1) := by decide +kernel
theorem d_Reader_readNumber_8 : decode b_Reader_readNumber 8 = .ok (.invokevirtual 156, 3) := by decide +kernel
theorem d_Reader_readNumber_11 : decode b_Reader_readNumber 11 = .ok (.istore_n 2, 1) := by decide +kernel
theorem d_Reader_readNumber_12 : decode b_Reader_readNumber 12 = .ok (.iload_n 1, 1) := by decide +kernel
theorem d_Reader_readNumber_13 : decode b_Reader_readNumber 13 = .ok (.istore_n 3, 1) := by decide +kernel
theorem d_Reader_readNumber_14 : decode b_Reader_readNumber 14 = .ok (.iload_n 3, 1) := by decide +kernel
theorem d_Reader_readNumber_15 : decode b_Reader_readNumber 15 = .ok (.aload_n 0, 1) := by decide +kernel
theorem d_Reader_readNumber_16 : decode b_Reader_readNumber 16 = .ok (.getfield 23, 3) := by decide +kernel
theorem d_Reader_readNumber_19 : decode b_Reader_readNumber 19 = .ok (.iconst 1, 1) := by decide +kernel
theorem d_Reader_readNumber_20 : decode b_Reader_readNumber 20 = .ok (.isub, 1) := by decide +kernel
theorem d_Reader_readNumber_21 : decode b_Reader_readNumber 21 = .ok (.if_icmp .ge 27, 3) := by decide +kernel
theorem d_Reader_readNumber_24 : decode b_Reader_readNumber 24 = .ok (.aload_n 0, 1) := by decide +kernel
theorem d_Reader_readNumber_25 : decode b_Reader_readNumber 25 = .ok (.getfield 9, 3) := by decide +kernel
theorem d_Reader_readNumber_28 : decode b_Reader_readNumber 28 = .ok (.iload_n 3, 1) := by decide +kernel
theorem d_Reader_readNumber_29 : decode b_Reader_readNumber 29 = .ok (.caload, 1) := by decide +kernel
theorem d_Reader_readNumber_30 : decode b_Reader_readNumber 30 = .ok (.bipush 48, 2) := by decide +kernel
theorem d_Reader_readNumber_32 : decode b_Reader_readNumber 32 = .ok (.if_icmp .ne 16, 3) := by decide +kernel
theorem d_Reader_readNumber_35 : decode b_Reader_readNumber 35 = .ok (.aload_n 0, 1) := by decide +kernel
theorem d_Reader_readNumber_36 : decode b_Reader_readNumber 36 = .ok (.getfield 15, 3) := by decide +kernel
theorem d_Reader_readNumber_39 : decode b_Reader_readNumber 39 = .ok (.iload_n 3, 1) := by decide +kernel
theorem d_Reader_readNumber_40 : decode b_Reader_readNumber 40 = .ok (.iconst 1, 1) := by decide +kernel
theorem d_Reader_readNumber_41 : decode b_Reader_readNumber 41 = .ok (.bastore, 1) := by decide +kernel
theorem d_Reader_readNumber_42 : decode b_Reader_readNumber 42 = .ok (.iinc 3 1, 3) := by decide +kernel
theorem d_Reader_readNumber_45 : decode b_Reader_readNumber 45 = .ok (.goto (-31), 3) := by decide +kernel
theorem d_Reader_readNumber_48 : decode b_Reader_readNumber 48 = .ok (.iconst 1, 1) := by decide +kernel
theorem d_Reader_readNumber_49 : decode b_Reader_readNumber 49 = .ok (.istore_n 3, 1) := by decide +kernel
theorem d_Reader_readNumber_50 : decode b_Reader_readNumber 50 = .ok (.aload_n 0, 1) := by decide +kernel
theorem d_Reader_readNumber_51 : decode b_Reader_readNumber 51 = .ok (.getfield 23, 3) := by decide +kernel
theorem d_Reader_readNumber_54 : decode b_Reader_readNumber 54 = .ok (.istore 4, 2) := by decide +kernel
theorem d_Reader_readNumber_56 : decode b_Reader_readNumber 56 = .ok (.aload_n 0, 1) := by decide +kernel
theorem d_Reader_readNumber_57 : decode b_Reader_readNumber 57 = .ok (.invokevirtual 78, 3) := by decide +kernel
theorem d_Reader_readNumber_60 : decode b_Reader_readNumber 60 = .ok (.bipush 46, 2) := by decide +kernel
theorem d_Reader_readNumber_62 : decode b_Reader_readNumber 62 = .ok (.if_icmp .ne 65, 3) := by decide +kernel
theorem d_Reader_readNumber_65 : decode b_Reader_readNumber 65 = .ok (.aload_n 0, 1) := by decide +kernel
theorem d_Reader_readNumber_66 : decode b_Reader_readNumber 66 = .ok (.dup, 1) := by decide +kernel
theorem d_Reader_readNumber_67 : decode b_Reader_readNumber 67 = .ok (.getfield 23, 3) := by decide +kernel
theorem d_Reader_readNumber_70 : decode b_Reader_readNumber 70 = .ok (.iconst 1, 1) := by decide +kernel
theorem d_Reader_readNumber_71 : decode b_Reader_readNumber 71 = .ok (.iadd, 1) := by decide +kernel
theorem d_Reader_readNumber_72 : decode b_Reader_readNumber 72 = .ok (.putfield 23, 3) := by decide +kernel
theorem d_Reader_readNumber_75 : decode b_Reader_readNumber 75 = .ok (.aload_n 0, 1) := by decide +kernel
theorem d_Reader_readNumber_76 : decode b_Reader_readNumber 76 = .ok (.iload_n 2, 1) := by decide +kernel
theorem d_Reader_readNumber_77 : decode b_Reader_readNumber 77 = .ok (.iconst 3, 1) := by decide +kernel
theorem d_Reader_readNumber_78 : decode b_Reader_readNumber 78 = .ok (.invokevirtual 156, 3) := by decide +kernel
theorem d_Reader_readNumber_81 : decode b_Reader_readNumber 81 = .ok (.istore_n 2, 1) := by decide +kernel
theorem d_Reader_readNumber_82 : decode b_Reader_readNumber 82 = .ok (.aload_n 0, 1) := by decide +kernel
theorem d_Reader_readNumber_83 : decode b_Reader_readNumber 83 = .ok (.getfield 23, 3) := by decide +kernel
theorem d_Reader_readNumber_86 : decode b_Reader_readNumber 86 = .ok (.iload 4, 2) := by decide +kernel
theorem d_Reader_readNumber_88 : decode b_Reader_readNumber 88 = .ok (.iconst 1, 1) := by decide +kernel
theorem d_Reader_readNumber_89 : decode b_Reader_readNumber 89 = .ok (.iadd, 1) := by decide +kernel
theorem d_Reader_readNumber_90 : decode b_Reader_readNumber 90 = .ok (.if_icmp .ne 5, 3) := by decide +kernel
theorem d_Reader_readNumber_93 : decode b_Reader_readNumber 93 = .ok (.iconst 0, 1) := by decide +kernel
theorem d_Reader_readNumber_94 : decode b_Reader_readNumber 94 = .ok (.ireturn, 1) := by decide +kernel
theorem d_Reader_readNumber_95 : decode b_Reader_readNumber 95 = .ok (.iload 4, 2) := by decide +kernel
theorem d_Reader_readNumber_97 : decode b_Reader_readNumber 97 = .ok (.iconst 1, 1) := by decide +kernel
theorem d_Reader_readNumber_98 : decode b_Reader_readNumber 98 = .ok (.iadd, 1) := by decide +kernel
theorem d_Reader_readNumber_99 : decode b_Reader_readNumber 99 = .ok (.istore 5, 2) := by decide +kernel
theorem d_Reader_readNumber_101 : decode b_Reader_readNumber 101 = .ok (.iload 5, 2) := by decide +kernel
theorem d_Reader_readNumber_103 : decode b_Reader_readNumber 103 = .ok (.aload_n 0, 1) := by decide +kernel
theorem d_Reader_readNumber_104 : decode b_Reader_readNumber 104 = .ok (.getfield 23, 3) := by decide +kernel
theorem d_Reader_readNumber_107 : decode b_Reader_readNumber 107 = .ok (.if_icmp .ge 14, 3) := by decide +kernel
theorem d_Reader_readNumber_110 : decode b_Reader_readNumber 110 = .ok (.iload_n 3, 1) := by decide +kernel
theorem d_Reader_readNumber_111 : decode b_Reader_readNumber 111 = .ok (.bipush 10, 2) := by decide +kernel
theorem d_Reader_readNumber_113 : decode b_Reader_readNumber 113 = .ok (.imul, 1) := by decide +kernel
theorem d_Reader_readNumber_114 : decode b_Reader_readNumber 114 = .ok (.istore_n 3, 1) := by decide +kernel
theorem d_Reader_readNumber_115 : decode b_Reader_readNumber 115 = .ok (.iinc 5 1, 3) := by decide +kernel
theorem d_Reader_readNumber_118 : decode b_Reader_readNumber 118 = .ok (.goto (-17), 3) := by decide +kernel
theorem d_Reader_readNumber_121 : decode b_Reader_readNumber 121 = .ok (.aload_n 0, 1) := by decide +kernel
theorem d_Reader_readNumber_122 : decode b_Reader_readNumber 122 = .ok (.iload 4, 2) := by decide +kernel
theorem d_Reader_readNumber_124 : decode b_Reader_readNumber 124 = .ok (.invokevirtual 160, 3) := by decide +kernel
theorem d_Reader_readNumber_127 : decode b_Reader_readNumber 127 = .ok (.aload_n 0, 1) := by decide +kernel
theorem d_Reader_readNumber_128 : decode b_Reader_readNumber 128 = .ok (.getfield 29, 3) := by decide +kernel
theorem d_Reader_readNumber_131 : decode b_Reader_readNumber 131 = .ok (.getfield 128, 3) := by decide +kernel
theorem d_Reader_readNumber_134 : decode b_Reader_readNumber 134 = .ok (.iconst 1, 1) := by decide +kernel
theorem d_Reader_readNumber_135 : decode b_Reader_readNumber 135 = .ok (.iload_n 2, 1) := by decide +kernel
theorem d_Reader_readNumber_136 : decode b_Reader_readNumber 136 = .ok (.iload_n 3, 1) := by decide +kernel
theorem d_Reader_readNumber_137 : decode b_Reader_readNumber 137 = .ok (.invokevirtual 163, 3) := by decide +kernel
theorem d_Reader_readNumber_140 : decode b_Reader_readNumber 140 = .ok (.iconst 1, 1) := by decide +kernel
theorem d_Reader_readNumber_141 : decode b_Reader_readNumber 141 = .ok (.ireturn, 1) := by decide +kernel
theorem d_Reader_readOperator_0 : decode b_Reader_readOperator 0 = .ok (.aload_n 0, 1) := by decide +kernel
theorem d_Reader_readOperator_1 : decode b_Reader_readOperator 1 = .ok (.invokevirtual 78, 3) := by decide +kernel
theorem d_Reader_readOperator_4 : decode b_Reader_readOperator 4 = .ok (.invokestatic 174, 3) := by decide +kernel
theorem d_Reader_readOperator_7 : decode b_Reader_readOperator 7 = .ok (.istore_n 1, 1) := by decide +kernel
theorem d_Reader_readOperator_8 : decode b_Reader_readOperator 8 = .ok (.iload_n 1, 1) := by decide +kernel
theorem d_Reader_readOperator_9 : decode b_Reader_readOperator 9 = .ok (.ifCond .ne 5, 3) := by decide +kernel
theorem d_Reader_readOperator_12 : decode b_Reader_readOperator 12 = .ok (.iconst 0, 1) := by decide +kernel
theorem d_Reader_readOperator_13 : decode b_Reader_readOperator 13 = .ok (.ireturn, 1) := by decide +kernel
theorem d_Reader_readOperator_14 : decode b_Reader_readOperator 14 = .ok (.iload_n 1, 1) := by decide +kernel
theorem d_Reader_readOperator_15 : decode b_Reader_readOperator 15 = .ok (.invokestatic 178, 3) := by decide +kernel
theorem d_Reader_readOperator_18 : decode b_Reader_readOperator 18 = .ok (.istore_n 2, 1) := by decide +kernel
theorem d_Reader_readOperator_19 : decode b_Reader_readOperator 19 = .ok (.aload_n 0, 1) := by decide +kernel
theorem d_Reader_readOperator_20 : decode b_Reader_readOperator 20 = .ok (.iload_n 2, 1) := by decide +kernel
theorem d_Reader_readOperator_21 : decode b_Reader_readOperator 21 = .ok (.invokevirtual 125, 3) := by decide +kernel
theorem d_Reader_readOperator_24 : decode b_Reader_readOperator 24 = .ok (.aload_n 0, 1) := by decide +kernel
theorem d_Reader_readOperator_25 : decode b_Reader_readOperator 25 = .ok (.iload_n 1, 1) := by decide +kernel
theorem d_Reader_readOperator_26 : decode b_Reader_readOperator 26 = .ok (.invokevirtual 138, 3) := by decide +kernel
theorem d_Reader_readOperator_29 : decode b_Reader_readOperator 29 = .ok (.aload_n 0, 1) := by decide +kernel
theorem d_Reader_readOperator_30 : decode b_Reader_readOperator 30 = .ok (.getfield 43, 3) := by decide +kernel
theorem d_Reader_readOperator_33 : decode b_Reader_readOperator 33 = .ok (.aload_n 0, 1) := by decide +kernel
theorem d_Reader_readOperator_34 : decode b_Reader_readOperator 34 = .ok (.getfield 49, 3) := by decide +kernel
theorem d_Reader_readOperator_37 : decode b_Reader_readOperator 37 = .ok (.aload_n 0, 1) := by decide +kernel
theorem d_Reader_readOperator_38 : decode b_Reader_readOperator 38 = .ok (.getfield 43, 3) := by decide +kernel
theorem d_Reader_readOperator_41 : decode b_Reader_readOperator 41 = .ok (.aload_n 0, 1) := by decide +kernel
theorem d_Reader_readOperator_42 : decode b_Reader_readOperator 42 = .ok (.getfield 49, 3) := by decide +kernel
theorem d_Reader_readOperator_45 : decode b_Reader_readOperator 45 = .ok (.iaload, 1) := by decide +kernel
theorem d_Reader_readOperator_46 : decode b_Reader_readOperator 46 = .ok (.iload_n 2, 1) := by decide +kernel
theorem d_Reader_readOperator_47 : decode b_Reader_readOperator 47 = .ok (.invokestatic 181, 3) := by decide +kernel
theorem d_Reader_readOperator_50 : decode b_Reader_readOperator 50 = .ok (.iastore, 1) := by decide +kernel
theorem d_Reader_readOperator_51 : decode b_Reader_readOperator 51 = .ok (.aload_n 0, 1) := by decide +kernel
theorem d_Reader_readOperator_52 : decode b_Reader_readOperator 52 = .ok (.dup, 1) := by decide +kernel
theorem d_Reader_readOperator_53 : decode b_Reader_readOperator 53 = .ok (.getfield 23, 3) := by decide +kernel
theorem d_Reader_readOperator_56 : decode b_Reader_readOperator 56 = .ok (.iconst 1, 1) := by decide +kernel
theorem d_Reader_readOperator_57 : decode b_Reader_readOperator 57 = .ok (.iadd, 1) := by decide +kernel
theorem d_Reader_readOperator_58 : decode b_Reader_readOperator 58 = .ok (.putfield 23, 3) := by decide +kernel
theorem d_Reader_readOperator_61 : decode b_Reader_readOperator 61 = .ok (.iconst 1, 1) := by decide +kernel
theorem d_Reader_readOperator_62 : decode b_Reader_readOperator 62 = .ok (.ireturn, 1) := by decide +kernel
theorem d_Reader_releaseNegations_0 : decode b_Reader_releaseNegations 0 = .ok (.aload_n 0, 1) := by decide +kernel
theorem d_Reader_releaseNegations_1 : decode b_Reader_releaseNegations 1 = .ok (.getfield 37, 3) := by decide +kernel
theorem d_Reader_releaseNegations_4 : decode b_Reader_releaseNegations 4 = .ok (.ifCond .le 47, 3) := by decide +kernel
theorem d_Reader_releaseNegations_7 : decode b_Reader_releaseNegations 7 = .ok (.aload_n 0, 1) := by decide +kernel
theorem d_Reader_releaseNegations_8 : decode b_Reader_releaseNegations 8 = .ok (.invokevirtual 167, 3) := by decide +kernel
theorem d_Reader_releaseNegations_11 : decode b_Reader_releaseNegations 11 = .ok (.iconst 4, 1) := by decide +kernel
theorem d_Reader_releaseNegations_12 : decode b_Reader_releaseNegations 12 = .ok (.if_icmp .ne 39, 3) := by decide +kernel
theorem d_Reader_releaseNegations_15 : decode b_Reader_releaseNegations 15 = .ok (.aload_n 0, 1) := by decide +kernel
theorem d_Reader_releaseNegations_16 : decode b_Reader_releaseNegations 16 = .ok (.getfield 29, 3) := by decide +kernel
theorem d_Reader_releaseNegations_19 : decode b_Reader_releaseNegations 19 = .ok (.getfield 128, 3) := by decide +kernel
theorem d_Reader_releaseNegations_22 : decode b_Reader_releaseNegations 22 = .ok (.iconst 4, 1) := by decide +kernel
theorem d_Reader_releaseNegations_23 : decode b_Reader_releaseNegations 23 = .ok (.iconst 0, 1) := by decide +kernel
theorem d_Reader_releaseNegations_24 : decode b_Reader_releaseNegations 24 = .ok (.iconst 0, 1) := by decide +kernel
theorem d_Reader_releaseNegations_25 : decode b_Reader_releaseNegations 25 = .ok (.invokevirtual 163, 3) := by decide +kernel
theorem d_Reader_releaseNegations_28 : decode b_Reader_releaseNegations 28 = .ok (.aload_n 0, 1) := by decide +kernel
theorem d_Reader_releaseNegations_29 : decode b_Reader_releaseNegations 29 = .ok (.dup, 1) := by decide +kernel
theorem d_Reader_releaseNegations_30 : decode b_Reader_releaseNegations 30 = .ok (.getfield 37, 3) := by decide +kernel
theorem d_Reader_releaseNegations_33 : decode b_Reader_releaseNegations 33 = .ok (.iconst 1, 1) := by decide +kernel
theorem d_Reader_releaseNegations_34 : decode b_Reader_releaseNegations 34 = .ok (.isub, 1) := by decide +kernel
theorem d_Reader_releaseNegations_35 : decode b_Reader_releaseNegations 35 = .ok (.putfield 37, 3) := by decide +kernel
theorem d_Reader_releaseNegations_38 : decode b_Reader_releaseNegations 38 = .ok (.aload_n 0, 1) := by decide +kernel
theorem d_Reader_releaseNegations_39 : decode b_Reader_releaseNegations 39 = .ok (.dup, 1) := by decide +kernel
theorem d_Reader_releaseNegations_40 : decode b_Reader_releaseNegations 40 = .ok (.getfield 52, 3) := by decide +kernel
theorem d_Reader_releaseNegations_43 : decode b_Reader_releaseNegations 43 = .ok (.iconst 1, 1) := by decide +kernel
theorem d_Reader_releaseNegations_44 : decode b_Reader_releaseNegations 44 = .ok (.isub, 1) := by decide +kernel
theorem d_Reader_releaseNegations_45 : decode b_Reader_releaseNegations 45 = .ok (.putfield 52, 3) := by decide +kernel
theorem d_Reader_releaseNegations_48 : decode b_Reader_releaseNegations 48 = .ok (.goto (-48), 3) := by decide +kernel
theorem d_Reader_releaseNegations_51 : decode b_Reader_releaseNegations 51 = .ok (.return_, 1) := by decide +kernel
theorem d_Reader_releaseWaiting_0 : decode b_Reader_releaseWaiting 0 = .ok (.aload_n 0, 1) := by decide +kernel
theorem d_Reader_releaseWaiting_1 : decode b_Reader_releaseWaiting 1 = .ok (.getfield 37, 3) := by decide +kernel
theorem d_Reader_releaseWaiting_4 : decode b_Reader_releaseWaiting 4 = .ok (.ifCond .le 57, 3) := by decide +kernel
theorem d_Reader_releaseWaiting_7 : decode b_Reader_releaseWaiting 7 = .ok (.aload_n 0, 1) := by decide +kernel
theorem d_Reader_releaseWaiting_8 : decode b_Reader_releaseWaiting 8 = .ok (.invokevirtual 167, 3) := by decide +kernel
theorem d_Reader_releaseWaiting_11 : decode b_Reader_releaseWaiting 11 = .ok (.bipush 9, 2) := by decide +kernel
theorem d_Reader_releaseWaiting_13 : decode b_Reader_releaseWaiting 13 = .ok (.if_icmp .eq 48, 3) := by decide +kernel
theorem d_Reader_releaseWaiting_16 : decode b_Reader_releaseWaiting 16 = .ok (.iload_n 1, 1) := by decide +kernel
theorem d_Reader_releaseWaiting_17 : decode b_Reader_releaseWaiting 17 = .ok (.iconst 1, 1) := by decide +kernel
theorem d_Reader_releaseWaiting_18 : decode b_Reader_releaseWaiting 18 = .ok (.if_icmp .ne 14, 3) := by decide +kernel
theorem d_Reader_releaseWaiting_21 : decode b_Reader_releaseWaiting 21 = .ok (.aload_n 0, 1) := by decide +kernel
theorem d_Reader_releaseWaiting_22 : decode b_Reader_releaseWaiting 22 = .ok (.invokevirtual 167, 3) := by decide +kernel
theorem d_Reader_releaseWaiting_25 : decode b_Reader_releaseWaiting 25 = .ok (.invokestatic 178, 3) := by decide +kernel
theorem d_Reader_releaseWaiting_28 : decode b_Reader_releaseWaiting 28 = .ok (.iconst 1, 1) := by decide +kernel
theorem d_Reader_releaseWaiting_29 : decode b_Reader_releaseWaiting 29 = .ok (.if_icmp .ne 32, 3) := by decide +kernel
theorem d_Reader_releaseWaiting_32 : decode b_Reader_releaseWaiting 32 = .ok (.aload_n 0, 1) := by decide +kernel
theorem d_Reader_releaseWaiting_33 : decode b_Reader_releaseWaiting 33 = .ok (.getfield 29, 3) := by decide +kernel
theorem d_Reader_releaseWaiting_36 : decode b_Reader_releaseWaiting 36 = .ok (.getfield 128, 3) := by decide +kernel
theorem d_Reader_releaseWaiting_39 : decode b_Reader_releaseWaiting 39 = .ok (.aload_n 0, 1) := by decide +kernel
theorem d_Reader_releaseWaiting_40 : decode b_Reader_releaseWaiting 40 = .ok (.invokevirtual 167, 3) := by decide +kernel
theorem d_Reader_releaseWaiting_43 : decode b_Reader_releaseWaiting 43 = .ok (.iconst 0, 1) := by decide +kernel
theorem d_Reader_releaseWaiting_44 : decode b_Reader_releaseWaiting 44 = .ok (.iconst 0, 1) := by decide +kernel
theorem d_Reader_releaseWaiting_45 : decode b_Reader_releaseWaiting 45 = .ok (.invokevirtual 163, 3) := by decide +kernel
theorem d_Reader_releaseWaiting_48 : decode b_Reader_releaseWaiting 48 = .ok (.aload_n 0, 1) := by decide +kernel
theorem d_Reader_releaseWaiting_49 : decode b_Reader_releaseWaiting 49 = .ok (.dup, 1) := by decide +kernel
theorem d_Reader_releaseWaiting_50 : decode b_Reader_releaseWaiting 50 = .ok (.getfield 37, 3) := by decide +kernel
theorem d_Reader_releaseWaiting_53 : decode b_Reader_releaseWaiting 53 = .ok (.iconst 1, 1) := by decide +kernel
theorem d_Reader_releaseWaiting_54 : decode b_Reader_releaseWaiting 54 = .ok (.isub, 1) := by decide +kernel
theorem d_Reader_releaseWaiting_55 : decode b_Reader_releaseWaiting 55 = .ok (.putfield 37, 3) := by decide +kernel
theorem d_Reader_releaseWaiting_58 : decode b_Reader_releaseWaiting 58 = .ok (.goto (-58), 3) := by decide +kernel
theorem d_Reader_releaseWaiting_61 : decode b_Reader_releaseWaiting 61 = .ok (.return_, 1) := by decide +kernel
theorem d_Reader_shapeBy_0 : decode b_Reader_shapeBy 0 = .ok (.iload_n 0, 1) := by decide +kernel
theorem d_Reader_shapeBy_1 : decode b_Reader_shapeBy 1 = .ok (.iconst 5, 1) := by decide +kernel
theorem d_Reader_shapeBy_2 : decode b_Reader_shapeBy 2 = .ok (.if_icmp .eq 9, 3) := by decide +kernel
theorem d_Reader_shapeBy_5 : decode b_Reader_shapeBy 5 = .ok (.iload_n 0, 1) := by decide +kernel
theorem d_Reader_shapeBy_6 : decode b_Reader_shapeBy 6 = .ok (.bipush 6, 2) := by decide +kernel
theorem d_Reader_shapeBy_8 : decode b_Reader_shapeBy 8 = .ok (.if_icmp .ne 7, 3) := by decide +kernel
theorem d_Reader_shapeBy_11 : decode b_Reader_shapeBy 11 = .ok (.iconst 2, 1) := by decide +kernel
theorem d_Reader_shapeBy_12 : decode b_Reader_shapeBy 12 = .ok (.goto 4, 3) := by decide +kernel
theorem d_Reader_shapeBy_15 : decode b_Reader_shapeBy 15 = .ok (.iconst 1, 1) := by decide +kernel
theorem d_Reader_shapeBy_16 : decode b_Reader_shapeBy 16 = .ok (.ireturn, 1) := by decide +kernel
def F_Reader_collect (x1 : Int32) (o0 : Ob) : Option (Bool × Ob) :=
  if (g32 o0 2 0) < (400 : Int32) then (chk (inb (g32 o0 2 0) 400) (some (true, (s32 (s32 (s32 o0 0 (Int32.toNatClampNeg (g32 o0 2 0)) (vp_nar .char x1)) 1 (Int32.toNatClampNeg (g32 o0 2 0)) (vp_nar .boolean (0 : Int32))) 2 0 ((g32 o0 2 0) + (1 : Int32)))))) else (some (false, o0))
abbrev ws_Reader_collect : List Cond := Cond.code y_Reader_collect b_Reader_collect 2 (some .boolean) :: wsAll
abbrev rm_Reader_collect : Room := { frames := 0, cells := 0, slots := 0, locals := 0 }
set_option maxHeartbeats 4000000 in
set_option maxRecDepth 100000 in
theorem c_Reader_collect (l : Launch) (ct dC : Nat → ClassId) (dI : Nat → Nat → Nat) (a0 : Nat → Nat) (r0_4 : Nat) (sz : Nat) (x1 : Int32) (o0 : Ob) (r : Bool) (n0 : Ob) (hF : F_Reader_collect x1 o0 = some (r, n0)) : Met l y_Reader_collect ws_Reader_collect rm_Reader_collect (bw_Pc [.ref (a0 0), .int x1] (dC, dI) vwCl (tyA ct) [wReader ct a0 r0_4 o0] sz nx) (bw_Q (dC, dI) vwCl (some (.int (b2i r))) [wReader ct a0 r0_4 n0] (bw_A [adReader a0] sz)) 0 0 (bw_A [adReader a0] sz) := by
  refine Met.ofW (cc := b_Reader_collect) (maxL := 2) (ret := (some .boolean)) (by decide) rfl ?_
  intro p e s m args below meth c s₁ B hml hv
  obtain ⟨rfl, hsz, hP, hK, hN0, hnx⟩ := hv
  have hx := B.exec
  have hb := B.bytes
  have hr := B.returns
  have hts : ∀ w ∈ wsAll, w.before [.ref (a0 0), .int x1].toArray s = true := fun w h9 => atoms_spec (ws := ws_Reader_collect) B.pre w (List.mem_cons_of_mem _ h9)
  have hown : s.vm.findClass R_Reader = some m.cls := findClass_of_methodNamed B.named
  have hlocks := B.notSynchronized
  subst hsz
  have hN : bw_N (bw_A [adReader a0] s.heap.size) [adReader a0] := hN0.self s.heap.size
  generalize hAe : bw_A [adReader a0] s.heap.size = A at hN ⊢
  have hA : ∀ q : Nat, s.heap.size ≤ q → A q := fun q h => by rw [← hAe]; exact Or.inr h
  have hS : va_S A s.heap s.heap [] := va_S.rf
  have hl := lv_entry ([.ref (a0 0), .int x1]) (n := 2) (Nat.le_of_ble_eq_true rfl)
  rw [lg_entry_eq]
  generalize (lg_sl ([.ref (a0 0), .int x1]) ++ List.replicate (2 - (lg_sl ([.ref (a0 0), .int x1])).length) Slot.unset).toArray = ls at hl ⊢
  have hl : lv_has ls 2 [(0, .ref (a0 0)), (1, .int x1)] := hl
  have C0 : cx wsAll vwCl nx p s m [.ref (a0 0), .int x1].toArray meth c (dC, dI) (tyA ct) b_Reader_collect 2 (some .boolean) R_Reader A [adReader a0] := ⟨hx, hb, hr, hml, hown, hlocks, hts, hK, hN, hA, hnx⟩
  have h := hF
  rw [F_Reader_collect] at h
  refine lv_aload_n hx hb d_Reader_collect_0 rfl (lv_at hl 0 rfl) ?_
  refine va_get (D := (dC, dI)) (ci := 3) (v := .int (g32 o0 2 0)) (C := R_Reader) (T := T_Reader) (N := 12) hx hb hts in_Reader hown hK (hP 0 _ rfl) 0 rfl rfl 2 (by decide) (hts _ fl_Reader_19) (fun _ h9 => h9) rfl d_Reader_collect_1 ?_
  refine lv_sipush (v := 400) hx hb d_Reader_collect_4 (by decide) ?_
  refine lv_icmp_lt (tgt := 12) hx hb d_Reader_collect_7 (by decide) (fun c1 => ?_) (fun c1 => ?_)
  · have h := ite_t c1 h
    refine lv_aload_n hx hb d_Reader_collect_12 rfl (lv_at hl 0 rfl) ?_
    refine va_get (D := (dC, dI)) (ci := 3) (v := .ref (a0 1)) (C := R_Reader) (T := T_Reader) (N := 12) hx hb hts in_Reader hown hK (hP 0 _ rfl) 0 rfl rfl 0 (by decide) (hts _ fl_Reader_9) (fun _ h9 => h9) rfl d_Reader_collect_13 ?_
    refine lv_aload_n hx hb d_Reader_collect_16 rfl (lv_at hl 0 rfl) ?_
    refine va_get (D := (dC, dI)) (ci := 3) (v := .int (g32 o0 2 0)) (C := R_Reader) (T := T_Reader) (N := 12) hx hb hts in_Reader hown hK (hP 0 _ rfl) 0 rfl rfl 2 (by decide) (hts _ fl_Reader_19) (fun _ h9 => h9) rfl d_Reader_collect_17 ?_
    refine lv_iload_n hx hb d_Reader_collect_20 rfl (lv_at hl 1 rfl) ?_
    obtain ⟨hi2, h⟩ := chk_some h
    refine st_Reader_0 hx hb hK hP hN hS 0 rfl (inb_in hi2) d_Reader_collect_21 (fun H locs hP hS => ?_)
    have hP : bw_P (dC, dI) vwCl [wReader ct a0 r0_4 (s32 o0 0 (Int32.toNatClampNeg (g32 o0 2 0)) (vp_nar .char x1))] H := hP
    refine lv_aload_n hx hb d_Reader_collect_22 rfl (lv_at hl 0 rfl) ?_
    refine va_get (D := (dC, dI)) (ci := 3) (v := .ref (a0 2)) (C := R_Reader) (T := T_Reader) (N := 12) hx hb hts in_Reader hown hK (hP 0 _ rfl) 0 rfl rfl 1 (by decide) (hts _ fl_Reader_15) (fun _ h9 => h9) rfl d_Reader_collect_23 ?_
    refine lv_aload_n hx hb d_Reader_collect_26 rfl (lv_at hl 0 rfl) ?_
    refine va_get (D := (dC, dI)) (ci := 3) (v := .int (g32 o0 2 0)) (C := R_Reader) (T := T_Reader) (N := 12) hx hb hts in_Reader hown hK (hP 0 _ rfl) 0 rfl rfl 2 (by decide) (hts _ fl_Reader_19) (fun _ h9 => h9) rfl d_Reader_collect_27 ?_
    refine lv_iconst (v := 0) hx hb d_Reader_collect_30 (by decide) ?_
    refine st_Reader_1 hx hb hK hP hN hS 0 rfl (inb_in hi2) d_Reader_collect_31 (fun H locs hP hS => ?_)
    have hP : bw_P (dC, dI) vwCl [wReader ct a0 r0_4 (s32 (s32 o0 0 (Int32.toNatClampNeg (g32 o0 2 0)) (vp_nar .char x1)) 1 (Int32.toNatClampNeg (g32 o0 2 0)) (vp_nar .boolean (0 : Int32)))] H := hP
    refine lv_aload_n hx hb d_Reader_collect_32 rfl (lv_at hl 0 rfl) ?_
    refine lv_dup hx hb d_Reader_collect_33 rfl ?_
    refine va_get (D := (dC, dI)) (ci := 3) (v := .int (g32 o0 2 0)) (C := R_Reader) (T := T_Reader) (N := 12) hx hb hts in_Reader hown hK (hP 0 _ rfl) 0 rfl rfl 2 (by decide) (hts _ fl_Reader_19) (fun _ h9 => h9) rfl d_Reader_collect_34 ?_
    refine lv_iconst (v := 1) hx hb d_Reader_collect_37 (by decide) ?_
    refine lv_iadd hx hb d_Reader_collect_38 ?_
    refine pt_Reader_2 hx hb hts hown hK hP hN hS 0 rfl (hts _ fl_Reader_19) d_Reader_collect_39 (fun H locs hP hS => ?_)
    have hP : bw_P (dC, dI) vwCl [wReader ct a0 r0_4 (s32 (s32 (s32 o0 0 (Int32.toNatClampNeg (g32 o0 2 0)) (vp_nar .char x1)) 1 (Int32.toNatClampNeg (g32 o0 2 0)) (vp_nar .boolean (0 : Int32))) 2 0 ((g32 o0 2 0) + (1 : Int32)))] H := hP
    refine lv_iconst (v := 1) hx hb d_Reader_collect_42 (by decide) ?_
    obtain ⟨rfl, rfl⟩ := res2 h
    exact W.zret hx hb hr rfl (fun t ht hW => ⟨rfl, by rw [ht]; exact hP, hS.F ht⟩) hS.2.2 d_Reader_collect_43
  · have h := ite_f c1 h
    refine lv_iconst (v := 0) hx hb d_Reader_collect_10 (by decide) ?_
    obtain ⟨rfl, rfl⟩ := res2 h
    exact W.zret hx hb hr rfl (fun t ht hW => ⟨rfl, by rw [ht]; exact hP, hS.F ht⟩) hS.2.2 d_Reader_collect_11
def F_Reader_next  (o0 : Ob) : Option (Int32) :=
  if (g32 o0 2 0) ≤ (g32 o0 3 0) then (chk (isC (0 : Int32)) (some (0 : Int32))) else (chk (inb (g32 o0 3 0) 400) (chk (isC (g32 o0 0 (Int32.toNatClampNeg (g32 o0 3 0)))) (some (g32 o0 0 (Int32.toNatClampNeg (g32 o0 3 0))))))
abbrev ws_Reader_next : List Cond := Cond.code y_Reader_next b_Reader_next 1 (some .char) :: wsAll
abbrev rm_Reader_next : Room := { frames := 0, cells := 0, slots := 0, locals := 0 }
set_option maxHeartbeats 4000000 in
set_option maxRecDepth 100000 in
theorem c_Reader_next (l : Launch) (ct dC : Nat → ClassId) (dI : Nat → Nat → Nat) (a0 : Nat → Nat) (r0_4 : Nat) (sz : Nat)  (o0 : Ob) (r : Int32) (hF : F_Reader_next o0 = some r) : Met l y_Reader_next ws_Reader_next rm_Reader_next (bw_Pc [.ref (a0 0)] (dC, dI) vwCl (tyA ct) [wReader ct a0 r0_4 o0] sz nx) (bw_QR (some (.int r))) 0 0 (fun _ => False) := by
  refine Met.ofW (cc := b_Reader_next) (maxL := 1) (ret := (some .char)) (by decide) rfl ?_
  intro p e s m args below meth c s₁ B hml hv
  obtain ⟨rfl, hsz, hP, hK, hN0, hnx⟩ := hv
  have hx := B.exec
  have hb := B.bytes
  have hr := B.returns
  have hts : ∀ w ∈ wsAll, w.before [.ref (a0 0)].toArray s = true := fun w h9 => atoms_spec (ws := ws_Reader_next) B.pre w (List.mem_cons_of_mem _ h9)
  have hown : s.vm.findClass R_Reader = some m.cls := findClass_of_methodNamed B.named
  have hlocks := B.notSynchronized
  subst hsz
  have hN : bw_N (fun _ => True) [adReader a0] := hN0
  generalize hAe : (fun _ : Nat => True) = A at hN
  have hA : ∀ q : Nat, s.heap.size ≤ q → A q := fun q _ => by rw [← hAe]; trivial
  have hS : s.heap = s.heap ∧ ([] : List Loc) = [] := ⟨rfl, rfl⟩
  have hl := lv_entry ([.ref (a0 0)]) (n := 1) (Nat.le_of_ble_eq_true rfl)
  rw [lg_entry_eq]
  generalize (lg_sl ([.ref (a0 0)]) ++ List.replicate (1 - (lg_sl ([.ref (a0 0)])).length) Slot.unset).toArray = ls at hl ⊢
  have hl : lv_has ls 1 [(0, .ref (a0 0))] := hl
  have C0 : cx wsAll vwCl nx p s m [.ref (a0 0)].toArray meth c (dC, dI) (tyA ct) b_Reader_next 1 (some .char) R_Reader A [adReader a0] := ⟨hx, hb, hr, hml, hown, hlocks, hts, hK, hN, hA, hnx⟩
  have h := hF
  rw [F_Reader_next] at h
  refine lv_aload_n hx hb d_Reader_next_0 rfl (lv_at hl 0 rfl) ?_
  refine va_get (D := (dC, dI)) (ci := 3) (v := .int (g32 o0 3 0)) (C := R_Reader) (T := T_Reader) (N := 12) hx hb hts in_Reader hown hK (hP 0 _ rfl) 0 rfl rfl 3 (by decide) (hts _ fl_Reader_23) (fun _ h9 => h9) rfl d_Reader_next_1 ?_
  refine lv_aload_n hx hb d_Reader_next_4 rfl (lv_at hl 0 rfl) ?_
  refine va_get (D := (dC, dI)) (ci := 3) (v := .int (g32 o0 2 0)) (C := R_Reader) (T := T_Reader) (N := 12) hx hb hts in_Reader hown hK (hP 0 _ rfl) 0 rfl rfl 2 (by decide) (hts _ fl_Reader_19) (fun _ h9 => h9) rfl d_Reader_next_5 ?_
  refine lv_icmp_ge (tgt := 23) hx hb d_Reader_next_8 (by decide) (fun c1 => ?_) (fun c1 => ?_)
  · have h := ite_t c1 h
    refine lv_iconst (v := 0) hx hb d_Reader_next_23 (by decide) ?_
    obtain ⟨hc2, h⟩ := chk_some h
    obtain rfl := res1 h
    exact W.zret hx hb hr (isC_nar hc2) (fun t ht hW => ⟨rfl, ht.trans hS.1⟩) (bw_nil hS.2) d_Reader_next_24
  · have h := ite_f c1 h
    refine lv_aload_n hx hb d_Reader_next_11 rfl (lv_at hl 0 rfl) ?_
    refine va_get (D := (dC, dI)) (ci := 3) (v := .ref (a0 1)) (C := R_Reader) (T := T_Reader) (N := 12) hx hb hts in_Reader hown hK (hP 0 _ rfl) 0 rfl rfl 0 (by decide) (hts _ fl_Reader_9) (fun _ h9 => h9) rfl d_Reader_next_12 ?_
    refine lv_aload_n hx hb d_Reader_next_15 rfl (lv_at hl 0 rfl) ?_
    refine va_get (D := (dC, dI)) (ci := 3) (v := .int (g32 o0 3 0)) (C := R_Reader) (T := T_Reader) (N := 12) hx hb hts in_Reader hown hK (hP 0 _ rfl) 0 rfl rfl 3 (by decide) (hts _ fl_Reader_23) (fun _ h9 => h9) rfl d_Reader_next_16 ?_
    obtain ⟨hi3, h⟩ := chk_some h
    refine va_cald (f := g32 o0 0) hx hb hK (hP 0 _ rfl) 1 2 rfl rfl (inb_in hi3) d_Reader_next_19 ?_
    refine lv_goto (tgt := 24) hx hb d_Reader_next_20 (by decide) ?_
    obtain ⟨hc4, h⟩ := chk_some h
    obtain rfl := res1 h
    exact W.zret hx hb hr (isC_nar hc4) (fun t ht hW => ⟨rfl, ht.trans hS.1⟩) (bw_nil hS.2) d_Reader_next_24
theorem g_Reader_78 : GoodIn wsAll (wsV R_Reader 78 R_Reader y_Reader_next ws_Reader_next) := gd_V ml_Reader_78 im_Reader_next se_Reader_next ini_Reader cd_Reader_next
def F_Reader_pass (x1 : Int32) (o0 : Ob) : Option (Bool × Ob) :=
  bind1 (F_Reader_next o0) (fun v2 => if v2 = x1 then (some (true, (s32 o0 3 0 ((g32 o0 3 0) + (1 : Int32))))) else (some (false, o0)))
abbrev ws_Reader_pass : List Cond := Cond.code y_Reader_pass b_Reader_pass 2 (some .boolean) :: wsAll
abbrev rm_Reader_pass : Room := { frames := 1, cells := 0, slots := 0, locals := 20 }
set_option maxHeartbeats 4000000 in
set_option maxRecDepth 100000 in
theorem c_Reader_pass (l : Launch) (ct dC : Nat → ClassId) (dI : Nat → Nat → Nat) (a0 : Nat → Nat) (r0_4 : Nat) (sz : Nat) (x1 : Int32) (o0 : Ob) (r : Bool) (n0 : Ob) (hF : F_Reader_pass x1 o0 = some (r, n0)) : Met l y_Reader_pass ws_Reader_pass rm_Reader_pass (bw_Pc [.ref (a0 0), .int x1] (dC, dI) vwCl (tyA ct) [wReader ct a0 r0_4 o0] sz nx) (bw_Q (dC, dI) vwCl (some (.int (b2i r))) [wReader ct a0 r0_4 n0] (bw_A [adReader a0] sz)) 0 0 (bw_A [adReader a0] sz) := by
  refine Met.ofW (cc := b_Reader_pass) (maxL := 2) (ret := (some .boolean)) (by decide) rfl ?_
  intro p e s m args below meth c s₁ B hml hv
  obtain ⟨rfl, hsz, hP, hK, hN0, hnx⟩ := hv
  have hx := B.exec
  have hb := B.bytes
  have hr := B.returns
  have hts : ∀ w ∈ wsAll, w.before [.ref (a0 0), .int x1].toArray s = true := fun w h9 => atoms_spec (ws := ws_Reader_pass) B.pre w (List.mem_cons_of_mem _ h9)
  have hown : s.vm.findClass R_Reader = some m.cls := findClass_of_methodNamed B.named
  have hlocks := B.notSynchronized
  subst hsz
  have hN : bw_N (bw_A [adReader a0] s.heap.size) [adReader a0] := hN0.self s.heap.size
  generalize hAe : bw_A [adReader a0] s.heap.size = A at hN ⊢
  have hA : ∀ q : Nat, s.heap.size ≤ q → A q := fun q h => by rw [← hAe]; exact Or.inr h
  have hS : va_S A s.heap s.heap [] := va_S.rf
  have hl := lv_entry ([.ref (a0 0), .int x1]) (n := 2) (Nat.le_of_ble_eq_true rfl)
  rw [lg_entry_eq]
  generalize (lg_sl ([.ref (a0 0), .int x1]) ++ List.replicate (2 - (lg_sl ([.ref (a0 0), .int x1])).length) Slot.unset).toArray = ls at hl ⊢
  have hl : lv_has ls 2 [(0, .ref (a0 0)), (1, .int x1)] := hl
  have C0 : cx wsAll vwCl nx p s m [.ref (a0 0), .int x1].toArray meth c (dC, dI) (tyA ct) b_Reader_pass 2 (some .boolean) R_Reader A [adReader a0] := ⟨hx, hb, hr, hml, hown, hlocks, hts, hK, hN, hA, hnx⟩
  have h := hF
  rw [F_Reader_pass] at h
  refine lv_aload_n hx hb d_Reader_pass_0 rfl (lv_at hl 0 rfl) ?_
  obtain ⟨v2, hG1, h⟩ := bind1_some h
  refine bw_callR (va_runV (As := []) (rest := []) ⟨hx, hb, hml, hown, hts⟩ (c_Reader_next l ct dC dI a0 r0_4 _ o0 v2 hG1) (cwV 0 hts g_Reader_78 rfl rfl rfl (by decide +kernel) ⟨Nat.le_of_ble_eq_true rfl, Nat.le_of_ble_eq_true rfl⟩) ⟨bw_blind nx_call, va_recv hK (hP 0 _ rfl) (ci := 3) (q0 := 0) rfl rfl, fun U hU hW => ⟨rfl, by rw [hU], by rw [hU]; exact hP.sub [0] rfl, va_K.moved hW.alike hK, (hN.sub [0] (by decide) rfl).weaken (fun _ _ => trivial), nx_warm hW hnx⟩⟩ rfl rfl hl.1 rfl (Nat.le_of_ble_eq_true rfl) d_Reader_pass_1 ⟨Nat.le_of_ble_eq_true rfl, Nat.le_of_ble_eq_true rfl⟩) ?_
  refine lv_iload_n hx hb d_Reader_pass_4 rfl (lv_at hl 1 rfl) ?_
  refine lv_icmp_eq (tgt := 10) hx hb d_Reader_pass_5 (by decide) (fun c3 => ?_) (fun c3 => ?_)
  · have h := ite_t c3 h
    refine lv_aload_n hx hb d_Reader_pass_10 rfl (lv_at hl 0 rfl) ?_
    refine lv_dup hx hb d_Reader_pass_11 rfl ?_
    refine va_get (D := (dC, dI)) (ci := 3) (v := .int (g32 o0 3 0)) (C := R_Reader) (T := T_Reader) (N := 12) hx hb hts in_Reader hown hK (hP 0 _ rfl) 0 rfl rfl 3 (by decide) (hts _ fl_Reader_23) (fun _ h9 => h9) rfl d_Reader_pass_12 ?_
    refine lv_iconst (v := 1) hx hb d_Reader_pass_15 (by decide) ?_
    refine lv_iadd hx hb d_Reader_pass_16 ?_
    refine pt_Reader_3 hx hb hts hown hK hP hN hS 0 rfl (hts _ fl_Reader_23) d_Reader_pass_17 (fun H locs hP hS => ?_)
    have hP : bw_P (dC, dI) vwCl [wReader ct a0 r0_4 (s32 o0 3 0 ((g32 o0 3 0) + (1 : Int32)))] H := hP
    refine lv_iconst (v := 1) hx hb d_Reader_pass_20 (by decide) ?_
    obtain ⟨rfl, rfl⟩ := res2 h
    exact W.zret hx hb hr rfl (fun t ht hW => ⟨rfl, by rw [ht]; exact hP, hS.F ht⟩) hS.2.2 d_Reader_pass_21
  · have h := ite_f c3 h
    refine lv_iconst (v := 0) hx hb d_Reader_pass_8 (by decide) ?_
    obtain ⟨rfl, rfl⟩ := res2 h
    exact W.zret hx hb hr rfl (fun t ht hW => ⟨rfl, by rw [ht]; exact hP, hS.F ht⟩) hS.2.2 d_Reader_pass_9
def F_Reader_hold (x1 : Int32) (o0 : Ob) : Option (Ob) :=
  if (400 : Int32) ≤ (g32 o0 6 0) then (some o0) else (chk (inb (g32 o0 6 0) 400) (some (s32 (s32 o0 5 (Int32.toNatClampNeg (g32 o0 6 0)) x1) 6 0 ((g32 o0 6 0) + (1 : Int32)))))
abbrev ws_Reader_hold : List Cond := Cond.code y_Reader_hold b_Reader_hold 2 (none : Option Jvm.ClassFile.FieldType) :: wsAll
abbrev rm_Reader_hold : Room := { frames := 0, cells := 0, slots := 0, locals := 0 }
set_option maxHeartbeats 4000000 in
set_option maxRecDepth 100000 in
theorem c_Reader_hold (l : Launch) (ct dC : Nat → ClassId) (dI : Nat → Nat → Nat) (a0 : Nat → Nat) (r0_4 : Nat) (sz : Nat) (x1 : Int32) (o0 : Ob) (n0 : Ob) (hF : F_Reader_hold x1 o0 = some n0) : Met l y_Reader_hold ws_Reader_hold rm_Reader_hold (bw_Pc [.ref (a0 0), .int x1] (dC, dI) vwCl (tyA ct) [wReader ct a0 r0_4 o0] sz nx) (bw_Q (dC, dI) vwCl none [wReader ct a0 r0_4 n0] (bw_A [adReader a0] sz)) 0 0 (bw_A [adReader a0] sz) := by
  refine Met.ofW (cc := b_Reader_hold) (maxL := 2) (ret := (none : Option Jvm.ClassFile.FieldType)) (by decide) rfl ?_
  intro p e s m args below meth c s₁ B hml hv
  obtain ⟨rfl, hsz, hP, hK, hN0, hnx⟩ := hv
  have hx := B.exec
  have hb := B.bytes
  have hr := B.returns
  have hts : ∀ w ∈ wsAll, w.before [.ref (a0 0), .int x1].toArray s = true := fun w h9 => atoms_spec (ws := ws_Reader_hold) B.pre w (List.mem_cons_of_mem _ h9)
  have hown : s.vm.findClass R_Reader = some m.cls := findClass_of_methodNamed B.named
  have hlocks := B.notSynchronized
  subst hsz
  have hN : bw_N (bw_A [adReader a0] s.heap.size) [adReader a0] := hN0.self s.heap.size
  generalize hAe : bw_A [adReader a0] s.heap.size = A at hN ⊢
  have hA : ∀ q : Nat, s.heap.size ≤ q → A q := fun q h => by rw [← hAe]; exact Or.inr h
  have hS : va_S A s.heap s.heap [] := va_S.rf
  have hl := lv_entry ([.ref (a0 0), .int x1]) (n := 2) (Nat.le_of_ble_eq_true rfl)
  rw [lg_entry_eq]
  generalize (lg_sl ([.ref (a0 0), .int x1]) ++ List.replicate (2 - (lg_sl ([.ref (a0 0), .int x1])).length) Slot.unset).toArray = ls at hl ⊢
  have hl : lv_has ls 2 [(0, .ref (a0 0)), (1, .int x1)] := hl
  have C0 : cx wsAll vwCl nx p s m [.ref (a0 0), .int x1].toArray meth c (dC, dI) (tyA ct) b_Reader_hold 2 (none : Option Jvm.ClassFile.FieldType) R_Reader A [adReader a0] := ⟨hx, hb, hr, hml, hown, hlocks, hts, hK, hN, hA, hnx⟩
  have h := hF
  rw [F_Reader_hold] at h
  refine lv_aload_n hx hb d_Reader_hold_0 rfl (lv_at hl 0 rfl) ?_
  refine va_get (D := (dC, dI)) (ci := 3) (v := .int (g32 o0 6 0)) (C := R_Reader) (T := T_Reader) (N := 12) hx hb hts in_Reader hown hK (hP 0 _ rfl) 0 rfl rfl 6 (by decide) (hts _ fl_Reader_37) (fun _ h9 => h9) rfl d_Reader_hold_1 ?_
  refine lv_sipush (v := 400) hx hb d_Reader_hold_4 (by decide) ?_
  refine lv_icmp_ge (tgt := 30) hx hb d_Reader_hold_7 (by decide) (fun c1 => ?_) (fun c1 => ?_)
  · have h := ite_t c1 h
    obtain rfl := res1 h
    exact W.vret hx hb hr (fun t ht hW => ⟨rfl, by rw [ht]; exact hP, hS.F ht⟩) hS.2.2 d_Reader_hold_30
  · have h := ite_f c1 h
    refine lv_aload_n hx hb d_Reader_hold_10 rfl (lv_at hl 0 rfl) ?_
    refine va_get (D := (dC, dI)) (ci := 3) (v := .ref (a0 3)) (C := R_Reader) (T := T_Reader) (N := 12) hx hb hts in_Reader hown hK (hP 0 _ rfl) 0 rfl rfl 5 (by decide) (hts _ fl_Reader_33) (fun _ h9 => h9) rfl d_Reader_hold_11 ?_
    refine lv_aload_n hx hb d_Reader_hold_14 rfl (lv_at hl 0 rfl) ?_
    refine va_get (D := (dC, dI)) (ci := 3) (v := .int (g32 o0 6 0)) (C := R_Reader) (T := T_Reader) (N := 12) hx hb hts in_Reader hown hK (hP 0 _ rfl) 0 rfl rfl 6 (by decide) (hts _ fl_Reader_37) (fun _ h9 => h9) rfl d_Reader_hold_15 ?_
    refine lv_iload_n hx hb d_Reader_hold_18 rfl (lv_at hl 1 rfl) ?_
    obtain ⟨hi2, h⟩ := chk_some h
    refine st_Reader_5 hx hb hK hP hN hS 0 rfl (inb_in hi2) d_Reader_hold_19 (fun H locs hP hS => ?_)
    have hP : bw_P (dC, dI) vwCl [wReader ct a0 r0_4 (s32 o0 5 (Int32.toNatClampNeg (g32 o0 6 0)) x1)] H := hP
    refine lv_aload_n hx hb d_Reader_hold_20 rfl (lv_at hl 0 rfl) ?_
    refine lv_dup hx hb d_Reader_hold_21 rfl ?_
    refine va_get (D := (dC, dI)) (ci := 3) (v := .int (g32 o0 6 0)) (C := R_Reader) (T := T_Reader) (N := 12) hx hb hts in_Reader hown hK (hP 0 _ rfl) 0 rfl rfl 6 (by decide) (hts _ fl_Reader_37) (fun _ h9 => h9) rfl d_Reader_hold_22 ?_
    refine lv_iconst (v := 1) hx hb d_Reader_hold_25 (by decide) ?_
    refine lv_iadd hx hb d_Reader_hold_26 ?_
    refine pt_Reader_6 hx hb hts hown hK hP hN hS 0 rfl (hts _ fl_Reader_37) d_Reader_hold_27 (fun H locs hP hS => ?_)
    have hP : bw_P (dC, dI) vwCl [wReader ct a0 r0_4 (s32 (s32 o0 5 (Int32.toNatClampNeg (g32 o0 6 0)) x1) 6 0 ((g32 o0 6 0) + (1 : Int32)))] H := hP
    obtain rfl := res1 h
    exact W.vret hx hb hr (fun t ht hW => ⟨rfl, by rw [ht]; exact hP, hS.F ht⟩) hS.2.2 d_Reader_hold_30
theorem g_Reader_138 : GoodIn wsAll (wsV R_Reader 138 R_Reader y_Reader_hold ws_Reader_hold) := gd_V ml_Reader_138 im_Reader_hold se_Reader_hold ini_Reader cd_Reader_hold
def F_Reader_openGroup  (o0 : Ob) : Option (Ob) :=
  bind1 (F_Reader_hold (9 : Int32) o0) (fun o_2 => chk (inb ((g32 o_2 10 0) + (1 : Int32)) 9) (some (s32 (s32 (s32 o_2 10 0 ((g32 o_2 10 0) + (1 : Int32))) 7 (Int32.toNatClampNeg ((g32 o_2 10 0) + (1 : Int32))) (g32 o_2 3 0)) 8 (Int32.toNatClampNeg ((g32 o_2 10 0) + (1 : Int32))) (0 : Int32))))
abbrev ws_Reader_openGroup : List Cond := Cond.code y_Reader_openGroup b_Reader_openGroup 1 (none : Option Jvm.ClassFile.FieldType) :: wsAll
abbrev rm_Reader_openGroup : Room := { frames := 1, cells := 0, slots := 0, locals := 21 }
set_option maxHeartbeats 4000000 in
set_option maxRecDepth 100000 in
theorem c_Reader_openGroup (l : Launch) (ct dC : Nat → ClassId) (dI : Nat → Nat → Nat) (a0 : Nat → Nat) (r0_4 : Nat) (sz : Nat)  (o0 : Ob) (n0 : Ob) (hF : F_Reader_openGroup o0 = some n0) : Met l y_Reader_openGroup ws_Reader_openGroup rm_Reader_openGroup (bw_Pc [.ref (a0 0)] (dC, dI) vwCl (tyA ct) [wReader ct a0 r0_4 o0] sz nx) (bw_Q (dC, dI) vwCl none [wReader ct a0 r0_4 n0] (bw_A [adReader a0] sz)) 0 0 (bw_A [adReader a0] sz) := by
  refine Met.ofW (cc := b_Reader_openGroup) (maxL := 1) (ret := (none : Option Jvm.ClassFile.FieldType)) (by decide) rfl ?_
  intro p e s m args below meth c s₁ B hml hv
  obtain ⟨rfl, hsz, hP, hK, hN0, hnx⟩ := hv
  have hx := B.exec
  have hb := B.bytes
  have hr := B.returns
  have hts : ∀ w ∈ wsAll, w.before [.ref (a0 0)].toArray s = true := fun w h9 => atoms_spec (ws := ws_Reader_openGroup) B.pre w (List.mem_cons_of_mem _ h9)
  have hown : s.vm.findClass R_Reader = some m.cls := findClass_of_methodNamed B.named
  have hlocks := B.notSynchronized
  subst hsz
  have hN : bw_N (bw_A [adReader a0] s.heap.size) [adReader a0] := hN0.self s.heap.size
  generalize hAe : bw_A [adReader a0] s.heap.size = A at hN ⊢
  have hA : ∀ q : Nat, s.heap.size ≤ q → A q := fun q h => by rw [← hAe]; exact Or.inr h
  have hS : va_S A s.heap s.heap [] := va_S.rf
  have hl := lv_entry ([.ref (a0 0)]) (n := 1) (Nat.le_of_ble_eq_true rfl)
  rw [lg_entry_eq]
  generalize (lg_sl ([.ref (a0 0)]) ++ List.replicate (1 - (lg_sl ([.ref (a0 0)])).length) Slot.unset).toArray = ls at hl ⊢
  have hl : lv_has ls 1 [(0, .ref (a0 0))] := hl
  have C0 : cx wsAll vwCl nx p s m [.ref (a0 0)].toArray meth c (dC, dI) (tyA ct) b_Reader_openGroup 1 (none : Option Jvm.ClassFile.FieldType) R_Reader A [adReader a0] := ⟨hx, hb, hr, hml, hown, hlocks, hts, hK, hN, hA, hnx⟩
  have h := hF
  rw [F_Reader_openGroup] at h
  refine lv_aload_n hx hb d_Reader_openGroup_0 rfl (lv_at hl 0 rfl) ?_
  refine lv_bipush (v := 9) hx hb d_Reader_openGroup_1 (by decide) ?_
  obtain ⟨o_2, hG1, h⟩ := bind1_some h
  refine bw_call (Lc := [wReader ct a0 r0_4 o0]) (Lc' := [wReader ct a0 r0_4 o_2]) (L' := [wReader ct a0 r0_4 o_2]) [0] (va_runV (As := [.int (9 : Int32)]) (rest := []) ⟨hx, hb, hml, hown, hts⟩ (c_Reader_hold l ct dC dI a0 r0_4 _ (9 : Int32) o0 o_2 hG1) (cwV 1 hts g_Reader_138 rfl rfl rfl (by decide +kernel) ⟨Nat.le_of_ble_eq_true rfl, Nat.le_of_ble_eq_true rfl⟩) ⟨bw_blind nx_call, va_recv hK (hP 0 _ rfl) (ci := 3) (q0 := 0) rfl rfl, fun U hU hW => ⟨rfl, by rw [hU], by rw [hU]; exact hP.sub [0] rfl, va_K.moved hW.alike hK, (hN.sub [0] (by decide) rfl).weaken (fun _ _ => trivial), nx_warm hW hnx⟩⟩ rfl rfl hl.1 rfl (Nat.le_of_ble_eq_true rfl) d_Reader_openGroup_3 ⟨Nat.le_of_ble_eq_true rfl, Nat.le_of_ble_eq_true rfl⟩) hP hN hS hA rfl rfl rfl (fun H locs hP hS => ?_)
  refine lv_aload_n hx hb d_Reader_openGroup_6 rfl (lv_at hl 0 rfl) ?_
  refine lv_dup hx hb d_Reader_openGroup_7 rfl ?_
  refine va_get (D := (dC, dI)) (ci := 3) (v := .int (g32 o_2 10 0)) (C := R_Reader) (T := T_Reader) (N := 12) hx hb hts in_Reader hown hK (hP 0 _ rfl) 0 rfl rfl 10 (by decide) (hts _ fl_Reader_49) (fun _ h9 => h9) rfl d_Reader_openGroup_8 ?_
  refine lv_iconst (v := 1) hx hb d_Reader_openGroup_11 (by decide) ?_
  refine lv_iadd hx hb d_Reader_openGroup_12 ?_
  refine pt_Reader_10 hx hb hts hown hK hP hN hS 0 rfl (hts _ fl_Reader_49) d_Reader_openGroup_13 (fun H locs hP hS => ?_)
  have hP : bw_P (dC, dI) vwCl [wReader ct a0 r0_4 (s32 o_2 10 0 ((g32 o_2 10 0) + (1 : Int32)))] H := hP
  refine lv_aload_n hx hb d_Reader_openGroup_16 rfl (lv_at hl 0 rfl) ?_
  refine va_get (D := (dC, dI)) (ci := 3) (v := .ref (a0 4)) (C := R_Reader) (T := T_Reader) (N := 12) hx hb hts in_Reader hown hK (hP 0 _ rfl) 0 rfl rfl 7 (by decide) (hts _ fl_Reader_40) (fun _ h9 => h9) rfl d_Reader_openGroup_17 ?_
  refine lv_aload_n hx hb d_Reader_openGroup_20 rfl (lv_at hl 0 rfl) ?_
  refine va_get (D := (dC, dI)) (ci := 3) (v := .int ((g32 o_2 10 0) + (1 : Int32))) (C := R_Reader) (T := T_Reader) (N := 12) hx hb hts in_Reader hown hK (hP 0 _ rfl) 0 rfl rfl 10 (by decide) (hts _ fl_Reader_49) (fun _ h9 => h9) rfl d_Reader_openGroup_21 ?_
  refine lv_aload_n hx hb d_Reader_openGroup_24 rfl (lv_at hl 0 rfl) ?_
  refine va_get (D := (dC, dI)) (ci := 3) (v := .int (g32 o_2 3 0)) (C := R_Reader) (T := T_Reader) (N := 12) hx hb hts in_Reader hown hK (hP 0 _ rfl) 0 rfl rfl 3 (by decide) (hts _ fl_Reader_23) (fun _ h9 => h9) rfl d_Reader_openGroup_25 ?_
  obtain ⟨hi3, h⟩ := chk_some h
  refine st_Reader_7 hx hb hK hP hN hS 0 rfl (inb_in hi3) d_Reader_openGroup_28 (fun H locs hP hS => ?_)
  have hP : bw_P (dC, dI) vwCl [wReader ct a0 r0_4 (s32 (s32 o_2 10 0 ((g32 o_2 10 0) + (1 : Int32))) 7 (Int32.toNatClampNeg ((g32 o_2 10 0) + (1 : Int32))) (g32 o_2 3 0))] H := hP
  refine lv_aload_n hx hb d_Reader_openGroup_29 rfl (lv_at hl 0 rfl) ?_
  refine va_get (D := (dC, dI)) (ci := 3) (v := .ref (a0 5)) (C := R_Reader) (T := T_Reader) (N := 12) hx hb hts in_Reader hown hK (hP 0 _ rfl) 0 rfl rfl 8 (by decide) (hts _ fl_Reader_43) (fun _ h9 => h9) rfl d_Reader_openGroup_30 ?_
  refine lv_aload_n hx hb d_Reader_openGroup_33 rfl (lv_at hl 0 rfl) ?_
  refine va_get (D := (dC, dI)) (ci := 3) (v := .int ((g32 o_2 10 0) + (1 : Int32))) (C := R_Reader) (T := T_Reader) (N := 12) hx hb hts in_Reader hown hK (hP 0 _ rfl) 0 rfl rfl 10 (by decide) (hts _ fl_Reader_49) (fun _ h9 => h9) rfl d_Reader_openGroup_34 ?_
  refine lv_iconst (v := 0) hx hb d_Reader_openGroup_37 (by decide) ?_
  refine st_Reader_8 hx hb hK hP hN hS 0 rfl (inb_in hi3) d_Reader_openGroup_38 (fun H locs hP hS => ?_)
  have hP : bw_P (dC, dI) vwCl [wReader ct a0 r0_4 (s32 (s32 (s32 o_2 10 0 ((g32 o_2 10 0) + (1 : Int32))) 7 (Int32.toNatClampNeg ((g32 o_2 10 0) + (1 : Int32))) (g32 o_2 3 0)) 8 (Int32.toNatClampNeg ((g32 o_2 10 0) + (1 : Int32))) (0 : Int32))] H := hP
  obtain rfl := res1 h
  exact W.vret hx hb hr (fun t ht hW => ⟨rfl, by rw [ht]; exact hP, hS.F ht⟩) hS.2.2 d_Reader_openGroup_39
def F_Reader_readDigits_5  : Nat → Int32 → Int32 → Int32 → Ob → Option (Int32 × Ob)
  | 0, _, _, _, _ => none
  | n + 1, x2, x3, x4, o0 =>
    if x2 ≤ x4 then (some (x3, o0)) else (if (g32 o0 2 0) ≤ (g32 o0 3 0) then (some (x3, o0)) else (chk (inb (g32 o0 3 0) 400) (if (g32 o0 0 (Int32.toNatClampNeg (g32 o0 3 0))) < (48 : Int32) then (some (x3, o0)) else (if (57 : Int32) < (g32 o0 0 (Int32.toNatClampNeg (g32 o0 3 0))) then (some (x3, o0)) else (F_Reader_readDigits_5 n x2 (((10 : Int32) * x3) + ((g32 o0 0 (Int32.toNatClampNeg (g32 o0 3 0))) - (48 : Int32))) (x4 + (1 : Int32)) (s32 o0 3 0 ((g32 o0 3 0) + (1 : Int32))))))))
def F_Reader_readDigits (x1 : Int32) (x2 : Int32) (o0 : Ob) : Option (Int32 × Ob) :=
  F_Reader_readDigits_5 fuel x2 x1 (0 : Int32) o0
abbrev ws_Reader_readDigits : List Cond := Cond.code y_Reader_readDigits b_Reader_readDigits 5 (some .int) :: wsAll
abbrev rm_Reader_readDigits : Room := { frames := 0, cells := 0, slots := 0, locals := 0 }
set_option maxHeartbeats 4000000 in
set_option maxRecDepth 100000 in
theorem k_Reader_readDigits_5 {p : Program} {l : Launch} {e : Env} {s : State} {m : MethodId} {args : Array Value} {below : List Frame} {meth : Method} {c : Code} {A : Nat → Prop} {ct dC : Nat → ClassId} {dI : Nat → Nat → Nat} {a0 : Nat → Nat} {r0_4 : Nat} {r : Int32} {n0 : Ob}   (C0 : cx wsAll vwCl nx p s m args meth c (dC, dI) (tyA ct) b_Reader_readDigits 5 (some .int) R_Reader A [adReader a0])  : ∀ (n : Nat) (x2 : Int32) (x3 : Int32) (x4 : Int32) (o0 : Ob) (H : Heap) (locs : List Loc) (ls : Array Slot), bw_P (dC, dI) vwCl [wReader ct a0 r0_4 o0] H → va_S A s.heap H locs → lv_has ls 5 [(0, .ref (a0 0)), (2, .int x2), (3, .int x3), (4, .int x4)] → F_Reader_readDigits_5 n x2 x3 x4 o0 = some (r, n0) → W p l e (headSpec ws_Reader_readDigits rm_Reader_readDigits).room s m args below meth c H locs 0 0 (MQ below (bw_Q (dC, dI) vwCl (some (.int r)) [wReader ct a0 r0_4 n0] A) args s 0 0 A) (F0 m 5 ls []) := by
  obtain ⟨hx, hb, hr, hml, hown, hlocks, hts, hK, hN, hA, hnx⟩ := id C0
  intro n
  induction n with
  | zero =>
    intro x2 x3 x4 o0 H locs ls hP hS hl h
    cases h
  | succ n ih =>
    intro x2 x3 x4 o0 H locs ls hP hS hl h
    rw [F_Reader_readDigits_5] at h
    refine lv_iload hx hb d_Reader_readDigits_5 (lv_at hl 3 rfl) ?_
    refine lv_iload_n hx hb d_Reader_readDigits_7 rfl (lv_at hl 1 rfl) ?_
    refine lv_icmp_ge (tgt := 84) hx hb d_Reader_readDigits_8 (by decide) (fun c1 => ?_) (fun c1 => ?_)
    · have h := ite_t c1 h
      refine lv_iload_n hx hb d_Reader_readDigits_84 rfl (lv_at hl 2 rfl) ?_
      obtain ⟨rfl, rfl⟩ := res2 h
      exact W.iret hx hb hr (fun t ht hW => ⟨rfl, by rw [ht]; exact hP, hS.F ht⟩) hS.2.2 d_Reader_readDigits_85
    · have h := ite_f c1 h
      refine lv_aload_n hx hb d_Reader_readDigits_11 rfl (lv_at hl 0 rfl) ?_
      refine va_get (D := (dC, dI)) (ci := 3) (v := .int (g32 o0 3 0)) (C := R_Reader) (T := T_Reader) (N := 12) hx hb hts in_Reader hown hK (hP 0 _ rfl) 0 rfl rfl 3 (by decide) (hts _ fl_Reader_23) (fun _ h9 => h9) rfl d_Reader_readDigits_12 ?_
      refine lv_aload_n hx hb d_Reader_readDigits_15 rfl (lv_at hl 0 rfl) ?_
      refine va_get (D := (dC, dI)) (ci := 3) (v := .int (g32 o0 2 0)) (C := R_Reader) (T := T_Reader) (N := 12) hx hb hts in_Reader hown hK (hP 0 _ rfl) 0 rfl rfl 2 (by decide) (hts _ fl_Reader_19) (fun _ h9 => h9) rfl d_Reader_readDigits_16 ?_
      refine lv_icmp_ge (tgt := 84) hx hb d_Reader_readDigits_19 (by decide) (fun c2 => ?_) (fun c2 => ?_)
      · have h := ite_t c2 h
        refine lv_iload_n hx hb d_Reader_readDigits_84 rfl (lv_at hl 2 rfl) ?_
        obtain ⟨rfl, rfl⟩ := res2 h
        exact W.iret hx hb hr (fun t ht hW => ⟨rfl, by rw [ht]; exact hP, hS.F ht⟩) hS.2.2 d_Reader_readDigits_85
      · have h := ite_f c2 h
        refine lv_aload_n hx hb d_Reader_readDigits_22 rfl (lv_at hl 0 rfl) ?_
        refine va_get (D := (dC, dI)) (ci := 3) (v := .ref (a0 1)) (C := R_Reader) (T := T_Reader) (N := 12) hx hb hts in_Reader hown hK (hP 0 _ rfl) 0 rfl rfl 0 (by decide) (hts _ fl_Reader_9) (fun _ h9 => h9) rfl d_Reader_readDigits_23 ?_
        refine lv_aload_n hx hb d_Reader_readDigits_26 rfl (lv_at hl 0 rfl) ?_
        refine va_get (D := (dC, dI)) (ci := 3) (v := .int (g32 o0 3 0)) (C := R_Reader) (T := T_Reader) (N := 12) hx hb hts in_Reader hown hK (hP 0 _ rfl) 0 rfl rfl 3 (by decide) (hts _ fl_Reader_23) (fun _ h9 => h9) rfl d_Reader_readDigits_27 ?_
        obtain ⟨hi3, h⟩ := chk_some h
        refine va_cald (f := g32 o0 0) hx hb hK (hP 0 _ rfl) 1 2 rfl rfl (inb_in hi3) d_Reader_readDigits_30 ?_
        refine lv_bipush (v := 48) hx hb d_Reader_readDigits_31 (by decide) ?_
        refine lv_icmp_lt (tgt := 84) hx hb d_Reader_readDigits_33 (by decide) (fun c4 => ?_) (fun c4 => ?_)
        · have h := ite_t c4 h
          refine lv_iload_n hx hb d_Reader_readDigits_84 rfl (lv_at hl 2 rfl) ?_
          obtain ⟨rfl, rfl⟩ := res2 h
          exact W.iret hx hb hr (fun t ht hW => ⟨rfl, by rw [ht]; exact hP, hS.F ht⟩) hS.2.2 d_Reader_readDigits_85
        · have h := ite_f c4 h
          refine lv_aload_n hx hb d_Reader_readDigits_36 rfl (lv_at hl 0 rfl) ?_
          refine va_get (D := (dC, dI)) (ci := 3) (v := .ref (a0 1)) (C := R_Reader) (T := T_Reader) (N := 12) hx hb hts in_Reader hown hK (hP 0 _ rfl) 0 rfl rfl 0 (by decide) (hts _ fl_Reader_9) (fun _ h9 => h9) rfl d_Reader_readDigits_37 ?_
          refine lv_aload_n hx hb d_Reader_readDigits_40 rfl (lv_at hl 0 rfl) ?_
          refine va_get (D := (dC, dI)) (ci := 3) (v := .int (g32 o0 3 0)) (C := R_Reader) (T := T_Reader) (N := 12) hx hb hts in_Reader hown hK (hP 0 _ rfl) 0 rfl rfl 3 (by decide) (hts _ fl_Reader_23) (fun _ h9 => h9) rfl d_Reader_readDigits_41 ?_
          refine va_cald (f := g32 o0 0) hx hb hK (hP 0 _ rfl) 1 2 rfl rfl (inb_in hi3) d_Reader_readDigits_44 ?_
          refine lv_bipush (v := 57) hx hb d_Reader_readDigits_45 (by decide) ?_
          refine lv_icmp_gt (tgt := 84) hx hb d_Reader_readDigits_47 (by decide) (fun c6 => ?_) (fun c6 => ?_)
          · have h := ite_t c6 h
            refine lv_iload_n hx hb d_Reader_readDigits_84 rfl (lv_at hl 2 rfl) ?_
            obtain ⟨rfl, rfl⟩ := res2 h
            exact W.iret hx hb hr (fun t ht hW => ⟨rfl, by rw [ht]; exact hP, hS.F ht⟩) hS.2.2 d_Reader_readDigits_85
          · have h := ite_f c6 h
            refine lv_bipush (v := 10) hx hb d_Reader_readDigits_50 (by decide) ?_
            refine lv_iload_n hx hb d_Reader_readDigits_52 rfl (lv_at hl 2 rfl) ?_
            refine lv_imul hx hb d_Reader_readDigits_53 ?_
            refine lv_aload_n hx hb d_Reader_readDigits_54 rfl (lv_at hl 0 rfl) ?_
            refine va_get (D := (dC, dI)) (ci := 3) (v := .ref (a0 1)) (C := R_Reader) (T := T_Reader) (N := 12) hx hb hts in_Reader hown hK (hP 0 _ rfl) 0 rfl rfl 0 (by decide) (hts _ fl_Reader_9) (fun _ h9 => h9) rfl d_Reader_readDigits_55 ?_
            refine lv_aload_n hx hb d_Reader_readDigits_58 rfl (lv_at hl 0 rfl) ?_
            refine va_get (D := (dC, dI)) (ci := 3) (v := .int (g32 o0 3 0)) (C := R_Reader) (T := T_Reader) (N := 12) hx hb hts in_Reader hown hK (hP 0 _ rfl) 0 rfl rfl 3 (by decide) (hts _ fl_Reader_23) (fun _ h9 => h9) rfl d_Reader_readDigits_59 ?_
            refine va_cald (f := g32 o0 0) hx hb hK (hP 0 _ rfl) 1 2 rfl rfl (inb_in hi3) d_Reader_readDigits_62 ?_
            refine lv_bipush (v := 48) hx hb d_Reader_readDigits_63 (by decide) ?_
            refine lv_isub hx hb d_Reader_readDigits_65 ?_
            refine lv_iadd hx hb d_Reader_readDigits_66 ?_
            refine lv_istore_n (lv' := [(3, .int (((10 : Int32) * x3) + ((g32 o0 0 (Int32.toNatClampNeg (g32 o0 3 0))) - (48 : Int32)))), (0, .ref (a0 0)), (2, .int x2), (4, .int x4)]) hx hb d_Reader_readDigits_67 rfl hl (by decide) rfl (fun ls hl => ?_)
            refine lv_aload_n hx hb d_Reader_readDigits_68 rfl (lv_at hl 1 rfl) ?_
            refine lv_dup hx hb d_Reader_readDigits_69 rfl ?_
            refine va_get (D := (dC, dI)) (ci := 3) (v := .int (g32 o0 3 0)) (C := R_Reader) (T := T_Reader) (N := 12) hx hb hts in_Reader hown hK (hP 0 _ rfl) 0 rfl rfl 3 (by decide) (hts _ fl_Reader_23) (fun _ h9 => h9) rfl d_Reader_readDigits_70 ?_
            refine lv_iconst (v := 1) hx hb d_Reader_readDigits_73 (by decide) ?_
            refine lv_iadd hx hb d_Reader_readDigits_74 ?_
            refine pt_Reader_3 hx hb hts hown hK hP hN hS 0 rfl (hts _ fl_Reader_23) d_Reader_readDigits_75 (fun H locs hP hS => ?_)
            have hP : bw_P (dC, dI) vwCl [wReader ct a0 r0_4 (s32 o0 3 0 ((g32 o0 3 0) + (1 : Int32)))] H := hP
            refine lv_iinc (v := (x4 + (1 : Int32))) (lv' := [(4, .int (x4 + (1 : Int32))), (3, .int (((10 : Int32) * x3) + ((g32 o0 0 (Int32.toNatClampNeg (g32 o0 3 0))) - (48 : Int32)))), (0, .ref (a0 0)), (2, .int x2)]) hx hb d_Reader_readDigits_78 hl (k := 3) rfl rfl (by decide) rfl (fun ls hl => ?_)
            refine lv_goto (tgt := 5) hx hb d_Reader_readDigits_81 (by decide) ?_
            exact ih x2 (((10 : Int32) * x3) + ((g32 o0 0 (Int32.toNatClampNeg (g32 o0 3 0))) - (48 : Int32))) (x4 + (1 : Int32)) (s32 o0 3 0 ((g32 o0 3 0) + (1 : Int32))) _ _ _ hP hS (lv_sub hl [2, 3, 1, 0] rfl) h
set_option maxHeartbeats 4000000 in
set_option maxRecDepth 100000 in
theorem c_Reader_readDigits (l : Launch) (ct dC : Nat → ClassId) (dI : Nat → Nat → Nat) (a0 : Nat → Nat) (r0_4 : Nat) (sz : Nat) (x1 : Int32) (x2 : Int32) (o0 : Ob) (r : Int32) (n0 : Ob) (hF : F_Reader_readDigits x1 x2 o0 = some (r, n0)) : Met l y_Reader_readDigits ws_Reader_readDigits rm_Reader_readDigits (bw_Pc [.ref (a0 0), .int x1, .int x2] (dC, dI) vwCl (tyA ct) [wReader ct a0 r0_4 o0] sz nx) (bw_Q (dC, dI) vwCl (some (.int r)) [wReader ct a0 r0_4 n0] (bw_A [adReader a0] sz)) 0 0 (bw_A [adReader a0] sz) := by
  refine Met.ofW (cc := b_Reader_readDigits) (maxL := 5) (ret := (some .int)) (by decide) rfl ?_
  intro p e s m args below meth c s₁ B hml hv
  obtain ⟨rfl, hsz, hP, hK, hN0, hnx⟩ := hv
  have hx := B.exec
  have hb := B.bytes
  have hr := B.returns
  have hts : ∀ w ∈ wsAll, w.before [.ref (a0 0), .int x1, .int x2].toArray s = true := fun w h9 => atoms_spec (ws := ws_Reader_readDigits) B.pre w (List.mem_cons_of_mem _ h9)
  have hown : s.vm.findClass R_Reader = some m.cls := findClass_of_methodNamed B.named
  have hlocks := B.notSynchronized
  subst hsz
  have hN : bw_N (bw_A [adReader a0] s.heap.size) [adReader a0] := hN0.self s.heap.size
  generalize hAe : bw_A [adReader a0] s.heap.size = A at hN ⊢
  have hA : ∀ q : Nat, s.heap.size ≤ q → A q := fun q h => by rw [← hAe]; exact Or.inr h
  have hS : va_S A s.heap s.heap [] := va_S.rf
  have hl := lv_entry ([.ref (a0 0), .int x1, .int x2]) (n := 5) (Nat.le_of_ble_eq_true rfl)
  rw [lg_entry_eq]
  generalize (lg_sl ([.ref (a0 0), .int x1, .int x2]) ++ List.replicate (5 - (lg_sl ([.ref (a0 0), .int x1, .int x2])).length) Slot.unset).toArray = ls at hl ⊢
  have hl : lv_has ls 5 [(0, .ref (a0 0)), (1, .int x1), (2, .int x2)] := hl
  have C0 : cx wsAll vwCl nx p s m [.ref (a0 0), .int x1, .int x2].toArray meth c (dC, dI) (tyA ct) b_Reader_readDigits 5 (some .int) R_Reader A [adReader a0] := ⟨hx, hb, hr, hml, hown, hlocks, hts, hK, hN, hA, hnx⟩
  have h := hF
  rw [F_Reader_readDigits] at h
  refine lv_iload_n hx hb d_Reader_readDigits_0 rfl (lv_at hl 1 rfl) ?_
  refine lv_istore_n (lv' := [(3, .int x1), (0, .ref (a0 0)), (1, .int x1), (2, .int x2)]) hx hb d_Reader_readDigits_1 rfl hl (by decide) rfl (fun ls hl => ?_)
  refine lv_iconst (v := 0) hx hb d_Reader_readDigits_2 (by decide) ?_
  refine lv_istore (lv' := [(4, .int (0 : Int32)), (3, .int x1), (0, .ref (a0 0)), (1, .int x1), (2, .int x2)]) hx hb d_Reader_readDigits_3 hl (by decide) rfl (fun ls hl => ?_)
  exact k_Reader_readDigits_5 C0 fuel x2 x1 (0 : Int32) o0 _ _ _ hP hS (lv_sub hl [2, 4, 1, 0] rfl) h
def F_Reader_dropZerosBehind_7  : Nat → Int32 → Int32 → Ob → Option (Ob)
  | 0, _, _, _ => none
  | n + 1, x1, x2, o0 =>
    if x2 ≤ x1 then (if x2 = x1 then (chk (inb x1 400) (some (s32 o0 1 (Int32.toNatClampNeg x1) (vp_nar .boolean (1 : Int32))))) else (some o0)) else (chk (inb x2 400) (if (g32 o0 0 (Int32.toNatClampNeg x2)) = (48 : Int32) then (F_Reader_dropZerosBehind_7 n x1 (x2 + (-1 : Int32)) (s32 o0 1 (Int32.toNatClampNeg x2) (vp_nar .boolean (1 : Int32)))) else (if x2 = x1 then (chk (inb x1 400) (some (s32 o0 1 (Int32.toNatClampNeg x1) (vp_nar .boolean (1 : Int32))))) else (some o0))))
def F_Reader_dropZerosBehind (x1 : Int32) (o0 : Ob) : Option (Ob) :=
  F_Reader_dropZerosBehind_7 fuel x1 ((g32 o0 3 0) - (1 : Int32)) o0
abbrev ws_Reader_dropZerosBehind : List Cond := Cond.code y_Reader_dropZerosBehind b_Reader_dropZerosBehind 3 (none : Option Jvm.ClassFile.FieldType) :: wsAll
abbrev rm_Reader_dropZerosBehind : Room := { frames := 0, cells := 0, slots := 0, locals := 0 }
set_option maxHeartbeats 4000000 in
set_option maxRecDepth 100000 in
theorem k_Reader_dropZerosBehind_7 {p : Program} {l : Launch} {e : Env} {s : State} {m : MethodId} {args : Array Value} {below : List Frame} {meth : Method} {c : Code} {A : Nat → Prop} {ct dC : Nat → ClassId} {dI : Nat → Nat → Nat} {a0 : Nat → Nat} {r0_4 : Nat} {n0 : Ob}   (C0 : cx wsAll vwCl nx p s m args meth c (dC, dI) (tyA ct) b_Reader_dropZerosBehind 3 (none : Option Jvm.ClassFile.FieldType) R_Reader A [adReader a0])  : ∀ (n : Nat) (x1 : Int32) (x2 : Int32) (o0 : Ob) (H : Heap) (locs : List Loc) (ls : Array Slot), bw_P (dC, dI) vwCl [wReader ct a0 r0_4 o0] H → va_S A s.heap H locs → lv_has ls 3 [(0, .ref (a0 0)), (1, .int x1), (2, .int x2)] → F_Reader_dropZerosBehind_7 n x1 x2 o0 = some n0 → W p l e (headSpec ws_Reader_dropZerosBehind rm_Reader_dropZerosBehind).room s m args below meth c H locs 0 0 (MQ below (bw_Q (dC, dI) vwCl none [wReader ct a0 r0_4 n0] A) args s 0 0 A) (F0 m 7 ls []) := by
  obtain ⟨hx, hb, hr, hml, hown, hlocks, hts, hK, hN, hA, hnx⟩ := id C0
  intro n
  induction n with
  | zero =>
    intro x1 x2 o0 H locs ls hP hS hl h
    cases h
  | succ n ih =>
    intro x1 x2 o0 H locs ls hP hS hl h
    rw [F_Reader_dropZerosBehind_7] at h
    refine lv_iload_n hx hb d_Reader_dropZerosBehind_7 rfl (lv_at hl 2 rfl) ?_
    refine lv_iload_n hx hb d_Reader_dropZerosBehind_8 rfl (lv_at hl 1 rfl) ?_
    refine lv_icmp_le (tgt := 36) hx hb d_Reader_dropZerosBehind_9 (by decide) (fun c1 => ?_) (fun c1 => ?_)
    · have h := ite_t c1 h
      refine lv_iload_n hx hb d_Reader_dropZerosBehind_36 rfl (lv_at hl 2 rfl) ?_
      refine lv_iload_n hx hb d_Reader_dropZerosBehind_37 rfl (lv_at hl 1 rfl) ?_
      refine lv_icmp_ne (tgt := 48) hx hb d_Reader_dropZerosBehind_38 (by decide) (fun c2 => ?_) (fun c2 => ?_)
      · have h := ite_f c2 h
        obtain rfl := res1 h
        exact W.vret hx hb hr (fun t ht hW => ⟨rfl, by rw [ht]; exact hP, hS.F ht⟩) hS.2.2 d_Reader_dropZerosBehind_48
      · have h := ite_t c2 h
        refine lv_aload_n hx hb d_Reader_dropZerosBehind_41 rfl (lv_at hl 0 rfl) ?_
        refine va_get (D := (dC, dI)) (ci := 3) (v := .ref (a0 2)) (C := R_Reader) (T := T_Reader) (N := 12) hx hb hts in_Reader hown hK (hP 0 _ rfl) 0 rfl rfl 1 (by decide) (hts _ fl_Reader_15) (fun _ h9 => h9) rfl d_Reader_dropZerosBehind_42 ?_
        refine lv_iload_n hx hb d_Reader_dropZerosBehind_45 rfl (lv_at hl 1 rfl) ?_
        refine lv_iconst (v := 1) hx hb d_Reader_dropZerosBehind_46 (by decide) ?_
        obtain ⟨hi3, h⟩ := chk_some h
        refine st_Reader_1 hx hb hK hP hN hS 0 rfl (inb_in hi3) d_Reader_dropZerosBehind_47 (fun H locs hP hS => ?_)
        have hP : bw_P (dC, dI) vwCl [wReader ct a0 r0_4 (s32 o0 1 (Int32.toNatClampNeg x1) (vp_nar .boolean (1 : Int32)))] H := hP
        obtain rfl := res1 h
        exact W.vret hx hb hr (fun t ht hW => ⟨rfl, by rw [ht]; exact hP, hS.F ht⟩) hS.2.2 d_Reader_dropZerosBehind_48
    · have h := ite_f c1 h
      refine lv_aload_n hx hb d_Reader_dropZerosBehind_12 rfl (lv_at hl 0 rfl) ?_
      refine va_get (D := (dC, dI)) (ci := 3) (v := .ref (a0 1)) (C := R_Reader) (T := T_Reader) (N := 12) hx hb hts in_Reader hown hK (hP 0 _ rfl) 0 rfl rfl 0 (by decide) (hts _ fl_Reader_9) (fun _ h9 => h9) rfl d_Reader_dropZerosBehind_13 ?_
      refine lv_iload_n hx hb d_Reader_dropZerosBehind_16 rfl (lv_at hl 2 rfl) ?_
      obtain ⟨hi4, h⟩ := chk_some h
      refine va_cald (f := g32 o0 0) hx hb hK (hP 0 _ rfl) 1 2 rfl rfl (inb_in hi4) d_Reader_dropZerosBehind_17 ?_
      refine lv_bipush (v := 48) hx hb d_Reader_dropZerosBehind_18 (by decide) ?_
      refine lv_icmp_ne (tgt := 36) hx hb d_Reader_dropZerosBehind_20 (by decide) (fun c5 => ?_) (fun c5 => ?_)
      · have h := ite_f c5 h
        refine lv_iload_n hx hb d_Reader_dropZerosBehind_36 rfl (lv_at hl 2 rfl) ?_
        refine lv_iload_n hx hb d_Reader_dropZerosBehind_37 rfl (lv_at hl 1 rfl) ?_
        refine lv_icmp_ne (tgt := 48) hx hb d_Reader_dropZerosBehind_38 (by decide) (fun c6 => ?_) (fun c6 => ?_)
        · have h := ite_f c6 h
          obtain rfl := res1 h
          exact W.vret hx hb hr (fun t ht hW => ⟨rfl, by rw [ht]; exact hP, hS.F ht⟩) hS.2.2 d_Reader_dropZerosBehind_48
        · have h := ite_t c6 h
          refine lv_aload_n hx hb d_Reader_dropZerosBehind_41 rfl (lv_at hl 0 rfl) ?_
          refine va_get (D := (dC, dI)) (ci := 3) (v := .ref (a0 2)) (C := R_Reader) (T := T_Reader) (N := 12) hx hb hts in_Reader hown hK (hP 0 _ rfl) 0 rfl rfl 1 (by decide) (hts _ fl_Reader_15) (fun _ h9 => h9) rfl d_Reader_dropZerosBehind_42 ?_
          refine lv_iload_n hx hb d_Reader_dropZerosBehind_45 rfl (lv_at hl 1 rfl) ?_
          refine lv_iconst (v := 1) hx hb d_Reader_dropZerosBehind_46 (by decide) ?_
          obtain ⟨hi7, h⟩ := chk_some h
          refine st_Reader_1 hx hb hK hP hN hS 0 rfl (inb_in hi7) d_Reader_dropZerosBehind_47 (fun H locs hP hS => ?_)
          have hP : bw_P (dC, dI) vwCl [wReader ct a0 r0_4 (s32 o0 1 (Int32.toNatClampNeg x1) (vp_nar .boolean (1 : Int32)))] H := hP
          obtain rfl := res1 h
          exact W.vret hx hb hr (fun t ht hW => ⟨rfl, by rw [ht]; exact hP, hS.F ht⟩) hS.2.2 d_Reader_dropZerosBehind_48
      · have h := ite_t c5 h
        refine lv_aload_n hx hb d_Reader_dropZerosBehind_23 rfl (lv_at hl 0 rfl) ?_
        refine va_get (D := (dC, dI)) (ci := 3) (v := .ref (a0 2)) (C := R_Reader) (T := T_Reader) (N := 12) hx hb hts in_Reader hown hK (hP 0 _ rfl) 0 rfl rfl 1 (by decide) (hts _ fl_Reader_15) (fun _ h9 => h9) rfl d_Reader_dropZerosBehind_24 ?_
        refine lv_iload_n hx hb d_Reader_dropZerosBehind_27 rfl (lv_at hl 2 rfl) ?_
        refine lv_iconst (v := 1) hx hb d_Reader_dropZerosBehind_28 (by decide) ?_
        refine st_Reader_1 hx hb hK hP hN hS 0 rfl (inb_in hi4) d_Reader_dropZerosBehind_29 (fun H locs hP hS => ?_)
        have hP : bw_P (dC, dI) vwCl [wReader ct a0 r0_4 (s32 o0 1 (Int32.toNatClampNeg x2) (vp_nar .boolean (1 : Int32)))] H := hP
        refine lv_iinc (v := (x2 + (-1 : Int32))) (lv' := [(2, .int (x2 + (-1 : Int32))), (0, .ref (a0 0)), (1, .int x1)]) hx hb d_Reader_dropZerosBehind_30 hl (k := 2) rfl rfl (by decide) rfl (fun ls hl => ?_)
        refine lv_goto (tgt := 7) hx hb d_Reader_dropZerosBehind_33 (by decide) ?_
        exact ih x1 (x2 + (-1 : Int32)) (s32 o0 1 (Int32.toNatClampNeg x2) (vp_nar .boolean (1 : Int32))) _ _ _ hP hS (lv_sub hl [1, 2, 0] rfl) h
set_option maxHeartbeats 4000000 in
set_option maxRecDepth 100000 in
theorem c_Reader_dropZerosBehind (l : Launch) (ct dC : Nat → ClassId) (dI : Nat → Nat → Nat) (a0 : Nat → Nat) (r0_4 : Nat) (sz : Nat) (x1 : Int32) (o0 : Ob) (n0 : Ob) (hF : F_Reader_dropZerosBehind x1 o0 = some n0) : Met l y_Reader_dropZerosBehind ws_Reader_dropZerosBehind rm_Reader_dropZerosBehind (bw_Pc [.ref (a0 0), .int x1] (dC, dI) vwCl (tyA ct) [wReader ct a0 r0_4 o0] sz nx) (bw_Q (dC, dI) vwCl none [wReader ct a0 r0_4 n0] (bw_A [adReader a0] sz)) 0 0 (bw_A [adReader a0] sz) := by
  refine Met.ofW (cc := b_Reader_dropZerosBehind) (maxL := 3) (ret := (none : Option Jvm.ClassFile.FieldType)) (by decide) rfl ?_
  intro p e s m args below meth c s₁ B hml hv
  obtain ⟨rfl, hsz, hP, hK, hN0, hnx⟩ := hv
  have hx := B.exec
  have hb := B.bytes
  have hr := B.returns
  have hts : ∀ w ∈ wsAll, w.before [.ref (a0 0), .int x1].toArray s = true := fun w h9 => atoms_spec (ws := ws_Reader_dropZerosBehind) B.pre w (List.mem_cons_of_mem _ h9)
  have hown : s.vm.findClass R_Reader = some m.cls := findClass_of_methodNamed B.named
  have hlocks := B.notSynchronized
  subst hsz
  have hN : bw_N (bw_A [adReader a0] s.heap.size) [adReader a0] := hN0.self s.heap.size
  generalize hAe : bw_A [adReader a0] s.heap.size = A at hN ⊢
  have hA : ∀ q : Nat, s.heap.size ≤ q → A q := fun q h => by rw [← hAe]; exact Or.inr h
  have hS : va_S A s.heap s.heap [] := va_S.rf
  have hl := lv_entry ([.ref (a0 0), .int x1]) (n := 3) (Nat.le_of_ble_eq_true rfl)
  rw [lg_entry_eq]
  generalize (lg_sl ([.ref (a0 0), .int x1]) ++ List.replicate (3 - (lg_sl ([.ref (a0 0), .int x1])).length) Slot.unset).toArray = ls at hl ⊢
  have hl : lv_has ls 3 [(0, .ref (a0 0)), (1, .int x1)] := hl
  have C0 : cx wsAll vwCl nx p s m [.ref (a0 0), .int x1].toArray meth c (dC, dI) (tyA ct) b_Reader_dropZerosBehind 3 (none : Option Jvm.ClassFile.FieldType) R_Reader A [adReader a0] := ⟨hx, hb, hr, hml, hown, hlocks, hts, hK, hN, hA, hnx⟩
  have h := hF
  rw [F_Reader_dropZerosBehind] at h
  refine lv_aload_n hx hb d_Reader_dropZerosBehind_0 rfl (lv_at hl 0 rfl) ?_
  refine va_get (D := (dC, dI)) (ci := 3) (v := .int (g32 o0 3 0)) (C := R_Reader) (T := T_Reader) (N := 12) hx hb hts in_Reader hown hK (hP 0 _ rfl) 0 rfl rfl 3 (by decide) (hts _ fl_Reader_23) (fun _ h9 => h9) rfl d_Reader_dropZerosBehind_1 ?_
  refine lv_iconst (v := 1) hx hb d_Reader_dropZerosBehind_4 (by decide) ?_
  refine lv_isub hx hb d_Reader_dropZerosBehind_5 ?_
  refine lv_istore_n (lv' := [(2, .int ((g32 o0 3 0) - (1 : Int32))), (0, .ref (a0 0)), (1, .int x1)]) hx hb d_Reader_dropZerosBehind_6 rfl hl (by decide) rfl (fun ls hl => ?_)
  exact k_Reader_dropZerosBehind_7 C0 fuel x1 ((g32 o0 3 0) - (1 : Int32)) o0 _ _ _ hP hS (lv_sub hl [1, 2, 0] rfl) h
theorem g_Reader_156 : GoodIn wsAll (wsV R_Reader 156 R_Reader y_Reader_readDigits ws_Reader_readDigits) := gd_V ml_Reader_156 im_Reader_readDigits se_Reader_readDigits ini_Reader cd_Reader_readDigits
theorem g_Reader_163 : GoodIn wsAll (wsV R_Reader 163 R_Steps y_Steps_add ws_Steps_add) := gd_V ml_Reader_163 im_Steps_add se_Steps_add ini_Steps cd_Steps_add
theorem g_Reader_160 : GoodIn wsAll (wsV R_Reader 160 R_Reader y_Reader_dropZerosBehind ws_Reader_dropZerosBehind) := gd_V ml_Reader_160 im_Reader_dropZerosBehind se_Reader_dropZerosBehind ini_Reader cd_Reader_dropZerosBehind
def F_Reader_readNumber_101 (o1 : Ob)  : Nat → Int32 → Int32 → Int32 → Int32 → Ob → Ob → Option (Bool × Ob × Ob)
  | 0, _, _, _, _, _, _ => none
  | n + 1, x2, x3, x4, x5, o0, o2 =>
    if (g32 o0 3 0) ≤ x5 then (bind1 (F_Reader_dropZerosBehind x4 o0) (fun o_19 => bind1 (F_Steps_add (1 : Int32) x2 x3 o2) (fun o_21 => some (true, o_19, o_21)))) else (F_Reader_readNumber_101 o1 n x2 (x3 * (10 : Int32)) x4 (x5 + (1 : Int32)) o0 o2)
def F_Reader_readNumber_48 (o1 : Ob)  (x2 : Int32) (o0 o2 : Ob) : Option (Bool × Ob × Ob) :=
  bind1 (F_Reader_next o0) (fun v9 => if v9 = (46 : Int32) then (bind2 (F_Reader_readDigits x2 (3 : Int32) (s32 o0 3 0 ((g32 o0 3 0) + (1 : Int32)))) (fun v14 o_15 => if (g32 o_15 3 0) = ((g32 o0 3 0) + (1 : Int32)) then (some (false, o_15, o2)) else (F_Reader_readNumber_101 o1 fuel v14 (1 : Int32) (g32 o0 3 0) ((g32 o0 3 0) + (1 : Int32)) o_15 o2))) else (bind1 (F_Steps_add (1 : Int32) x2 (1 : Int32) o2) (fun o_12 => some (true, o0, o_12))))
def F_Reader_readNumber_14 (o1 : Ob)  : Nat → Int32 → Int32 → Ob → Ob → Option (Bool × Ob × Ob)
  | 0, _, _, _, _ => none
  | n + 1, x2, x3, o0, o2 =>
    if ((g32 o0 3 0) - (1 : Int32)) ≤ x3 then (F_Reader_readNumber_48 o1 x2 o0 o2) else (chk (inb x3 400) (if (g32 o0 0 (Int32.toNatClampNeg x3)) = (48 : Int32) then (F_Reader_readNumber_14 o1 n x2 (x3 + (1 : Int32)) (s32 o0 1 (Int32.toNatClampNeg x3) (vp_nar .boolean (1 : Int32))) o2) else (F_Reader_readNumber_48 o1 x2 o0 o2)))
def F_Reader_readNumber  (o0 o1 o2 : Ob) : Option (Bool × Ob × Ob) :=
  bind2 (F_Reader_readDigits (0 : Int32) (5 : Int32) o0) (fun v2 o_3 => F_Reader_readNumber_14 o1 fuel v2 (g32 o0 3 0) o_3 o2)
abbrev ws_Reader_readNumber : List Cond := Cond.code y_Reader_readNumber b_Reader_readNumber 6 (some .boolean) :: wsAll
abbrev rm_Reader_readNumber : Room := { frames := 1, cells := 0, slots := 0, locals := 24 }
set_option maxHeartbeats 4000000 in
set_option maxRecDepth 100000 in
theorem k_Reader_readNumber_101 {p : Program} {l : Launch} {e : Env} {s : State} {m : MethodId} {args : Array Value} {below : List Frame} {meth : Method} {c : Code} {A : Nat → Prop} {ct dC : Nat → ClassId} {dI : Nat → Nat → Nat} {a0 a1 a2 : Nat → Nat}  {r : Bool} {n0 n2 : Ob} {o1 : Ob}  (C0 : cx wsAll vwCl nx p s m args meth c (dC, dI) (tyA ct) b_Reader_readNumber 6 (some .boolean) R_Reader A [adReader a0, adText a1, adSteps a2])  : ∀ (n : Nat) (x2 : Int32) (x3 : Int32) (x4 : Int32) (x5 : Int32) (o0 o2 : Ob) (H : Heap) (locs : List Loc) (ls : Array Slot), bw_P (dC, dI) vwCl [wReader ct a0 (a1 0) o0, wText ct a1 (a2 0) o1, wSteps ct a2 o2] H → va_S A s.heap H locs → lv_has ls 6 [(0, .ref (a0 0)), (2, .int x2), (3, .int x3), (4, .int x4), (5, .int x5)] → F_Reader_readNumber_101 o1 n x2 x3 x4 x5 o0 o2 = some (r, n0, n2) → W p l e (headSpec ws_Reader_readNumber rm_Reader_readNumber).room s m args below meth c H locs 0 0 (MQ below (bw_Q (dC, dI) vwCl (some (.int (b2i r))) [wReader ct a0 (a1 0) n0, wText ct a1 (a2 0) o1, wSteps ct a2 n2] A) args s 0 0 A) (F0 m 101 ls []) := by
  obtain ⟨hx, hb, hr, hml, hown, hlocks, hts, hK, hN, hA, hnx⟩ := id C0
  intro n
  induction n with
  | zero =>
    intro x2 x3 x4 x5 o0 o2 H locs ls hP hS hl h
    cases h
  | succ n ih =>
    intro x2 x3 x4 x5 o0 o2 H locs ls hP hS hl h
    rw [F_Reader_readNumber_101] at h
    refine lv_iload hx hb d_Reader_readNumber_101 (lv_at hl 4 rfl) ?_
    refine lv_aload_n hx hb d_Reader_readNumber_103 rfl (lv_at hl 0 rfl) ?_
    refine va_get (D := (dC, dI)) (ci := 3) (v := .int (g32 o0 3 0)) (C := R_Reader) (T := T_Reader) (N := 12) hx hb hts in_Reader hown hK (hP 0 _ rfl) 0 rfl rfl 3 (by decide) (hts _ fl_Reader_23) (fun _ h9 => h9) rfl d_Reader_readNumber_104 ?_
    refine lv_icmp_ge (tgt := 121) hx hb d_Reader_readNumber_107 (by decide) (fun c17 => ?_) (fun c17 => ?_)
    · have h := ite_t c17 h
      refine lv_aload_n hx hb d_Reader_readNumber_121 rfl (lv_at hl 0 rfl) ?_
      refine lv_iload hx hb d_Reader_readNumber_122 (lv_at hl 3 rfl) ?_
      obtain ⟨o_19, hG18, h⟩ := bind1_some h
      refine bw_call (Lc := [wReader ct a0 (a1 0) o0]) (Lc' := [wReader ct a0 (a1 0) o_19]) (L' := [wReader ct a0 (a1 0) o_19, wText ct a1 (a2 0) o1, wSteps ct a2 o2]) [0] (va_runV (As := [.int x4]) (rest := []) ⟨hx, hb, hml, hown, hts⟩ (c_Reader_dropZerosBehind l ct dC dI a0 (a1 0) _ x4 o0 o_19 hG18) (cwV 1 hts g_Reader_160 rfl rfl rfl (by decide +kernel) ⟨Nat.le_of_ble_eq_true rfl, Nat.le_of_ble_eq_true rfl⟩) ⟨bw_blind nx_call, va_recv hK (hP 0 _ rfl) (ci := 3) (q0 := 0) rfl rfl, fun U hU hW => ⟨rfl, by rw [hU], by rw [hU]; exact hP.sub [0] rfl, va_K.moved hW.alike hK, (hN.sub [0] (by decide) rfl).weaken (fun _ _ => trivial), nx_warm hW hnx⟩⟩ rfl rfl hl.1 rfl (Nat.le_of_ble_eq_true rfl) d_Reader_readNumber_124 ⟨Nat.le_of_ble_eq_true rfl, Nat.le_of_ble_eq_true rfl⟩) hP hN hS hA rfl rfl rfl (fun H locs hP hS => ?_)
      refine lv_aload_n hx hb d_Reader_readNumber_127 rfl (lv_at hl 0 rfl) ?_
      refine va_get (D := (dC, dI)) (ci := 3) (v := .ref (a1 0)) (C := R_Reader) (T := T_Reader) (N := 12) hx hb hts in_Reader hown hK (hP 0 _ rfl) 0 rfl rfl 4 (by decide) (hts _ fl_Reader_29) (fun _ h9 => h9) rfl d_Reader_readNumber_128 ?_
      refine va_get (D := (dC, dI)) (ci := 2) (v := .ref (a2 0)) (C := R_Text) (T := T_Text) (N := 12) hx hb hts in_Text hown hK (hP 1 _ rfl) 0 rfl rfl 2 (by decide) (hts _ fl_Reader_128) (fun _ h9 => h9) rfl d_Reader_readNumber_131 ?_
      refine lv_iconst (v := 1) hx hb d_Reader_readNumber_134 (by decide) ?_
      refine lv_iload_n hx hb d_Reader_readNumber_135 rfl (lv_at hl 1 rfl) ?_
      refine lv_iload_n hx hb d_Reader_readNumber_136 rfl (lv_at hl 2 rfl) ?_
      obtain ⟨o_21, hG20, h⟩ := bind1_some h
      refine bw_call (Lc := [wSteps ct a2 o2]) (Lc' := [wSteps ct a2 o_21]) (L' := [wReader ct a0 (a1 0) o_19, wText ct a1 (a2 0) o1, wSteps ct a2 o_21]) [2] (va_runV (As := [.int (1 : Int32), .int x2, .int x3]) (rest := []) ⟨hx, hb, hml, hown, hts⟩ (c_Steps_add l ct dC dI a2 _ (1 : Int32) x2 x3 o2 o_21 hG20) (cwV 3 hts g_Reader_163 rfl rfl rfl (by decide +kernel) ⟨Nat.le_of_ble_eq_true rfl, Nat.le_of_ble_eq_true rfl⟩) ⟨bw_blind nx_call, va_recv hK (hP 2 _ rfl) (ci := 0) (q0 := 0) rfl rfl, fun U hU hW => ⟨rfl, by rw [hU], by rw [hU]; exact hP.sub [2] rfl, va_K.moved hW.alike hK, (hN.sub [2] (by decide) rfl).weaken (fun _ _ => trivial), nx_warm hW hnx⟩⟩ rfl rfl hl.1 rfl (Nat.le_of_ble_eq_true rfl) d_Reader_readNumber_137 ⟨Nat.le_of_ble_eq_true rfl, Nat.le_of_ble_eq_true rfl⟩) hP hN hS hA rfl rfl rfl (fun H locs hP hS => ?_)
      refine lv_iconst (v := 1) hx hb d_Reader_readNumber_140 (by decide) ?_
      obtain ⟨rfl, rfl, rfl⟩ := res3 h
      exact W.zret hx hb hr rfl (fun t ht hW => ⟨rfl, by rw [ht]; exact hP, hS.F ht⟩) hS.2.2 d_Reader_readNumber_141
    · have h := ite_f c17 h
      refine lv_iload_n hx hb d_Reader_readNumber_110 rfl (lv_at hl 2 rfl) ?_
      refine lv_bipush (v := 10) hx hb d_Reader_readNumber_111 (by decide) ?_
      refine lv_imul hx hb d_Reader_readNumber_113 ?_
      refine lv_istore_n (lv' := [(3, .int (x3 * (10 : Int32))), (0, .ref (a0 0)), (2, .int x2), (4, .int x4), (5, .int x5)]) hx hb d_Reader_readNumber_114 rfl hl (by decide) rfl (fun ls hl => ?_)
      refine lv_iinc (v := (x5 + (1 : Int32))) (lv' := [(5, .int (x5 + (1 : Int32))), (3, .int (x3 * (10 : Int32))), (0, .ref (a0 0)), (2, .int x2), (4, .int x4)]) hx hb d_Reader_readNumber_115 hl (k := 4) rfl rfl (by decide) rfl (fun ls hl => ?_)
      refine lv_goto (tgt := 101) hx hb d_Reader_readNumber_118 (by decide) ?_
      exact ih x2 (x3 * (10 : Int32)) x4 (x5 + (1 : Int32)) o0 o2 _ _ _ hP hS (lv_sub hl [2, 3, 1, 4, 0] rfl) h
set_option maxHeartbeats 4000000 in
set_option maxRecDepth 100000 in
theorem k_Reader_readNumber_48 {p : Program} {l : Launch} {e : Env} {s : State} {m : MethodId} {args : Array Value} {below : List Frame} {meth : Method} {c : Code} {A : Nat → Prop} {ct dC : Nat → ClassId} {dI : Nat → Nat → Nat} {a0 a1 a2 : Nat → Nat}  {r : Bool} {n0 n2 : Ob} {o1 : Ob}  (C0 : cx wsAll vwCl nx p s m args meth c (dC, dI) (tyA ct) b_Reader_readNumber 6 (some .boolean) R_Reader A [adReader a0, adText a1, adSteps a2])  : ∀ (x2 : Int32) (o0 o2 : Ob) (H : Heap) (locs : List Loc) (ls : Array Slot), bw_P (dC, dI) vwCl [wReader ct a0 (a1 0) o0, wText ct a1 (a2 0) o1, wSteps ct a2 o2] H → va_S A s.heap H locs → lv_has ls 6 [(0, .ref (a0 0)), (2, .int x2)] → F_Reader_readNumber_48 o1 x2 o0 o2 = some (r, n0, n2) → W p l e (headSpec ws_Reader_readNumber rm_Reader_readNumber).room s m args below meth c H locs 0 0 (MQ below (bw_Q (dC, dI) vwCl (some (.int (b2i r))) [wReader ct a0 (a1 0) n0, wText ct a1 (a2 0) o1, wSteps ct a2 n2] A) args s 0 0 A) (F0 m 48 ls []) := by
  obtain ⟨hx, hb, hr, hml, hown, hlocks, hts, hK, hN, hA, hnx⟩ := id C0
  intro x2 o0 o2 H locs ls hP hS hl h
  rw [F_Reader_readNumber_48] at h
  refine lv_iconst (v := 1) hx hb d_Reader_readNumber_48 (by decide) ?_
  refine lv_istore_n (lv' := [(3, .int (1 : Int32)), (0, .ref (a0 0)), (2, .int x2)]) hx hb d_Reader_readNumber_49 rfl hl (by decide) rfl (fun ls hl => ?_)
  refine lv_aload_n hx hb d_Reader_readNumber_50 rfl (lv_at hl 1 rfl) ?_
  refine va_get (D := (dC, dI)) (ci := 3) (v := .int (g32 o0 3 0)) (C := R_Reader) (T := T_Reader) (N := 12) hx hb hts in_Reader hown hK (hP 0 _ rfl) 0 rfl rfl 3 (by decide) (hts _ fl_Reader_23) (fun _ h9 => h9) rfl d_Reader_readNumber_51 ?_
  refine lv_istore (lv' := [(4, .int (g32 o0 3 0)), (3, .int (1 : Int32)), (0, .ref (a0 0)), (2, .int x2)]) hx hb d_Reader_readNumber_54 hl (by decide) rfl (fun ls hl => ?_)
  refine lv_aload_n hx hb d_Reader_readNumber_56 rfl (lv_at hl 2 rfl) ?_
  obtain ⟨v9, hG8, h⟩ := bind1_some h
  refine bw_callR (va_runV (As := []) (rest := []) ⟨hx, hb, hml, hown, hts⟩ (c_Reader_next l ct dC dI a0 (a1 0) _ o0 v9 hG8) (cwV 0 hts g_Reader_78 rfl rfl rfl (by decide +kernel) ⟨Nat.le_of_ble_eq_true rfl, Nat.le_of_ble_eq_true rfl⟩) ⟨bw_blind nx_call, va_recv hK (hP 0 _ rfl) (ci := 3) (q0 := 0) rfl rfl, fun U hU hW => ⟨rfl, by rw [hU], by rw [hU]; exact hP.sub [0] rfl, va_K.moved hW.alike hK, (hN.sub [0] (by decide) rfl).weaken (fun _ _ => trivial), nx_warm hW hnx⟩⟩ rfl rfl hl.1 rfl (Nat.le_of_ble_eq_true rfl) d_Reader_readNumber_57 ⟨Nat.le_of_ble_eq_true rfl, Nat.le_of_ble_eq_true rfl⟩) ?_
  refine lv_bipush (v := 46) hx hb d_Reader_readNumber_60 (by decide) ?_
  refine lv_icmp_ne (tgt := 127) hx hb d_Reader_readNumber_62 (by decide) (fun c10 => ?_) (fun c10 => ?_)
  · have h := ite_f c10 h
    refine lv_aload_n hx hb d_Reader_readNumber_127 rfl (lv_at hl 2 rfl) ?_
    refine va_get (D := (dC, dI)) (ci := 3) (v := .ref (a1 0)) (C := R_Reader) (T := T_Reader) (N := 12) hx hb hts in_Reader hown hK (hP 0 _ rfl) 0 rfl rfl 4 (by decide) (hts _ fl_Reader_29) (fun _ h9 => h9) rfl d_Reader_readNumber_128 ?_
    refine va_get (D := (dC, dI)) (ci := 2) (v := .ref (a2 0)) (C := R_Text) (T := T_Text) (N := 12) hx hb hts in_Text hown hK (hP 1 _ rfl) 0 rfl rfl 2 (by decide) (hts _ fl_Reader_128) (fun _ h9 => h9) rfl d_Reader_readNumber_131 ?_
    refine lv_iconst (v := 1) hx hb d_Reader_readNumber_134 (by decide) ?_
    refine lv_iload_n hx hb d_Reader_readNumber_135 rfl (lv_at hl 3 rfl) ?_
    refine lv_iload_n hx hb d_Reader_readNumber_136 rfl (lv_at hl 1 rfl) ?_
    obtain ⟨o_12, hG11, h⟩ := bind1_some h
    refine bw_call (Lc := [wSteps ct a2 o2]) (Lc' := [wSteps ct a2 o_12]) (L' := [wReader ct a0 (a1 0) o0, wText ct a1 (a2 0) o1, wSteps ct a2 o_12]) [2] (va_runV (As := [.int (1 : Int32), .int x2, .int (1 : Int32)]) (rest := []) ⟨hx, hb, hml, hown, hts⟩ (c_Steps_add l ct dC dI a2 _ (1 : Int32) x2 (1 : Int32) o2 o_12 hG11) (cwV 3 hts g_Reader_163 rfl rfl rfl (by decide +kernel) ⟨Nat.le_of_ble_eq_true rfl, Nat.le_of_ble_eq_true rfl⟩) ⟨bw_blind nx_call, va_recv hK (hP 2 _ rfl) (ci := 0) (q0 := 0) rfl rfl, fun U hU hW => ⟨rfl, by rw [hU], by rw [hU]; exact hP.sub [2] rfl, va_K.moved hW.alike hK, (hN.sub [2] (by decide) rfl).weaken (fun _ _ => trivial), nx_warm hW hnx⟩⟩ rfl rfl hl.1 rfl (Nat.le_of_ble_eq_true rfl) d_Reader_readNumber_137 ⟨Nat.le_of_ble_eq_true rfl, Nat.le_of_ble_eq_true rfl⟩) hP hN hS hA rfl rfl rfl (fun H locs hP hS => ?_)
    refine lv_iconst (v := 1) hx hb d_Reader_readNumber_140 (by decide) ?_
    obtain ⟨rfl, rfl, rfl⟩ := res3 h
    exact W.zret hx hb hr rfl (fun t ht hW => ⟨rfl, by rw [ht]; exact hP, hS.F ht⟩) hS.2.2 d_Reader_readNumber_141
  · have h := ite_t c10 h
    refine lv_aload_n hx hb d_Reader_readNumber_65 rfl (lv_at hl 2 rfl) ?_
    refine lv_dup hx hb d_Reader_readNumber_66 rfl ?_
    refine va_get (D := (dC, dI)) (ci := 3) (v := .int (g32 o0 3 0)) (C := R_Reader) (T := T_Reader) (N := 12) hx hb hts in_Reader hown hK (hP 0 _ rfl) 0 rfl rfl 3 (by decide) (hts _ fl_Reader_23) (fun _ h9 => h9) rfl d_Reader_readNumber_67 ?_
    refine lv_iconst (v := 1) hx hb d_Reader_readNumber_70 (by decide) ?_
    refine lv_iadd hx hb d_Reader_readNumber_71 ?_
    refine pt_Reader_3 hx hb hts hown hK hP hN hS 0 rfl (hts _ fl_Reader_23) d_Reader_readNumber_72 (fun H locs hP hS => ?_)
    have hP : bw_P (dC, dI) vwCl [wReader ct a0 (a1 0) (s32 o0 3 0 ((g32 o0 3 0) + (1 : Int32))), wText ct a1 (a2 0) o1, wSteps ct a2 o2] H := hP
    refine lv_aload_n hx hb d_Reader_readNumber_75 rfl (lv_at hl 2 rfl) ?_
    refine lv_iload_n hx hb d_Reader_readNumber_76 rfl (lv_at hl 3 rfl) ?_
    refine lv_iconst (v := 3) hx hb d_Reader_readNumber_77 (by decide) ?_
    obtain ⟨v14, o_15, hG13, h⟩ := bind2_some h
    refine bw_call (Lc := [wReader ct a0 (a1 0) (s32 o0 3 0 ((g32 o0 3 0) + (1 : Int32)))]) (Lc' := [wReader ct a0 (a1 0) o_15]) (L' := [wReader ct a0 (a1 0) o_15, wText ct a1 (a2 0) o1, wSteps ct a2 o2]) [0] (va_runV (As := [.int x2, .int (3 : Int32)]) (rest := []) ⟨hx, hb, hml, hown, hts⟩ (c_Reader_readDigits l ct dC dI a0 (a1 0) _ x2 (3 : Int32) (s32 o0 3 0 ((g32 o0 3 0) + (1 : Int32))) v14 o_15 hG13) (cwV 2 hts g_Reader_156 rfl rfl rfl (by decide +kernel) ⟨Nat.le_of_ble_eq_true rfl, Nat.le_of_ble_eq_true rfl⟩) ⟨bw_blind nx_call, va_recv hK (hP 0 _ rfl) (ci := 3) (q0 := 0) rfl rfl, fun U hU hW => ⟨rfl, by rw [hU], by rw [hU]; exact hP.sub [0] rfl, va_K.moved hW.alike hK, (hN.sub [0] (by decide) rfl).weaken (fun _ _ => trivial), nx_warm hW hnx⟩⟩ rfl rfl hl.1 rfl (Nat.le_of_ble_eq_true rfl) d_Reader_readNumber_78 ⟨Nat.le_of_ble_eq_true rfl, Nat.le_of_ble_eq_true rfl⟩) hP hN hS hA rfl rfl rfl (fun H locs hP hS => ?_)
    refine lv_istore_n (lv' := [(2, .int v14), (4, .int (g32 o0 3 0)), (3, .int (1 : Int32)), (0, .ref (a0 0))]) hx hb d_Reader_readNumber_81 rfl hl (by decide) rfl (fun ls hl => ?_)
    refine lv_aload_n hx hb d_Reader_readNumber_82 rfl (lv_at hl 3 rfl) ?_
    refine va_get (D := (dC, dI)) (ci := 3) (v := .int (g32 o_15 3 0)) (C := R_Reader) (T := T_Reader) (N := 12) hx hb hts in_Reader hown hK (hP 0 _ rfl) 0 rfl rfl 3 (by decide) (hts _ fl_Reader_23) (fun _ h9 => h9) rfl d_Reader_readNumber_83 ?_
    refine lv_iload hx hb d_Reader_readNumber_86 (lv_at hl 1 rfl) ?_
    refine lv_iconst (v := 1) hx hb d_Reader_readNumber_88 (by decide) ?_
    refine lv_iadd hx hb d_Reader_readNumber_89 ?_
    refine lv_icmp_ne (tgt := 95) hx hb d_Reader_readNumber_90 (by decide) (fun c16 => ?_) (fun c16 => ?_)
    · have h := ite_f c16 h
      refine lv_iload hx hb d_Reader_readNumber_95 (lv_at hl 1 rfl) ?_
      refine lv_iconst (v := 1) hx hb d_Reader_readNumber_97 (by decide) ?_
      refine lv_iadd hx hb d_Reader_readNumber_98 ?_
      refine lv_istore (lv' := [(5, .int ((g32 o0 3 0) + (1 : Int32))), (2, .int v14), (4, .int (g32 o0 3 0)), (3, .int (1 : Int32)), (0, .ref (a0 0))]) hx hb d_Reader_readNumber_99 hl (by decide) rfl (fun ls hl => ?_)
      exact k_Reader_readNumber_101 C0 fuel v14 (1 : Int32) (g32 o0 3 0) ((g32 o0 3 0) + (1 : Int32)) o_15 o2 _ _ _ hP hS (lv_sub hl [4, 1, 3, 2, 0] rfl) h
    · have h := ite_t c16 h
      refine lv_iconst (v := 0) hx hb d_Reader_readNumber_93 (by decide) ?_
      obtain ⟨rfl, rfl, rfl⟩ := res3 h
      exact W.zret hx hb hr rfl (fun t ht hW => ⟨rfl, by rw [ht]; exact hP, hS.F ht⟩) hS.2.2 d_Reader_readNumber_94
set_option maxHeartbeats 4000000 in
set_option maxRecDepth 100000 in
theorem k_Reader_readNumber_14 {p : Program} {l : Launch} {e : Env} {s : State} {m : MethodId} {args : Array Value} {below : List Frame} {meth : Method} {c : Code} {A : Nat → Prop} {ct dC : Nat → ClassId} {dI : Nat → Nat → Nat} {a0 a1 a2 : Nat → Nat}  {r : Bool} {n0 n2 : Ob} {o1 : Ob}  (C0 : cx wsAll vwCl nx p s m args meth c (dC, dI) (tyA ct) b_Reader_readNumber 6 (some .boolean) R_Reader A [adReader a0, adText a1, adSteps a2])  : ∀ (n : Nat) (x2 : Int32) (x3 : Int32) (o0 o2 : Ob) (H : Heap) (locs : List Loc) (ls : Array Slot), bw_P (dC, dI) vwCl [wReader ct a0 (a1 0) o0, wText ct a1 (a2 0) o1, wSteps ct a2 o2] H → va_S A s.heap H locs → lv_has ls 6 [(0, .ref (a0 0)), (2, .int x2), (3, .int x3)] → F_Reader_readNumber_14 o1 n x2 x3 o0 o2 = some (r, n0, n2) → W p l e (headSpec ws_Reader_readNumber rm_Reader_readNumber).room s m args below meth c H locs 0 0 (MQ below (bw_Q (dC, dI) vwCl (some (.int (b2i r))) [wReader ct a0 (a1 0) n0, wText ct a1 (a2 0) o1, wSteps ct a2 n2] A) args s 0 0 A) (F0 m 14 ls []) := by
  obtain ⟨hx, hb, hr, hml, hown, hlocks, hts, hK, hN, hA, hnx⟩ := id C0
  intro n
  induction n with
  | zero =>
    intro x2 x3 o0 o2 H locs ls hP hS hl h
    cases h
  | succ n ih =>
    intro x2 x3 o0 o2 H locs ls hP hS hl h
    rw [F_Reader_readNumber_14] at h
    refine lv_iload_n hx hb d_Reader_readNumber_14 rfl (lv_at hl 2 rfl) ?_
    refine lv_aload_n hx hb d_Reader_readNumber_15 rfl (lv_at hl 0 rfl) ?_
    refine va_get (D := (dC, dI)) (ci := 3) (v := .int (g32 o0 3 0)) (C := R_Reader) (T := T_Reader) (N := 12) hx hb hts in_Reader hown hK (hP 0 _ rfl) 0 rfl rfl 3 (by decide) (hts _ fl_Reader_23) (fun _ h9 => h9) rfl d_Reader_readNumber_16 ?_
    refine lv_iconst (v := 1) hx hb d_Reader_readNumber_19 (by decide) ?_
    refine lv_isub hx hb d_Reader_readNumber_20 ?_
    refine lv_icmp_ge (tgt := 48) hx hb d_Reader_readNumber_21 (by decide) (fun c4 => ?_) (fun c4 => ?_)
    · have h := ite_t c4 h
      exact k_Reader_readNumber_48 C0 x2 o0 o2 _ _ _ hP hS (lv_sub hl [0, 1] rfl) h
    · have h := ite_f c4 h
      refine lv_aload_n hx hb d_Reader_readNumber_24 rfl (lv_at hl 0 rfl) ?_
      refine va_get (D := (dC, dI)) (ci := 3) (v := .ref (a0 1)) (C := R_Reader) (T := T_Reader) (N := 12) hx hb hts in_Reader hown hK (hP 0 _ rfl) 0 rfl rfl 0 (by decide) (hts _ fl_Reader_9) (fun _ h9 => h9) rfl d_Reader_readNumber_25 ?_
      refine lv_iload_n hx hb d_Reader_readNumber_28 rfl (lv_at hl 2 rfl) ?_
      obtain ⟨hi5, h⟩ := chk_some h
      refine va_cald (f := g32 o0 0) hx hb hK (hP 0 _ rfl) 1 2 rfl rfl (inb_in hi5) d_Reader_readNumber_29 ?_
      refine lv_bipush (v := 48) hx hb d_Reader_readNumber_30 (by decide) ?_
      refine lv_icmp_ne (tgt := 48) hx hb d_Reader_readNumber_32 (by decide) (fun c6 => ?_) (fun c6 => ?_)
      · have h := ite_f c6 h
        exact k_Reader_readNumber_48 C0 x2 o0 o2 _ _ _ hP hS (lv_sub hl [0, 1] rfl) h
      · have h := ite_t c6 h
        refine lv_aload_n hx hb d_Reader_readNumber_35 rfl (lv_at hl 0 rfl) ?_
        refine va_get (D := (dC, dI)) (ci := 3) (v := .ref (a0 2)) (C := R_Reader) (T := T_Reader) (N := 12) hx hb hts in_Reader hown hK (hP 0 _ rfl) 0 rfl rfl 1 (by decide) (hts _ fl_Reader_15) (fun _ h9 => h9) rfl d_Reader_readNumber_36 ?_
        refine lv_iload_n hx hb d_Reader_readNumber_39 rfl (lv_at hl 2 rfl) ?_
        refine lv_iconst (v := 1) hx hb d_Reader_readNumber_40 (by decide) ?_
        refine st_Reader_1 hx hb hK hP hN hS 0 rfl (inb_in hi5) d_Reader_readNumber_41 (fun H locs hP hS => ?_)
        have hP : bw_P (dC, dI) vwCl [wReader ct a0 (a1 0) (s32 o0 1 (Int32.toNatClampNeg x3) (vp_nar .boolean (1 : Int32))), wText ct a1 (a2 0) o1, wSteps ct a2 o2] H := hP
        refine lv_iinc (v := (x3 + (1 : Int32))) (lv' := [(3, .int (x3 + (1 : Int32))), (0, .ref (a0 0)), (2, .int x2)]) hx hb d_Reader_readNumber_42 hl (k := 2) rfl rfl (by decide) rfl (fun ls hl => ?_)
        refine lv_goto (tgt := 14) hx hb d_Reader_readNumber_45 (by decide) ?_
        exact ih x2 (x3 + (1 : Int32)) (s32 o0 1 (Int32.toNatClampNeg x3) (vp_nar .boolean (1 : Int32))) o2 _ _ _ hP hS (lv_sub hl [1, 2, 0] rfl) h
set_option maxHeartbeats 4000000 in
set_option maxRecDepth 100000 in
theorem c_Reader_readNumber (l : Launch) (ct dC : Nat → ClassId) (dI : Nat → Nat → Nat) (a0 a1 a2 : Nat → Nat)  (sz : Nat)  (o0 o1 o2 : Ob) (r : Bool) (n0 n2 : Ob) (hF : F_Reader_readNumber o0 o1 o2 = some (r, n0, n2)) : Met l y_Reader_readNumber ws_Reader_readNumber rm_Reader_readNumber (bw_Pc [.ref (a0 0)] (dC, dI) vwCl (tyA ct) [wReader ct a0 (a1 0) o0, wText ct a1 (a2 0) o1, wSteps ct a2 o2] sz nx) (bw_Q (dC, dI) vwCl (some (.int (b2i r))) [wReader ct a0 (a1 0) n0, wText ct a1 (a2 0) o1, wSteps ct a2 n2] (bw_A [adReader a0, adText a1, adSteps a2] sz)) 0 0 (bw_A [adReader a0, adText a1, adSteps a2] sz) := by
  refine Met.ofW (cc := b_Reader_readNumber) (maxL := 6) (ret := (some .boolean)) (by decide) rfl ?_
  intro p e s m args below meth c s₁ B hml hv
  obtain ⟨rfl, hsz, hP, hK, hN0, hnx⟩ := hv
  have hx := B.exec
  have hb := B.bytes
  have hr := B.returns
  have hts : ∀ w ∈ wsAll, w.before [.ref (a0 0)].toArray s = true := fun w h9 => atoms_spec (ws := ws_Reader_readNumber) B.pre w (List.mem_cons_of_mem _ h9)
  have hown : s.vm.findClass R_Reader = some m.cls := findClass_of_methodNamed B.named
  have hlocks := B.notSynchronized
  subst hsz
  have hN : bw_N (bw_A [adReader a0, adText a1, adSteps a2] s.heap.size) [adReader a0, adText a1, adSteps a2] := hN0.self s.heap.size
  generalize hAe : bw_A [adReader a0, adText a1, adSteps a2] s.heap.size = A at hN ⊢
  have hA : ∀ q : Nat, s.heap.size ≤ q → A q := fun q h => by rw [← hAe]; exact Or.inr h
  have hS : va_S A s.heap s.heap [] := va_S.rf
  have hl := lv_entry ([.ref (a0 0)]) (n := 6) (Nat.le_of_ble_eq_true rfl)
  rw [lg_entry_eq]
  generalize (lg_sl ([.ref (a0 0)]) ++ List.replicate (6 - (lg_sl ([.ref (a0 0)])).length) Slot.unset).toArray = ls at hl ⊢
  have hl : lv_has ls 6 [(0, .ref (a0 0))] := hl
  have C0 : cx wsAll vwCl nx p s m [.ref (a0 0)].toArray meth c (dC, dI) (tyA ct) b_Reader_readNumber 6 (some .boolean) R_Reader A [adReader a0, adText a1, adSteps a2] := ⟨hx, hb, hr, hml, hown, hlocks, hts, hK, hN, hA, hnx⟩
  have h := hF
  rw [F_Reader_readNumber] at h
  refine lv_aload_n hx hb d_Reader_readNumber_0 rfl (lv_at hl 0 rfl) ?_
  refine va_get (D := (dC, dI)) (ci := 3) (v := .int (g32 o0 3 0)) (C := R_Reader) (T := T_Reader) (N := 12) hx hb hts in_Reader hown hK (hP 0 _ rfl) 0 rfl rfl 3 (by decide) (hts _ fl_Reader_23) (fun _ h9 => h9) rfl d_Reader_readNumber_1 ?_
  refine lv_istore_n (lv' := [(1, .int (g32 o0 3 0)), (0, .ref (a0 0))]) hx hb d_Reader_readNumber_4 rfl hl (by decide) rfl (fun ls hl => ?_)
  refine lv_aload_n hx hb d_Reader_readNumber_5 rfl (lv_at hl 1 rfl) ?_
  refine lv_iconst (v := 0) hx hb d_Reader_readNumber_6 (by decide) ?_
  refine lv_iconst (v := 5) hx hb d_Reader_readNumber_7 (by decide) ?_
  obtain ⟨v2, o_3, hG1, h⟩ := bind2_some h
  refine bw_call (Lc := [wReader ct a0 (a1 0) o0]) (Lc' := [wReader ct a0 (a1 0) o_3]) (L' := [wReader ct a0 (a1 0) o_3, wText ct a1 (a2 0) o1, wSteps ct a2 o2]) [0] (va_runV (As := [.int (0 : Int32), .int (5 : Int32)]) (rest := []) ⟨hx, hb, hml, hown, hts⟩ (c_Reader_readDigits l ct dC dI a0 (a1 0) _ (0 : Int32) (5 : Int32) o0 v2 o_3 hG1) (cwV 2 hts g_Reader_156 rfl rfl rfl (by decide +kernel) ⟨Nat.le_of_ble_eq_true rfl, Nat.le_of_ble_eq_true rfl⟩) ⟨bw_blind nx_call, va_recv hK (hP 0 _ rfl) (ci := 3) (q0 := 0) rfl rfl, fun U hU hW => ⟨rfl, by rw [hU], by rw [hU]; exact hP.sub [0] rfl, va_K.moved hW.alike hK, (hN.sub [0] (by decide) rfl).weaken (fun _ _ => trivial), nx_warm hW hnx⟩⟩ rfl rfl hl.1 rfl (Nat.le_of_ble_eq_true rfl) d_Reader_readNumber_8 ⟨Nat.le_of_ble_eq_true rfl, Nat.le_of_ble_eq_true rfl⟩) hP hN hS hA rfl rfl rfl (fun H locs hP hS => ?_)
  refine lv_istore_n (lv' := [(2, .int v2), (1, .int (g32 o0 3 0)), (0, .ref (a0 0))]) hx hb d_Reader_readNumber_11 rfl hl (by decide) rfl (fun ls hl => ?_)
  refine lv_iload_n hx hb d_Reader_readNumber_12 rfl (lv_at hl 1 rfl) ?_
  refine lv_istore_n (lv' := [(3, .int (g32 o0 3 0)), (2, .int v2), (1, .int (g32 o0 3 0)), (0, .ref (a0 0))]) hx hb d_Reader_readNumber_13 rfl hl (by decide) rfl (fun ls hl => ?_)
  exact k_Reader_readNumber_14 C0 fuel v2 (g32 o0 3 0) o_3 o2 _ _ _ hP hS (lv_sub hl [3, 1, 0] rfl) h
def F_Reader_lastWaiting  (o0 : Ob) : Option (Int32) :=
  if (g32 o0 6 0) ≤ 0 then (some (0 : Int32)) else (chk (inb ((g32 o0 6 0) - (1 : Int32)) 400) (some (g32 o0 5 (Int32.toNatClampNeg ((g32 o0 6 0) - (1 : Int32))))))
abbrev ws_Reader_lastWaiting : List Cond := Cond.code y_Reader_lastWaiting b_Reader_lastWaiting 1 (some .int) :: wsAll
abbrev rm_Reader_lastWaiting : Room := { frames := 0, cells := 0, slots := 0, locals := 0 }
set_option maxHeartbeats 4000000 in
set_option maxRecDepth 100000 in
theorem c_Reader_lastWaiting (l : Launch) (ct dC : Nat → ClassId) (dI : Nat → Nat → Nat) (a0 : Nat → Nat) (r0_4 : Nat) (sz : Nat)  (o0 : Ob) (r : Int32) (hF : F_Reader_lastWaiting o0 = some r) : Met l y_Reader_lastWaiting ws_Reader_lastWaiting rm_Reader_lastWaiting (bw_Pc [.ref (a0 0)] (dC, dI) vwCl (tyA ct) [wReader ct a0 r0_4 o0] sz nx) (bw_QR (some (.int r))) 0 0 (fun _ => False) := by
  refine Met.ofW (cc := b_Reader_lastWaiting) (maxL := 1) (ret := (some .int)) (by decide) rfl ?_
  intro p e s m args below meth c s₁ B hml hv
  obtain ⟨rfl, hsz, hP, hK, hN0, hnx⟩ := hv
  have hx := B.exec
  have hb := B.bytes
  have hr := B.returns
  have hts : ∀ w ∈ wsAll, w.before [.ref (a0 0)].toArray s = true := fun w h9 => atoms_spec (ws := ws_Reader_lastWaiting) B.pre w (List.mem_cons_of_mem _ h9)
  have hown : s.vm.findClass R_Reader = some m.cls := findClass_of_methodNamed B.named
  have hlocks := B.notSynchronized
  subst hsz
  have hN : bw_N (fun _ => True) [adReader a0] := hN0
  generalize hAe : (fun _ : Nat => True) = A at hN
  have hA : ∀ q : Nat, s.heap.size ≤ q → A q := fun q _ => by rw [← hAe]; trivial
  have hS : s.heap = s.heap ∧ ([] : List Loc) = [] := ⟨rfl, rfl⟩
  have hl := lv_entry ([.ref (a0 0)]) (n := 1) (Nat.le_of_ble_eq_true rfl)
  rw [lg_entry_eq]
  generalize (lg_sl ([.ref (a0 0)]) ++ List.replicate (1 - (lg_sl ([.ref (a0 0)])).length) Slot.unset).toArray = ls at hl ⊢
  have hl : lv_has ls 1 [(0, .ref (a0 0))] := hl
  have C0 : cx wsAll vwCl nx p s m [.ref (a0 0)].toArray meth c (dC, dI) (tyA ct) b_Reader_lastWaiting 1 (some .int) R_Reader A [adReader a0] := ⟨hx, hb, hr, hml, hown, hlocks, hts, hK, hN, hA, hnx⟩
  have h := hF
  rw [F_Reader_lastWaiting] at h
  refine lv_aload_n hx hb d_Reader_lastWaiting_0 rfl (lv_at hl 0 rfl) ?_
  refine va_get (D := (dC, dI)) (ci := 3) (v := .int (g32 o0 6 0)) (C := R_Reader) (T := T_Reader) (N := 12) hx hb hts in_Reader hown hK (hP 0 _ rfl) 0 rfl rfl 6 (by decide) (hts _ fl_Reader_37) (fun _ h9 => h9) rfl d_Reader_lastWaiting_1 ?_
  refine lv_if_le (tgt := 21) hx hb d_Reader_lastWaiting_4 (by decide) (fun c1 => ?_) (fun c1 => ?_)
  · have h := ite_t c1 h
    refine lv_iconst (v := 0) hx hb d_Reader_lastWaiting_21 (by decide) ?_
    obtain rfl := res1 h
    exact W.iret hx hb hr (fun t ht hW => ⟨rfl, ht.trans hS.1⟩) (bw_nil hS.2) d_Reader_lastWaiting_22
  · have h := ite_f c1 h
    refine lv_aload_n hx hb d_Reader_lastWaiting_7 rfl (lv_at hl 0 rfl) ?_
    refine va_get (D := (dC, dI)) (ci := 3) (v := .ref (a0 3)) (C := R_Reader) (T := T_Reader) (N := 12) hx hb hts in_Reader hown hK (hP 0 _ rfl) 0 rfl rfl 5 (by decide) (hts _ fl_Reader_33) (fun _ h9 => h9) rfl d_Reader_lastWaiting_8 ?_
    refine lv_aload_n hx hb d_Reader_lastWaiting_11 rfl (lv_at hl 0 rfl) ?_
    refine va_get (D := (dC, dI)) (ci := 3) (v := .int (g32 o0 6 0)) (C := R_Reader) (T := T_Reader) (N := 12) hx hb hts in_Reader hown hK (hP 0 _ rfl) 0 rfl rfl 6 (by decide) (hts _ fl_Reader_37) (fun _ h9 => h9) rfl d_Reader_lastWaiting_12 ?_
    refine lv_iconst (v := 1) hx hb d_Reader_lastWaiting_15 (by decide) ?_
    refine lv_isub hx hb d_Reader_lastWaiting_16 ?_
    obtain ⟨hi2, h⟩ := chk_some h
    refine va_iald (f := g32 o0 5) hx hb hK (hP 0 _ rfl) 3 0 rfl rfl (inb_in hi2) d_Reader_lastWaiting_17 ?_
    refine lv_goto (tgt := 22) hx hb d_Reader_lastWaiting_18 (by decide) ?_
    obtain rfl := res1 h
    exact W.iret hx hb hr (fun t ht hW => ⟨rfl, ht.trans hS.1⟩) (bw_nil hS.2) d_Reader_lastWaiting_22
theorem g_Reader_167 : GoodIn wsAll (wsV R_Reader 167 R_Reader y_Reader_lastWaiting ws_Reader_lastWaiting) := gd_V ml_Reader_167 im_Reader_lastWaiting se_Reader_lastWaiting ini_Reader cd_Reader_lastWaiting
def F_Reader_releaseNegations_0 (o1 : Ob)  : Nat → Ob → Ob → Option (Ob × Ob)
  | 0, _, _ => none
  | n + 1, o0, o2 =>
    if (g32 o0 6 0) ≤ 0 then (some (o0, o2)) else (bind1 (F_Reader_lastWaiting o0) (fun v3 => if v3 = (4 : Int32) then (bind1 (F_Steps_add (4 : Int32) (0 : Int32) (0 : Int32) o2) (fun o_6 => F_Reader_releaseNegations_0 o1 n (s32 (s32 o0 6 0 ((g32 o0 6 0) - (1 : Int32))) 11 0 ((g32 o0 11 0) - (1 : Int32))) o_6)) else (some (o0, o2))))
def F_Reader_releaseNegations  (o0 o1 o2 : Ob) : Option (Ob × Ob) :=
  F_Reader_releaseNegations_0 o1 fuel o0 o2
abbrev ws_Reader_releaseNegations : List Cond := Cond.code y_Reader_releaseNegations b_Reader_releaseNegations 1 (none : Option Jvm.ClassFile.FieldType) :: wsAll
abbrev rm_Reader_releaseNegations : Room := { frames := 1, cells := 0, slots := 0, locals := 23 }
set_option maxHeartbeats 4000000 in
set_option maxRecDepth 100000 in
theorem k_Reader_releaseNegations_0 {p : Program} {l : Launch} {e : Env} {s : State} {m : MethodId} {args : Array Value} {below : List Frame} {meth : Method} {c : Code} {A : Nat → Prop} {ct dC : Nat → ClassId} {dI : Nat → Nat → Nat} {a0 a1 a2 : Nat → Nat}  {n0 n2 : Ob} {o1 : Ob}  (C0 : cx wsAll vwCl nx p s m args meth c (dC, dI) (tyA ct) b_Reader_releaseNegations 1 (none : Option Jvm.ClassFile.FieldType) R_Reader A [adReader a0, adText a1, adSteps a2])  : ∀ (n : Nat)  (o0 o2 : Ob) (H : Heap) (locs : List Loc) (ls : Array Slot), bw_P (dC, dI) vwCl [wReader ct a0 (a1 0) o0, wText ct a1 (a2 0) o1, wSteps ct a2 o2] H → va_S A s.heap H locs → lv_has ls 1 [(0, .ref (a0 0))] → F_Reader_releaseNegations_0 o1 n o0 o2 = some (n0, n2) → W p l e (headSpec ws_Reader_releaseNegations rm_Reader_releaseNegations).room s m args below meth c H locs 0 0 (MQ below (bw_Q (dC, dI) vwCl none [wReader ct a0 (a1 0) n0, wText ct a1 (a2 0) o1, wSteps ct a2 n2] A) args s 0 0 A) (F0 m 0 ls []) := by
  obtain ⟨hx, hb, hr, hml, hown, hlocks, hts, hK, hN, hA, hnx⟩ := id C0
  intro n
  induction n with
  | zero =>
    intro o0 o2 H locs ls hP hS hl h
    cases h
  | succ n ih =>
    intro o0 o2 H locs ls hP hS hl h
    rw [F_Reader_releaseNegations_0] at h
    refine lv_aload_n hx hb d_Reader_releaseNegations_0 rfl (lv_at hl 0 rfl) ?_
    refine va_get (D := (dC, dI)) (ci := 3) (v := .int (g32 o0 6 0)) (C := R_Reader) (T := T_Reader) (N := 12) hx hb hts in_Reader hown hK (hP 0 _ rfl) 0 rfl rfl 6 (by decide) (hts _ fl_Reader_37) (fun _ h9 => h9) rfl d_Reader_releaseNegations_1 ?_
    refine lv_if_le (tgt := 51) hx hb d_Reader_releaseNegations_4 (by decide) (fun c1 => ?_) (fun c1 => ?_)
    · have h := ite_t c1 h
      obtain ⟨rfl, rfl⟩ := res2 h
      exact W.vret hx hb hr (fun t ht hW => ⟨rfl, by rw [ht]; exact hP, hS.F ht⟩) hS.2.2 d_Reader_releaseNegations_51
    · have h := ite_f c1 h
      refine lv_aload_n hx hb d_Reader_releaseNegations_7 rfl (lv_at hl 0 rfl) ?_
      obtain ⟨v3, hG2, h⟩ := bind1_some h
      refine bw_callR (va_runV (As := []) (rest := []) ⟨hx, hb, hml, hown, hts⟩ (c_Reader_lastWaiting l ct dC dI a0 (a1 0) _ o0 v3 hG2) (cwV 0 hts g_Reader_167 rfl rfl rfl (by decide +kernel) ⟨Nat.le_of_ble_eq_true rfl, Nat.le_of_ble_eq_true rfl⟩) ⟨bw_blind nx_call, va_recv hK (hP 0 _ rfl) (ci := 3) (q0 := 0) rfl rfl, fun U hU hW => ⟨rfl, by rw [hU], by rw [hU]; exact hP.sub [0] rfl, va_K.moved hW.alike hK, (hN.sub [0] (by decide) rfl).weaken (fun _ _ => trivial), nx_warm hW hnx⟩⟩ rfl rfl hl.1 rfl (Nat.le_of_ble_eq_true rfl) d_Reader_releaseNegations_8 ⟨Nat.le_of_ble_eq_true rfl, Nat.le_of_ble_eq_true rfl⟩) ?_
      refine lv_iconst (v := 4) hx hb d_Reader_releaseNegations_11 (by decide) ?_
      refine lv_icmp_ne (tgt := 51) hx hb d_Reader_releaseNegations_12 (by decide) (fun c4 => ?_) (fun c4 => ?_)
      · have h := ite_f c4 h
        obtain ⟨rfl, rfl⟩ := res2 h
        exact W.vret hx hb hr (fun t ht hW => ⟨rfl, by rw [ht]; exact hP, hS.F ht⟩) hS.2.2 d_Reader_releaseNegations_51
      · have h := ite_t c4 h
        refine lv_aload_n hx hb d_Reader_releaseNegations_15 rfl (lv_at hl 0 rfl) ?_
        refine va_get (D := (dC, dI)) (ci := 3) (v := .ref (a1 0)) (C := R_Reader) (T := T_Reader) (N := 12) hx hb hts in_Reader hown hK (hP 0 _ rfl) 0 rfl rfl 4 (by decide) (hts _ fl_Reader_29) (fun _ h9 => h9) rfl d_Reader_releaseNegations_16 ?_
        refine va_get (D := (dC, dI)) (ci := 2) (v := .ref (a2 0)) (C := R_Text) (T := T_Text) (N := 12) hx hb hts in_Text hown hK (hP 1 _ rfl) 0 rfl rfl 2 (by decide) (hts _ fl_Reader_128) (fun _ h9 => h9) rfl d_Reader_releaseNegations_19 ?_
        refine lv_iconst (v := 4) hx hb d_Reader_releaseNegations_22 (by decide) ?_
        refine lv_iconst (v := 0) hx hb d_Reader_releaseNegations_23 (by decide) ?_
        refine lv_iconst (v := 0) hx hb d_Reader_releaseNegations_24 (by decide) ?_
        obtain ⟨o_6, hG5, h⟩ := bind1_some h
        refine bw_call (Lc := [wSteps ct a2 o2]) (Lc' := [wSteps ct a2 o_6]) (L' := [wReader ct a0 (a1 0) o0, wText ct a1 (a2 0) o1, wSteps ct a2 o_6]) [2] (va_runV (As := [.int (4 : Int32), .int (0 : Int32), .int (0 : Int32)]) (rest := []) ⟨hx, hb, hml, hown, hts⟩ (c_Steps_add l ct dC dI a2 _ (4 : Int32) (0 : Int32) (0 : Int32) o2 o_6 hG5) (cwV 3 hts g_Reader_163 rfl rfl rfl (by decide +kernel) ⟨Nat.le_of_ble_eq_true rfl, Nat.le_of_ble_eq_true rfl⟩) ⟨bw_blind nx_call, va_recv hK (hP 2 _ rfl) (ci := 0) (q0 := 0) rfl rfl, fun U hU hW => ⟨rfl, by rw [hU], by rw [hU]; exact hP.sub [2] rfl, va_K.moved hW.alike hK, (hN.sub [2] (by decide) rfl).weaken (fun _ _ => trivial), nx_warm hW hnx⟩⟩ rfl rfl hl.1 rfl (Nat.le_of_ble_eq_true rfl) d_Reader_releaseNegations_25 ⟨Nat.le_of_ble_eq_true rfl, Nat.le_of_ble_eq_true rfl⟩) hP hN hS hA rfl rfl rfl (fun H locs hP hS => ?_)
        refine lv_aload_n hx hb d_Reader_releaseNegations_28 rfl (lv_at hl 0 rfl) ?_
        refine lv_dup hx hb d_Reader_releaseNegations_29 rfl ?_
        refine va_get (D := (dC, dI)) (ci := 3) (v := .int (g32 o0 6 0)) (C := R_Reader) (T := T_Reader) (N := 12) hx hb hts in_Reader hown hK (hP 0 _ rfl) 0 rfl rfl 6 (by decide) (hts _ fl_Reader_37) (fun _ h9 => h9) rfl d_Reader_releaseNegations_30 ?_
        refine lv_iconst (v := 1) hx hb d_Reader_releaseNegations_33 (by decide) ?_
        refine lv_isub hx hb d_Reader_releaseNegations_34 ?_
        refine pt_Reader_6 hx hb hts hown hK hP hN hS 0 rfl (hts _ fl_Reader_37) d_Reader_releaseNegations_35 (fun H locs hP hS => ?_)
        have hP : bw_P (dC, dI) vwCl [wReader ct a0 (a1 0) (s32 o0 6 0 ((g32 o0 6 0) - (1 : Int32))), wText ct a1 (a2 0) o1, wSteps ct a2 o_6] H := hP
        refine lv_aload_n hx hb d_Reader_releaseNegations_38 rfl (lv_at hl 0 rfl) ?_
        refine lv_dup hx hb d_Reader_releaseNegations_39 rfl ?_
        refine va_get (D := (dC, dI)) (ci := 3) (v := .int (g32 o0 11 0)) (C := R_Reader) (T := T_Reader) (N := 12) hx hb hts in_Reader hown hK (hP 0 _ rfl) 0 rfl rfl 11 (by decide) (hts _ fl_Reader_52) (fun _ h9 => h9) rfl d_Reader_releaseNegations_40 ?_
        refine lv_iconst (v := 1) hx hb d_Reader_releaseNegations_43 (by decide) ?_
        refine lv_isub hx hb d_Reader_releaseNegations_44 ?_
        refine pt_Reader_11 hx hb hts hown hK hP hN hS 0 rfl (hts _ fl_Reader_52) d_Reader_releaseNegations_45 (fun H locs hP hS => ?_)
        have hP : bw_P (dC, dI) vwCl [wReader ct a0 (a1 0) (s32 (s32 o0 6 0 ((g32 o0 6 0) - (1 : Int32))) 11 0 ((g32 o0 11 0) - (1 : Int32))), wText ct a1 (a2 0) o1, wSteps ct a2 o_6] H := hP
        refine lv_goto (tgt := 0) hx hb d_Reader_releaseNegations_48 (by decide) ?_
        exact ih (s32 (s32 o0 6 0 ((g32 o0 6 0) - (1 : Int32))) 11 0 ((g32 o0 11 0) - (1 : Int32))) o_6 _ _ _ hP hS (lv_sub hl [0] rfl) h
set_option maxHeartbeats 4000000 in
set_option maxRecDepth 100000 in
theorem c_Reader_releaseNegations (l : Launch) (ct dC : Nat → ClassId) (dI : Nat → Nat → Nat) (a0 a1 a2 : Nat → Nat)  (sz : Nat)  (o0 o1 o2 : Ob) (n0 n2 : Ob) (hF : F_Reader_releaseNegations o0 o1 o2 = some (n0, n2)) : Met l y_Reader_releaseNegations ws_Reader_releaseNegations rm_Reader_releaseNegations (bw_Pc [.ref (a0 0)] (dC, dI) vwCl (tyA ct) [wReader ct a0 (a1 0) o0, wText ct a1 (a2 0) o1, wSteps ct a2 o2] sz nx) (bw_Q (dC, dI) vwCl none [wReader ct a0 (a1 0) n0, wText ct a1 (a2 0) o1, wSteps ct a2 n2] (bw_A [adReader a0, adText a1, adSteps a2] sz)) 0 0 (bw_A [adReader a0, adText a1, adSteps a2] sz) := by
  refine Met.ofW (cc := b_Reader_releaseNegations) (maxL := 1) (ret := (none : Option Jvm.ClassFile.FieldType)) (by decide) rfl ?_
  intro p e s m args below meth c s₁ B hml hv
  obtain ⟨rfl, hsz, hP, hK, hN0, hnx⟩ := hv
  have hx := B.exec
  have hb := B.bytes
  have hr := B.returns
  have hts : ∀ w ∈ wsAll, w.before [.ref (a0 0)].toArray s = true := fun w h9 => atoms_spec (ws := ws_Reader_releaseNegations) B.pre w (List.mem_cons_of_mem _ h9)
  have hown : s.vm.findClass R_Reader = some m.cls := findClass_of_methodNamed B.named
  have hlocks := B.notSynchronized
  subst hsz
  have hN : bw_N (bw_A [adReader a0, adText a1, adSteps a2] s.heap.size) [adReader a0, adText a1, adSteps a2] := hN0.self s.heap.size
  generalize hAe : bw_A [adReader a0, adText a1, adSteps a2] s.heap.size = A at hN ⊢
  have hA : ∀ q : Nat, s.heap.size ≤ q → A q := fun q h => by rw [← hAe]; exact Or.inr h
  have hS : va_S A s.heap s.heap [] := va_S.rf
  have hl := lv_entry ([.ref (a0 0)]) (n := 1) (Nat.le_of_ble_eq_true rfl)
  rw [lg_entry_eq]
  generalize (lg_sl ([.ref (a0 0)]) ++ List.replicate (1 - (lg_sl ([.ref (a0 0)])).length) Slot.unset).toArray = ls at hl ⊢
  have hl : lv_has ls 1 [(0, .ref (a0 0))] := hl
  have C0 : cx wsAll vwCl nx p s m [.ref (a0 0)].toArray meth c (dC, dI) (tyA ct) b_Reader_releaseNegations 1 (none : Option Jvm.ClassFile.FieldType) R_Reader A [adReader a0, adText a1, adSteps a2] := ⟨hx, hb, hr, hml, hown, hlocks, hts, hK, hN, hA, hnx⟩
  have h := hF
  rw [F_Reader_releaseNegations] at h
  exact k_Reader_releaseNegations_0 C0 fuel o0 o2 _ _ _ hP hS (lv_sub hl [0] rfl) h
def F_Reader_shapeBy (x0 : Int32)  : Option (Int32) :=
  if x0 = (5 : Int32) then (some (2 : Int32)) else (if x0 = (6 : Int32) then (some (2 : Int32)) else (some (1 : Int32)))
abbrev ws_Reader_shapeBy : List Cond := Cond.code y_Reader_shapeBy b_Reader_shapeBy 1 (some .int) :: wsAll
abbrev rm_Reader_shapeBy : Room := { frames := 0, cells := 0, slots := 0, locals := 0 }
set_option maxHeartbeats 4000000 in
set_option maxRecDepth 100000 in
theorem c_Reader_shapeBy (l : Launch) (ct dC : Nat → ClassId) (dI : Nat → Nat → Nat)   (sz : Nat) (x0 : Int32)  (r : Int32) (hF : F_Reader_shapeBy x0 = some r) : Met l y_Reader_shapeBy ws_Reader_shapeBy rm_Reader_shapeBy (bw_Pc [.int x0] (dC, dI) vwCl (tyA ct) [] sz nx) (bw_QR (some (.int r))) 0 0 (fun _ => False) := by
  refine Met.ofW (cc := b_Reader_shapeBy) (maxL := 1) (ret := (some .int)) (by decide) rfl ?_
  intro p e s m args below meth c s₁ B hml hv
  obtain ⟨rfl, hsz, hP, hK, hN0, hnx⟩ := hv
  have hx := B.exec
  have hb := B.bytes
  have hr := B.returns
  have hts : ∀ w ∈ wsAll, w.before [.int x0].toArray s = true := fun w h9 => atoms_spec (ws := ws_Reader_shapeBy) B.pre w (List.mem_cons_of_mem _ h9)
  have hown : s.vm.findClass R_Reader = some m.cls := findClass_of_methodNamed B.named
  have hlocks := B.notSynchronized
  subst hsz
  have hN : bw_N (fun _ => True) [] := hN0
  generalize hAe : (fun _ : Nat => True) = A at hN
  have hA : ∀ q : Nat, s.heap.size ≤ q → A q := fun q _ => by rw [← hAe]; trivial
  have hS : s.heap = s.heap ∧ ([] : List Loc) = [] := ⟨rfl, rfl⟩
  have hl := lv_entry ([.int x0]) (n := 1) (Nat.le_of_ble_eq_true rfl)
  rw [lg_entry_eq]
  generalize (lg_sl ([.int x0]) ++ List.replicate (1 - (lg_sl ([.int x0])).length) Slot.unset).toArray = ls at hl ⊢
  have hl : lv_has ls 1 [(0, .int x0)] := hl
  have C0 : cx wsAll vwCl nx p s m [.int x0].toArray meth c (dC, dI) (tyA ct) b_Reader_shapeBy 1 (some .int) R_Reader A [] := ⟨hx, hb, hr, hml, hown, hlocks, hts, hK, hN, hA, hnx⟩
  have h := hF
  rw [F_Reader_shapeBy] at h
  refine lv_iload_n hx hb d_Reader_shapeBy_0 rfl (lv_at hl 0 rfl) ?_
  refine lv_iconst (v := 5) hx hb d_Reader_shapeBy_1 (by decide) ?_
  refine lv_icmp_eq (tgt := 11) hx hb d_Reader_shapeBy_2 (by decide) (fun c1 => ?_) (fun c1 => ?_)
  · have h := ite_t c1 h
    refine lv_iconst (v := 2) hx hb d_Reader_shapeBy_11 (by decide) ?_
    refine lv_goto (tgt := 16) hx hb d_Reader_shapeBy_12 (by decide) ?_
    obtain rfl := res1 h
    exact W.iret hx hb hr (fun t ht hW => ⟨rfl, ht.trans hS.1⟩) (bw_nil hS.2) d_Reader_shapeBy_16
  · have h := ite_f c1 h
    refine lv_iload_n hx hb d_Reader_shapeBy_5 rfl (lv_at hl 0 rfl) ?_
    refine lv_bipush (v := 6) hx hb d_Reader_shapeBy_6 (by decide) ?_
    refine lv_icmp_ne (tgt := 15) hx hb d_Reader_shapeBy_8 (by decide) (fun c2 => ?_) (fun c2 => ?_)
    · have h := ite_f c2 h
      refine lv_iconst (v := 1) hx hb d_Reader_shapeBy_15 (by decide) ?_
      obtain rfl := res1 h
      exact W.iret hx hb hr (fun t ht hW => ⟨rfl, ht.trans hS.1⟩) (bw_nil hS.2) d_Reader_shapeBy_16
    · have h := ite_t c2 h
      refine lv_iconst (v := 2) hx hb d_Reader_shapeBy_11 (by decide) ?_
      refine lv_goto (tgt := 16) hx hb d_Reader_shapeBy_12 (by decide) ?_
      obtain rfl := res1 h
      exact W.iret hx hb hr (fun t ht hW => ⟨rfl, ht.trans hS.1⟩) (bw_nil hS.2) d_Reader_shapeBy_16
theorem g_Reader_178 : GoodIn wsAll (wsS R_Reader 178 y_Reader_shapeBy ws_Reader_shapeBy) := gd_S ml_Reader_178 st_Reader_shapeBy ini_Reader cd_Reader_shapeBy
def F_Reader_releaseWaiting_32 (o1 : Ob) (k0 : Int32 → Ob → Ob → Option (Ob × Ob)) (x1 : Int32) (o0 o2 : Ob) : Option (Ob × Ob) :=
  bind1 (F_Reader_lastWaiting o0) (fun v12 => bind1 (F_Steps_add v12 (0 : Int32) (0 : Int32) o2) (fun o_14 => k0 x1 (s32 o0 6 0 ((g32 o0 6 0) - (1 : Int32))) o_14))
def F_Reader_releaseWaiting_0 (o1 : Ob)  : Nat → Int32 → Ob → Ob → Option (Ob × Ob)
  | 0, _, _, _ => none
  | n + 1, x1, o0, o2 =>
    if (g32 o0 6 0) ≤ 0 then (some (o0, o2)) else (bind1 (F_Reader_lastWaiting o0) (fun v3 => if v3 = (9 : Int32) then (some (o0, o2)) else (if x1 = (1 : Int32) then (bind1 (F_Reader_lastWaiting o0) (fun v7 => bind1 (F_Reader_shapeBy v7) (fun v9 => if v9 = (1 : Int32) then (F_Reader_releaseWaiting_32 o1 (F_Reader_releaseWaiting_0 o1 n) x1 o0 o2) else (some (o0, o2))))) else (F_Reader_releaseWaiting_32 o1 (F_Reader_releaseWaiting_0 o1 n) x1 o0 o2))))
def F_Reader_releaseWaiting (x1 : Int32) (o0 o1 o2 : Ob) : Option (Ob × Ob) :=
  F_Reader_releaseWaiting_0 o1 fuel x1 o0 o2
abbrev ws_Reader_releaseWaiting : List Cond := Cond.code y_Reader_releaseWaiting b_Reader_releaseWaiting 2 (none : Option Jvm.ClassFile.FieldType) :: wsAll
abbrev rm_Reader_releaseWaiting : Room := { frames := 1, cells := 0, slots := 0, locals := 23 }
set_option maxHeartbeats 4000000 in
set_option maxRecDepth 100000 in
theorem k_Reader_releaseWaiting_32 {p : Program} {l : Launch} {e : Env} {s : State} {m : MethodId} {args : Array Value} {below : List Frame} {meth : Method} {c : Code} {A : Nat → Prop} {ct dC : Nat → ClassId} {dI : Nat → Nat → Nat} {a0 a1 a2 : Nat → Nat}  {n0 n2 : Ob} {o1 : Ob} {k0 : Int32 → Ob → Ob → Option (Ob × Ob)} (C0 : cx wsAll vwCl nx p s m args meth c (dC, dI) (tyA ct) b_Reader_releaseWaiting 2 (none : Option Jvm.ClassFile.FieldType) R_Reader A [adReader a0, adText a1, adSteps a2]) (hk0 : ∀ (x1 : Int32) (o0 o2 : Ob) (H : Heap) (locs : List Loc) (ls : Array Slot), bw_P (dC, dI) vwCl [wReader ct a0 (a1 0) o0, wText ct a1 (a2 0) o1, wSteps ct a2 o2] H → va_S A s.heap H locs → lv_has ls 2 [(0, .ref (a0 0)), (1, .int x1)] → k0 x1 o0 o2 = some (n0, n2) → W p l e (headSpec ws_Reader_releaseWaiting rm_Reader_releaseWaiting).room s m args below meth c H locs 0 0 (MQ below (bw_Q (dC, dI) vwCl none [wReader ct a0 (a1 0) n0, wText ct a1 (a2 0) o1, wSteps ct a2 n2] A) args s 0 0 A) (F0 m 0 ls [])) : ∀ (x1 : Int32) (o0 o2 : Ob) (H : Heap) (locs : List Loc) (ls : Array Slot), bw_P (dC, dI) vwCl [wReader ct a0 (a1 0) o0, wText ct a1 (a2 0) o1, wSteps ct a2 o2] H → va_S A s.heap H locs → lv_has ls 2 [(0, .ref (a0 0)), (1, .int x1)] → F_Reader_releaseWaiting_32 o1 k0 x1 o0 o2 = some (n0, n2) → W p l e (headSpec ws_Reader_releaseWaiting rm_Reader_releaseWaiting).room s m args below meth c H locs 0 0 (MQ below (bw_Q (dC, dI) vwCl none [wReader ct a0 (a1 0) n0, wText ct a1 (a2 0) o1, wSteps ct a2 n2] A) args s 0 0 A) (F0 m 32 ls []) := by
  obtain ⟨hx, hb, hr, hml, hown, hlocks, hts, hK, hN, hA, hnx⟩ := id C0
  intro x1 o0 o2 H locs ls hP hS hl h
  rw [F_Reader_releaseWaiting_32] at h
  refine lv_aload_n hx hb d_Reader_releaseWaiting_32 rfl (lv_at hl 0 rfl) ?_
  refine va_get (D := (dC, dI)) (ci := 3) (v := .ref (a1 0)) (C := R_Reader) (T := T_Reader) (N := 12) hx hb hts in_Reader hown hK (hP 0 _ rfl) 0 rfl rfl 4 (by decide) (hts _ fl_Reader_29) (fun _ h9 => h9) rfl d_Reader_releaseWaiting_33 ?_
  refine va_get (D := (dC, dI)) (ci := 2) (v := .ref (a2 0)) (C := R_Text) (T := T_Text) (N := 12) hx hb hts in_Text hown hK (hP 1 _ rfl) 0 rfl rfl 2 (by decide) (hts _ fl_Reader_128) (fun _ h9 => h9) rfl d_Reader_releaseWaiting_36 ?_
  refine lv_aload_n hx hb d_Reader_releaseWaiting_39 rfl (lv_at hl 0 rfl) ?_
  obtain ⟨v12, hG11, h⟩ := bind1_some h
  refine bw_callR (va_runV (As := []) (rest := [.ref (a2 0)]) ⟨hx, hb, hml, hown, hts⟩ (c_Reader_lastWaiting l ct dC dI a0 (a1 0) _ o0 v12 hG11) (cwV 0 hts g_Reader_167 rfl rfl rfl (by decide +kernel) ⟨Nat.le_of_ble_eq_true rfl, Nat.le_of_ble_eq_true rfl⟩) ⟨bw_blind nx_call, va_recv hK (hP 0 _ rfl) (ci := 3) (q0 := 0) rfl rfl, fun U hU hW => ⟨rfl, by rw [hU], by rw [hU]; exact hP.sub [0] rfl, va_K.moved hW.alike hK, (hN.sub [0] (by decide) rfl).weaken (fun _ _ => trivial), nx_warm hW hnx⟩⟩ rfl rfl hl.1 rfl (Nat.le_of_ble_eq_true rfl) d_Reader_releaseWaiting_40 ⟨Nat.le_of_ble_eq_true rfl, Nat.le_of_ble_eq_true rfl⟩) ?_
  refine lv_iconst (v := 0) hx hb d_Reader_releaseWaiting_43 (by decide) ?_
  refine lv_iconst (v := 0) hx hb d_Reader_releaseWaiting_44 (by decide) ?_
  obtain ⟨o_14, hG13, h⟩ := bind1_some h
  refine bw_call (Lc := [wSteps ct a2 o2]) (Lc' := [wSteps ct a2 o_14]) (L' := [wReader ct a0 (a1 0) o0, wText ct a1 (a2 0) o1, wSteps ct a2 o_14]) [2] (va_runV (As := [.int v12, .int (0 : Int32), .int (0 : Int32)]) (rest := []) ⟨hx, hb, hml, hown, hts⟩ (c_Steps_add l ct dC dI a2 _ v12 (0 : Int32) (0 : Int32) o2 o_14 hG13) (cwV 3 hts g_Reader_163 rfl rfl rfl (by decide +kernel) ⟨Nat.le_of_ble_eq_true rfl, Nat.le_of_ble_eq_true rfl⟩) ⟨bw_blind nx_call, va_recv hK (hP 2 _ rfl) (ci := 0) (q0 := 0) rfl rfl, fun U hU hW => ⟨rfl, by rw [hU], by rw [hU]; exact hP.sub [2] rfl, va_K.moved hW.alike hK, (hN.sub [2] (by decide) rfl).weaken (fun _ _ => trivial), nx_warm hW hnx⟩⟩ rfl rfl hl.1 rfl (Nat.le_of_ble_eq_true rfl) d_Reader_releaseWaiting_45 ⟨Nat.le_of_ble_eq_true rfl, Nat.le_of_ble_eq_true rfl⟩) hP hN hS hA rfl rfl rfl (fun H locs hP hS => ?_)
  refine lv_aload_n hx hb d_Reader_releaseWaiting_48 rfl (lv_at hl 0 rfl) ?_
  refine lv_dup hx hb d_Reader_releaseWaiting_49 rfl ?_
  refine va_get (D := (dC, dI)) (ci := 3) (v := .int (g32 o0 6 0)) (C := R_Reader) (T := T_Reader) (N := 12) hx hb hts in_Reader hown hK (hP 0 _ rfl) 0 rfl rfl 6 (by decide) (hts _ fl_Reader_37) (fun _ h9 => h9) rfl d_Reader_releaseWaiting_50 ?_
  refine lv_iconst (v := 1) hx hb d_Reader_releaseWaiting_53 (by decide) ?_
  refine lv_isub hx hb d_Reader_releaseWaiting_54 ?_
  refine pt_Reader_6 hx hb hts hown hK hP hN hS 0 rfl (hts _ fl_Reader_37) d_Reader_releaseWaiting_55 (fun H locs hP hS => ?_)
  have hP : bw_P (dC, dI) vwCl [wReader ct a0 (a1 0) (s32 o0 6 0 ((g32 o0 6 0) - (1 : Int32))), wText ct a1 (a2 0) o1, wSteps ct a2 o_14] H := hP
  refine lv_goto (tgt := 0) hx hb d_Reader_releaseWaiting_58 (by decide) ?_
  exact hk0 x1 (s32 o0 6 0 ((g32 o0 6 0) - (1 : Int32))) o_14 _ _ _ hP hS (lv_sub hl [0, 1] rfl) h
set_option maxHeartbeats 4000000 in
set_option maxRecDepth 100000 in
theorem k_Reader_releaseWaiting_0 {p : Program} {l : Launch} {e : Env} {s : State} {m : MethodId} {args : Array Value} {below : List Frame} {meth : Method} {c : Code} {A : Nat → Prop} {ct dC : Nat → ClassId} {dI : Nat → Nat → Nat} {a0 a1 a2 : Nat → Nat}  {n0 n2 : Ob} {o1 : Ob}  (C0 : cx wsAll vwCl nx p s m args meth c (dC, dI) (tyA ct) b_Reader_releaseWaiting 2 (none : Option Jvm.ClassFile.FieldType) R_Reader A [adReader a0, adText a1, adSteps a2])  : ∀ (n : Nat) (x1 : Int32) (o0 o2 : Ob) (H : Heap) (locs : List Loc) (ls : Array Slot), bw_P (dC, dI) vwCl [wReader ct a0 (a1 0) o0, wText ct a1 (a2 0) o1, wSteps ct a2 o2] H → va_S A s.heap H locs → lv_has ls 2 [(0, .ref (a0 0)), (1, .int x1)] → F_Reader_releaseWaiting_0 o1 n x1 o0 o2 = some (n0, n2) → W p l e (headSpec ws_Reader_releaseWaiting rm_Reader_releaseWaiting).room s m args below meth c H locs 0 0 (MQ below (bw_Q (dC, dI) vwCl none [wReader ct a0 (a1 0) n0, wText ct a1 (a2 0) o1, wSteps ct a2 n2] A) args s 0 0 A) (F0 m 0 ls []) := by
  obtain ⟨hx, hb, hr, hml, hown, hlocks, hts, hK, hN, hA, hnx⟩ := id C0
  intro n
  induction n with
  | zero =>
    intro x1 o0 o2 H locs ls hP hS hl h
    cases h
  | succ n ih =>
    intro x1 o0 o2 H locs ls hP hS hl h
    rw [F_Reader_releaseWaiting_0] at h
    refine lv_aload_n hx hb d_Reader_releaseWaiting_0 rfl (lv_at hl 0 rfl) ?_
    refine va_get (D := (dC, dI)) (ci := 3) (v := .int (g32 o0 6 0)) (C := R_Reader) (T := T_Reader) (N := 12) hx hb hts in_Reader hown hK (hP 0 _ rfl) 0 rfl rfl 6 (by decide) (hts _ fl_Reader_37) (fun _ h9 => h9) rfl d_Reader_releaseWaiting_1 ?_
    refine lv_if_le (tgt := 61) hx hb d_Reader_releaseWaiting_4 (by decide) (fun c1 => ?_) (fun c1 => ?_)
    · have h := ite_t c1 h
      obtain ⟨rfl, rfl⟩ := res2 h
      exact W.vret hx hb hr (fun t ht hW => ⟨rfl, by rw [ht]; exact hP, hS.F ht⟩) hS.2.2 d_Reader_releaseWaiting_61
    · have h := ite_f c1 h
      refine lv_aload_n hx hb d_Reader_releaseWaiting_7 rfl (lv_at hl 0 rfl) ?_
      obtain ⟨v3, hG2, h⟩ := bind1_some h
      refine bw_callR (va_runV (As := []) (rest := []) ⟨hx, hb, hml, hown, hts⟩ (c_Reader_lastWaiting l ct dC dI a0 (a1 0) _ o0 v3 hG2) (cwV 0 hts g_Reader_167 rfl rfl rfl (by decide +kernel) ⟨Nat.le_of_ble_eq_true rfl, Nat.le_of_ble_eq_true rfl⟩) ⟨bw_blind nx_call, va_recv hK (hP 0 _ rfl) (ci := 3) (q0 := 0) rfl rfl, fun U hU hW => ⟨rfl, by rw [hU], by rw [hU]; exact hP.sub [0] rfl, va_K.moved hW.alike hK, (hN.sub [0] (by decide) rfl).weaken (fun _ _ => trivial), nx_warm hW hnx⟩⟩ rfl rfl hl.1 rfl (Nat.le_of_ble_eq_true rfl) d_Reader_releaseWaiting_8 ⟨Nat.le_of_ble_eq_true rfl, Nat.le_of_ble_eq_true rfl⟩) ?_
      refine lv_bipush (v := 9) hx hb d_Reader_releaseWaiting_11 (by decide) ?_
      refine lv_icmp_eq (tgt := 61) hx hb d_Reader_releaseWaiting_13 (by decide) (fun c4 => ?_) (fun c4 => ?_)
      · have h := ite_t c4 h
        obtain ⟨rfl, rfl⟩ := res2 h
        exact W.vret hx hb hr (fun t ht hW => ⟨rfl, by rw [ht]; exact hP, hS.F ht⟩) hS.2.2 d_Reader_releaseWaiting_61
      · have h := ite_f c4 h
        refine lv_iload_n hx hb d_Reader_releaseWaiting_16 rfl (lv_at hl 1 rfl) ?_
        refine lv_iconst (v := 1) hx hb d_Reader_releaseWaiting_17 (by decide) ?_
        refine lv_icmp_ne (tgt := 32) hx hb d_Reader_releaseWaiting_18 (by decide) (fun c5 => ?_) (fun c5 => ?_)
        · have h := ite_f c5 h
          exact k_Reader_releaseWaiting_32 C0 ih x1 o0 o2 _ _ _ hP hS (lv_sub hl [0, 1] rfl) h
        · have h := ite_t c5 h
          refine lv_aload_n hx hb d_Reader_releaseWaiting_21 rfl (lv_at hl 0 rfl) ?_
          obtain ⟨v7, hG6, h⟩ := bind1_some h
          refine bw_callR (va_runV (As := []) (rest := []) ⟨hx, hb, hml, hown, hts⟩ (c_Reader_lastWaiting l ct dC dI a0 (a1 0) _ o0 v7 hG6) (cwV 0 hts g_Reader_167 rfl rfl rfl (by decide +kernel) ⟨Nat.le_of_ble_eq_true rfl, Nat.le_of_ble_eq_true rfl⟩) ⟨bw_blind nx_call, va_recv hK (hP 0 _ rfl) (ci := 3) (q0 := 0) rfl rfl, fun U hU hW => ⟨rfl, by rw [hU], by rw [hU]; exact hP.sub [0] rfl, va_K.moved hW.alike hK, (hN.sub [0] (by decide) rfl).weaken (fun _ _ => trivial), nx_warm hW hnx⟩⟩ rfl rfl hl.1 rfl (Nat.le_of_ble_eq_true rfl) d_Reader_releaseWaiting_22 ⟨Nat.le_of_ble_eq_true rfl, Nat.le_of_ble_eq_true rfl⟩) ?_
          obtain ⟨v9, hG8, h⟩ := bind1_some h
          refine bw_callR (va_runS (As := [.int v7]) (rest := []) ⟨hx, hb, hml, hown, hts⟩ (c_Reader_shapeBy l ct dC dI _ v7 v9 hG8) (cwS 1 hts g_Reader_178 rfl rfl rfl (by decide +kernel) ⟨Nat.le_of_ble_eq_true rfl, Nat.le_of_ble_eq_true rfl⟩) ⟨bw_blind nx_call, fun U hU hW => ⟨rfl, by rw [hU], by rw [hU]; exact hP.sub [] rfl, va_K.moved hW.alike hK, (hN.sub [] (by decide) rfl).weaken (fun _ _ => trivial), nx_warm hW hnx⟩⟩ rfl rfl hl.1 rfl (Nat.le_of_ble_eq_true rfl) d_Reader_releaseWaiting_25 ⟨Nat.le_of_ble_eq_true rfl, Nat.le_of_ble_eq_true rfl⟩) ?_
          refine lv_iconst (v := 1) hx hb d_Reader_releaseWaiting_28 (by decide) ?_
          refine lv_icmp_ne (tgt := 61) hx hb d_Reader_releaseWaiting_29 (by decide) (fun c10 => ?_) (fun c10 => ?_)
          · have h := ite_f c10 h
            obtain ⟨rfl, rfl⟩ := res2 h
            exact W.vret hx hb hr (fun t ht hW => ⟨rfl, by rw [ht]; exact hP, hS.F ht⟩) hS.2.2 d_Reader_releaseWaiting_61
          · have h := ite_t c10 h
            exact k_Reader_releaseWaiting_32 C0 ih x1 o0 o2 _ _ _ hP hS (lv_sub hl [0, 1] rfl) h
set_option maxHeartbeats 4000000 in
set_option maxRecDepth 100000 in
theorem c_Reader_releaseWaiting (l : Launch) (ct dC : Nat → ClassId) (dI : Nat → Nat → Nat) (a0 a1 a2 : Nat → Nat)  (sz : Nat) (x1 : Int32) (o0 o1 o2 : Ob) (n0 n2 : Ob) (hF : F_Reader_releaseWaiting x1 o0 o1 o2 = some (n0, n2)) : Met l y_Reader_releaseWaiting ws_Reader_releaseWaiting rm_Reader_releaseWaiting (bw_Pc [.ref (a0 0), .int x1] (dC, dI) vwCl (tyA ct) [wReader ct a0 (a1 0) o0, wText ct a1 (a2 0) o1, wSteps ct a2 o2] sz nx) (bw_Q (dC, dI) vwCl none [wReader ct a0 (a1 0) n0, wText ct a1 (a2 0) o1, wSteps ct a2 n2] (bw_A [adReader a0, adText a1, adSteps a2] sz)) 0 0 (bw_A [adReader a0, adText a1, adSteps a2] sz) := by
  refine Met.ofW (cc := b_Reader_releaseWaiting) (maxL := 2) (ret := (none : Option Jvm.ClassFile.FieldType)) (by decide) rfl ?_
  intro p e s m args below meth c s₁ B hml hv
  obtain ⟨rfl, hsz, hP, hK, hN0, hnx⟩ := hv
  have hx := B.exec
  have hb := B.bytes
  have hr := B.returns
  have hts : ∀ w ∈ wsAll, w.before [.ref (a0 0), .int x1].toArray s = true := fun w h9 => atoms_spec (ws := ws_Reader_releaseWaiting) B.pre w (List.mem_cons_of_mem _ h9)
  have hown : s.vm.findClass R_Reader = some m.cls := findClass_of_methodNamed B.named
  have hlocks := B.notSynchronized
  subst hsz
  have hN : bw_N (bw_A [adReader a0, adText a1, adSteps a2] s.heap.size) [adReader a0, adText a1, adSteps a2] := hN0.self s.heap.size
  generalize hAe : bw_A [adReader a0, adText a1, adSteps a2] s.heap.size = A at hN ⊢
  have hA : ∀ q : Nat, s.heap.size ≤ q → A q := fun q h => by rw [← hAe]; exact Or.inr h
  have hS : va_S A s.heap s.heap [] := va_S.rf
  have hl := lv_entry ([.ref (a0 0), .int x1]) (n := 2) (Nat.le_of_ble_eq_true rfl)
  rw [lg_entry_eq]
  generalize (lg_sl ([.ref (a0 0), .int x1]) ++ List.replicate (2 - (lg_sl ([.ref (a0 0), .int x1])).length) Slot.unset).toArray = ls at hl ⊢
  have hl : lv_has ls 2 [(0, .ref (a0 0)), (1, .int x1)] := hl
  have C0 : cx wsAll vwCl nx p s m [.ref (a0 0), .int x1].toArray meth c (dC, dI) (tyA ct) b_Reader_releaseWaiting 2 (none : Option Jvm.ClassFile.FieldType) R_Reader A [adReader a0, adText a1, adSteps a2] := ⟨hx, hb, hr, hml, hown, hlocks, hts, hK, hN, hA, hnx⟩
  have h := hF
  rw [F_Reader_releaseWaiting] at h
  exact k_Reader_releaseWaiting_0 C0 fuel x1 o0 o2 _ _ _ hP hS (lv_sub hl [0, 1] rfl) h
def F_Reader_areNeededAround_22  (x0 : Int32) (x1 : Int32) (x2 : Int32) (y0 : Int32) : Option (Bool) :=
  if x0 = (2 : Int32) then (if y0 = 0 then (if x1 = (5 : Int32) then (some true) else (if x1 = (6 : Int32) then (some true) else (if x2 = (42 : Int32) then (some true) else (if x2 = (47 : Int32) then (some true) else (some false))))) else (some true)) else (if x0 = (1 : Int32) then (if y0 = 0 then (some false) else (some true)) else (some false))
def F_Reader_areNeededAround (x0 : Int32) (x1 : Int32) (x2 : Int32)  : Option (Bool) :=
  if x1 = (4 : Int32) then (F_Reader_areNeededAround_22 x0 x1 x2 (1 : Int32)) else (if x1 = (7 : Int32) then (F_Reader_areNeededAround_22 x0 x1 x2 (1 : Int32)) else (if x1 = (8 : Int32) then (F_Reader_areNeededAround_22 x0 x1 x2 (1 : Int32)) else (F_Reader_areNeededAround_22 x0 x1 x2 (0 : Int32))))
abbrev ws_Reader_areNeededAround : List Cond := Cond.code y_Reader_areNeededAround b_Reader_areNeededAround 4 (some .boolean) :: wsAll
abbrev rm_Reader_areNeededAround : Room := { frames := 0, cells := 0, slots := 0, locals := 0 }
set_option maxHeartbeats 4000000 in
set_option maxRecDepth 100000 in
theorem k_Reader_areNeededAround_22 {p : Program} {l : Launch} {e : Env} {s : State} {m : MethodId} {args : Array Value} {below : List Frame} {meth : Method} {c : Code} {A : Nat → Prop} {ct dC : Nat → ClassId} {dI : Nat → Nat → Nat}   {r : Bool}   (C0 : cx wsAll vwCl nx p s m args meth c (dC, dI) (tyA ct) b_Reader_areNeededAround 4 (some .boolean) R_Reader A [])  : ∀ (x0 : Int32) (x1 : Int32) (x2 : Int32) (y0 : Int32) (H : Heap) (locs : List Loc) (ls : Array Slot), bw_P (dC, dI) vwCl [] H → (H = s.heap ∧ locs = []) → lv_has ls 4 [(0, .int x0), (1, .int x1), (2, .int x2)] → F_Reader_areNeededAround_22 x0 x1 x2 y0 = some r → W p l e (headSpec ws_Reader_areNeededAround rm_Reader_areNeededAround).room s m args below meth c H locs 0 0 (MQ below (bw_QR (some (.int (b2i r)))) args s 0 0 (fun _ => False)) (F0 m 22 ls [.int y0]) := by
  obtain ⟨hx, hb, hr, hml, hown, hlocks, hts, hK, hN, hA, hnx⟩ := id C0
  intro x0 x1 x2 y0 H locs ls hP hS hl h
  rw [F_Reader_areNeededAround_22] at h
  refine lv_istore_n (lv' := [(3, .int y0), (0, .int x0), (1, .int x1), (2, .int x2)]) hx hb d_Reader_areNeededAround_22 rfl hl (by decide) rfl (fun ls hl => ?_)
  refine lv_iload_n hx hb d_Reader_areNeededAround_23 rfl (lv_at hl 1 rfl) ?_
  refine lv_iconst (v := 2) hx hb d_Reader_areNeededAround_24 (by decide) ?_
  refine lv_icmp_ne (tgt := 61) hx hb d_Reader_areNeededAround_25 (by decide) (fun c4 => ?_) (fun c4 => ?_)
  · have h := ite_f c4 h
    refine lv_iload_n hx hb d_Reader_areNeededAround_61 rfl (lv_at hl 1 rfl) ?_
    refine lv_iconst (v := 1) hx hb d_Reader_areNeededAround_62 (by decide) ?_
    refine lv_icmp_ne (tgt := 74) hx hb d_Reader_areNeededAround_63 (by decide) (fun c5 => ?_) (fun c5 => ?_)
    · have h := ite_f c5 h
      refine lv_iconst (v := 0) hx hb d_Reader_areNeededAround_74 (by decide) ?_
      obtain rfl := res1 h
      exact W.zret hx hb hr rfl (fun t ht hW => ⟨rfl, ht.trans hS.1⟩) (bw_nil hS.2) d_Reader_areNeededAround_75
    · have h := ite_t c5 h
      refine lv_iload_n hx hb d_Reader_areNeededAround_66 rfl (lv_at hl 0 rfl) ?_
      refine lv_if_eq (tgt := 74) hx hb d_Reader_areNeededAround_67 (by decide) (fun c6 => ?_) (fun c6 => ?_)
      · have h := ite_t c6 h
        refine lv_iconst (v := 0) hx hb d_Reader_areNeededAround_74 (by decide) ?_
        obtain rfl := res1 h
        exact W.zret hx hb hr rfl (fun t ht hW => ⟨rfl, ht.trans hS.1⟩) (bw_nil hS.2) d_Reader_areNeededAround_75
      · have h := ite_f c6 h
        refine lv_iconst (v := 1) hx hb d_Reader_areNeededAround_70 (by decide) ?_
        refine lv_goto (tgt := 75) hx hb d_Reader_areNeededAround_71 (by decide) ?_
        obtain rfl := res1 h
        exact W.zret hx hb hr rfl (fun t ht hW => ⟨rfl, ht.trans hS.1⟩) (bw_nil hS.2) d_Reader_areNeededAround_75
  · have h := ite_t c4 h
    refine lv_iload_n hx hb d_Reader_areNeededAround_28 rfl (lv_at hl 0 rfl) ?_
    refine lv_if_ne (tgt := 55) hx hb d_Reader_areNeededAround_29 (by decide) (fun c7 => ?_) (fun c7 => ?_)
    · have h := ite_f c7 h
      refine lv_iconst (v := 1) hx hb d_Reader_areNeededAround_55 (by decide) ?_
      refine lv_goto (tgt := 60) hx hb d_Reader_areNeededAround_56 (by decide) ?_
      obtain rfl := res1 h
      exact W.zret hx hb hr rfl (fun t ht hW => ⟨rfl, ht.trans hS.1⟩) (bw_nil hS.2) d_Reader_areNeededAround_60
    · have h := ite_t c7 h
      refine lv_iload_n hx hb d_Reader_areNeededAround_32 rfl (lv_at hl 2 rfl) ?_
      refine lv_iconst (v := 5) hx hb d_Reader_areNeededAround_33 (by decide) ?_
      refine lv_icmp_eq (tgt := 55) hx hb d_Reader_areNeededAround_34 (by decide) (fun c8 => ?_) (fun c8 => ?_)
      · have h := ite_t c8 h
        refine lv_iconst (v := 1) hx hb d_Reader_areNeededAround_55 (by decide) ?_
        refine lv_goto (tgt := 60) hx hb d_Reader_areNeededAround_56 (by decide) ?_
        obtain rfl := res1 h
        exact W.zret hx hb hr rfl (fun t ht hW => ⟨rfl, ht.trans hS.1⟩) (bw_nil hS.2) d_Reader_areNeededAround_60
      · have h := ite_f c8 h
        refine lv_iload_n hx hb d_Reader_areNeededAround_37 rfl (lv_at hl 2 rfl) ?_
        refine lv_bipush (v := 6) hx hb d_Reader_areNeededAround_38 (by decide) ?_
        refine lv_icmp_eq (tgt := 55) hx hb d_Reader_areNeededAround_40 (by decide) (fun c9 => ?_) (fun c9 => ?_)
        · have h := ite_t c9 h
          refine lv_iconst (v := 1) hx hb d_Reader_areNeededAround_55 (by decide) ?_
          refine lv_goto (tgt := 60) hx hb d_Reader_areNeededAround_56 (by decide) ?_
          obtain rfl := res1 h
          exact W.zret hx hb hr rfl (fun t ht hW => ⟨rfl, ht.trans hS.1⟩) (bw_nil hS.2) d_Reader_areNeededAround_60
        · have h := ite_f c9 h
          refine lv_iload_n hx hb d_Reader_areNeededAround_43 rfl (lv_at hl 3 rfl) ?_
          refine lv_bipush (v := 42) hx hb d_Reader_areNeededAround_44 (by decide) ?_
          refine lv_icmp_eq (tgt := 55) hx hb d_Reader_areNeededAround_46 (by decide) (fun c10 => ?_) (fun c10 => ?_)
          · have h := ite_t c10 h
            refine lv_iconst (v := 1) hx hb d_Reader_areNeededAround_55 (by decide) ?_
            refine lv_goto (tgt := 60) hx hb d_Reader_areNeededAround_56 (by decide) ?_
            obtain rfl := res1 h
            exact W.zret hx hb hr rfl (fun t ht hW => ⟨rfl, ht.trans hS.1⟩) (bw_nil hS.2) d_Reader_areNeededAround_60
          · have h := ite_f c10 h
            refine lv_iload_n hx hb d_Reader_areNeededAround_49 rfl (lv_at hl 3 rfl) ?_
            refine lv_bipush (v := 47) hx hb d_Reader_areNeededAround_50 (by decide) ?_
            refine lv_icmp_ne (tgt := 59) hx hb d_Reader_areNeededAround_52 (by decide) (fun c11 => ?_) (fun c11 => ?_)
            · have h := ite_f c11 h
              refine lv_iconst (v := 0) hx hb d_Reader_areNeededAround_59 (by decide) ?_
              obtain rfl := res1 h
              exact W.zret hx hb hr rfl (fun t ht hW => ⟨rfl, ht.trans hS.1⟩) (bw_nil hS.2) d_Reader_areNeededAround_60
            · have h := ite_t c11 h
              refine lv_iconst (v := 1) hx hb d_Reader_areNeededAround_55 (by decide) ?_
              refine lv_goto (tgt := 60) hx hb d_Reader_areNeededAround_56 (by decide) ?_
              obtain rfl := res1 h
              exact W.zret hx hb hr rfl (fun t ht hW => ⟨rfl, ht.trans hS.1⟩) (bw_nil hS.2) d_Reader_areNeededAround_60
set_option maxHeartbeats 4000000 in
set_option maxRecDepth 100000 in
theorem c_Reader_areNeededAround (l : Launch) (ct dC : Nat → ClassId) (dI : Nat → Nat → Nat)   (sz : Nat) (x0 : Int32) (x1 : Int32) (x2 : Int32)  (r : Bool) (hF : F_Reader_areNeededAround x0 x1 x2 = some r) : Met l y_Reader_areNeededAround ws_Reader_areNeededAround rm_Reader_areNeededAround (bw_Pc [.int x0, .int x1, .int x2] (dC, dI) vwCl (tyA ct) [] sz nx) (bw_QR (some (.int (b2i r)))) 0 0 (fun _ => False) := by
  refine Met.ofW (cc := b_Reader_areNeededAround) (maxL := 4) (ret := (some .boolean)) (by decide) rfl ?_
  intro p e s m args below meth c s₁ B hml hv
  obtain ⟨rfl, hsz, hP, hK, hN0, hnx⟩ := hv
  have hx := B.exec
  have hb := B.bytes
  have hr := B.returns
  have hts : ∀ w ∈ wsAll, w.before [.int x0, .int x1, .int x2].toArray s = true := fun w h9 => atoms_spec (ws := ws_Reader_areNeededAround) B.pre w (List.mem_cons_of_mem _ h9)
  have hown : s.vm.findClass R_Reader = some m.cls := findClass_of_methodNamed B.named
  have hlocks := B.notSynchronized
  subst hsz
  have hN : bw_N (fun _ => True) [] := hN0
  generalize hAe : (fun _ : Nat => True) = A at hN
  have hA : ∀ q : Nat, s.heap.size ≤ q → A q := fun q _ => by rw [← hAe]; trivial
  have hS : s.heap = s.heap ∧ ([] : List Loc) = [] := ⟨rfl, rfl⟩
  have hl := lv_entry ([.int x0, .int x1, .int x2]) (n := 4) (Nat.le_of_ble_eq_true rfl)
  rw [lg_entry_eq]
  generalize (lg_sl ([.int x0, .int x1, .int x2]) ++ List.replicate (4 - (lg_sl ([.int x0, .int x1, .int x2])).length) Slot.unset).toArray = ls at hl ⊢
  have hl : lv_has ls 4 [(0, .int x0), (1, .int x1), (2, .int x2)] := hl
  have C0 : cx wsAll vwCl nx p s m [.int x0, .int x1, .int x2].toArray meth c (dC, dI) (tyA ct) b_Reader_areNeededAround 4 (some .boolean) R_Reader A [] := ⟨hx, hb, hr, hml, hown, hlocks, hts, hK, hN, hA, hnx⟩
  have h := hF
  rw [F_Reader_areNeededAround] at h
  refine lv_iload_n hx hb d_Reader_areNeededAround_0 rfl (lv_at hl 1 rfl) ?_
  refine lv_iconst (v := 4) hx hb d_Reader_areNeededAround_1 (by decide) ?_
  refine lv_icmp_eq (tgt := 17) hx hb d_Reader_areNeededAround_2 (by decide) (fun c1 => ?_) (fun c1 => ?_)
  · have h := ite_t c1 h
    refine lv_iconst (v := 1) hx hb d_Reader_areNeededAround_17 (by decide) ?_
    refine lv_goto (tgt := 22) hx hb d_Reader_areNeededAround_18 (by decide) ?_
    exact k_Reader_areNeededAround_22 C0 x0 x1 x2 (1 : Int32) _ _ _ hP hS (lv_sub hl [0, 1, 2] rfl) h
  · have h := ite_f c1 h
    refine lv_iload_n hx hb d_Reader_areNeededAround_5 rfl (lv_at hl 1 rfl) ?_
    refine lv_bipush (v := 7) hx hb d_Reader_areNeededAround_6 (by decide) ?_
    refine lv_icmp_eq (tgt := 17) hx hb d_Reader_areNeededAround_8 (by decide) (fun c2 => ?_) (fun c2 => ?_)
    · have h := ite_t c2 h
      refine lv_iconst (v := 1) hx hb d_Reader_areNeededAround_17 (by decide) ?_
      refine lv_goto (tgt := 22) hx hb d_Reader_areNeededAround_18 (by decide) ?_
      exact k_Reader_areNeededAround_22 C0 x0 x1 x2 (1 : Int32) _ _ _ hP hS (lv_sub hl [0, 1, 2] rfl) h
    · have h := ite_f c2 h
      refine lv_iload_n hx hb d_Reader_areNeededAround_11 rfl (lv_at hl 1 rfl) ?_
      refine lv_bipush (v := 8) hx hb d_Reader_areNeededAround_12 (by decide) ?_
      refine lv_icmp_ne (tgt := 21) hx hb d_Reader_areNeededAround_14 (by decide) (fun c3 => ?_) (fun c3 => ?_)
      · have h := ite_f c3 h
        refine lv_iconst (v := 0) hx hb d_Reader_areNeededAround_21 (by decide) ?_
        exact k_Reader_areNeededAround_22 C0 x0 x1 x2 (0 : Int32) _ _ _ hP hS (lv_sub hl [0, 1, 2] rfl) h
      · have h := ite_t c3 h
        refine lv_iconst (v := 1) hx hb d_Reader_areNeededAround_17 (by decide) ?_
        refine lv_goto (tgt := 22) hx hb d_Reader_areNeededAround_18 (by decide) ?_
        exact k_Reader_areNeededAround_22 C0 x0 x1 x2 (1 : Int32) _ _ _ hP hS (lv_sub hl [0, 1, 2] rfl) h
theorem g_Reader_125 : GoodIn wsAll (wsV R_Reader 125 R_Reader y_Reader_releaseWaiting ws_Reader_releaseWaiting) := gd_V ml_Reader_125 im_Reader_releaseWaiting se_Reader_releaseWaiting ini_Reader cd_Reader_releaseWaiting
theorem g_Reader_170 : GoodIn wsAll (wsS R_Reader 170 y_Reader_areNeededAround ws_Reader_areNeededAround) := gd_S ml_Reader_170 st_Reader_areNeededAround ini_Reader cd_Reader_areNeededAround
theorem g_Reader_153 : GoodIn wsAll (wsV R_Reader 153 R_Reader y_Reader_releaseNegations ws_Reader_releaseNegations) := gd_V ml_Reader_153 im_Reader_releaseNegations se_Reader_releaseNegations ini_Reader cd_Reader_releaseNegations
def F_Reader_closeGroups_123 (o1 : Ob) (k0 : Ob → Ob → Option (Ob × Ob)) (x1 : Int32) (x2 : Int32) (o0 o2 : Ob) : Option (Ob × Ob) :=
  if x2 = (4 : Int32) then (chk (inb ((g32 o0 10 0) - (1 : Int32)) 9) (bind2 (F_Reader_releaseNegations (s32 (s32 (s32 o0 10 0 ((g32 o0 10 0) - (1 : Int32))) 11 0 ((g32 o0 11 0) - (1 : Int32))) 9 (Int32.toNatClampNeg ((g32 o0 10 0) - (1 : Int32))) (0 : Int32)) o1 o2) (fun o_29 o_30 => k0 o_29 o_30))) else (chk (inb ((g32 o0 10 0) - (1 : Int32)) 9) (bind2 (F_Reader_releaseNegations (s32 (s32 (s32 o0 10 0 ((g32 o0 10 0) - (1 : Int32))) 11 0 ((g32 o0 11 0) - (1 : Int32))) 9 (Int32.toNatClampNeg ((g32 o0 10 0) - (1 : Int32))) x1) o1 o2) (fun o_25 o_26 => k0 o_25 o_26)))
def F_Reader_closeGroups_64 (o1 : Ob) (k0 : Ob → Ob → Option (Ob × Ob)) (y0 : Int32) (o0 o2 : Ob) : Option (Ob × Ob) :=
  bind1 (F_Reader_lastWaiting o0) (fun v13 => chk (inb (g32 o0 10 0) 9) (bind1 (F_Reader_next (s32 o0 3 0 ((g32 o0 3 0) + (1 : Int32)))) (fun v16 => bind1 (F_Reader_areNeededAround y0 v13 v16) (fun v18 => if (b2i v18) = 0 then (chk (inb (g32 o0 7 (Int32.toNatClampNeg (g32 o0 10 0))) 400) (chk (inb (g32 o0 3 0) 400) (F_Reader_closeGroups_123 o1 k0 y0 v13 (s32 (s32 (s32 o0 3 0 ((g32 o0 3 0) + (1 : Int32))) 1 (Int32.toNatClampNeg (g32 o0 7 (Int32.toNatClampNeg (g32 o0 10 0)))) (vp_nar .boolean (1 : Int32))) 1 (Int32.toNatClampNeg (g32 o0 3 0)) (vp_nar .boolean (1 : Int32))) o2))) else (F_Reader_closeGroups_123 o1 k0 y0 v13 (s32 o0 3 0 ((g32 o0 3 0) + (1 : Int32))) o2)))))
def F_Reader_closeGroups_0 (o1 : Ob)  : Nat → Ob → Ob → Option (Ob × Ob)
  | 0, _, _ => none
  | n + 1, o0, o2 =>
    if (g32 o0 10 0) ≤ 0 then (some (o0, o2)) else (bind1 (F_Reader_next o0) (fun v3 => if v3 = (41 : Int32) then (bind2 (F_Reader_releaseWaiting (0 : Int32) o0 o1 o2) (fun o_6 o_7 => chk (inb (g32 o_6 10 0) 9) (if (g32 o_6 8 (Int32.toNatClampNeg (g32 o_6 10 0))) = 0 then (F_Reader_closeGroups_64 o1 (F_Reader_closeGroups_0 o1 n) (g32 o_6 9 (Int32.toNatClampNeg (g32 o_6 10 0))) (s32 o_6 6 0 ((g32 o_6 6 0) - (1 : Int32))) o_7) else (F_Reader_closeGroups_64 o1 (F_Reader_closeGroups_0 o1 n) (g32 o_6 8 (Int32.toNatClampNeg (g32 o_6 10 0))) (s32 o_6 6 0 ((g32 o_6 6 0) - (1 : Int32))) o_7)))) else (some (o0, o2))))
def F_Reader_closeGroups  (o0 o1 o2 : Ob) : Option (Ob × Ob) :=
  F_Reader_closeGroups_0 o1 fuel o0 o2
abbrev ws_Reader_closeGroups : List Cond := Cond.code y_Reader_closeGroups b_Reader_closeGroups 5 (none : Option Jvm.ClassFile.FieldType) :: wsAll
abbrev rm_Reader_closeGroups : Room := { frames := 2, cells := 0, slots := 0, locals := 44 }
set_option maxHeartbeats 4000000 in
set_option maxRecDepth 100000 in
theorem k_Reader_closeGroups_123 {p : Program} {l : Launch} {e : Env} {s : State} {m : MethodId} {args : Array Value} {below : List Frame} {meth : Method} {c : Code} {A : Nat → Prop} {ct dC : Nat → ClassId} {dI : Nat → Nat → Nat} {a0 a1 a2 : Nat → Nat}  {n0 n2 : Ob} {o1 : Ob} {k0 : Ob → Ob → Option (Ob × Ob)} (C0 : cx wsAll vwCl nx p s m args meth c (dC, dI) (tyA ct) b_Reader_closeGroups 5 (none : Option Jvm.ClassFile.FieldType) R_Reader A [adReader a0, adText a1, adSteps a2]) (hk0 : ∀  (o0 o2 : Ob) (H : Heap) (locs : List Loc) (ls : Array Slot), bw_P (dC, dI) vwCl [wReader ct a0 (a1 0) o0, wText ct a1 (a2 0) o1, wSteps ct a2 o2] H → va_S A s.heap H locs → lv_has ls 5 [(0, .ref (a0 0))] → k0 o0 o2 = some (n0, n2) → W p l e (headSpec ws_Reader_closeGroups rm_Reader_closeGroups).room s m args below meth c H locs 0 0 (MQ below (bw_Q (dC, dI) vwCl none [wReader ct a0 (a1 0) n0, wText ct a1 (a2 0) o1, wSteps ct a2 n2] A) args s 0 0 A) (F0 m 0 ls [])) : ∀ (x1 : Int32) (x2 : Int32) (o0 o2 : Ob) (H : Heap) (locs : List Loc) (ls : Array Slot), bw_P (dC, dI) vwCl [wReader ct a0 (a1 0) o0, wText ct a1 (a2 0) o1, wSteps ct a2 o2] H → va_S A s.heap H locs → lv_has ls 5 [(0, .ref (a0 0)), (1, .int x1), (2, .int x2)] → F_Reader_closeGroups_123 o1 k0 x1 x2 o0 o2 = some (n0, n2) → W p l e (headSpec ws_Reader_closeGroups rm_Reader_closeGroups).room s m args below meth c H locs 0 0 (MQ below (bw_Q (dC, dI) vwCl none [wReader ct a0 (a1 0) n0, wText ct a1 (a2 0) o1, wSteps ct a2 n2] A) args s 0 0 A) (F0 m 123 ls []) := by
  obtain ⟨hx, hb, hr, hml, hown, hlocks, hts, hK, hN, hA, hnx⟩ := id C0
  intro x1 x2 o0 o2 H locs ls hP hS hl h
  rw [F_Reader_closeGroups_123] at h
  refine lv_aload_n hx hb d_Reader_closeGroups_123 rfl (lv_at hl 0 rfl) ?_
  refine lv_dup hx hb d_Reader_closeGroups_124 rfl ?_
  refine va_get (D := (dC, dI)) (ci := 3) (v := .int (g32 o0 10 0)) (C := R_Reader) (T := T_Reader) (N := 12) hx hb hts in_Reader hown hK (hP 0 _ rfl) 0 rfl rfl 10 (by decide) (hts _ fl_Reader_49) (fun _ h9 => h9) rfl d_Reader_closeGroups_125 ?_
  refine lv_iconst (v := 1) hx hb d_Reader_closeGroups_128 (by decide) ?_
  refine lv_isub hx hb d_Reader_closeGroups_129 ?_
  refine pt_Reader_10 hx hb hts hown hK hP hN hS 0 rfl (hts _ fl_Reader_49) d_Reader_closeGroups_130 (fun H locs hP hS => ?_)
  have hP : bw_P (dC, dI) vwCl [wReader ct a0 (a1 0) (s32 o0 10 0 ((g32 o0 10 0) - (1 : Int32))), wText ct a1 (a2 0) o1, wSteps ct a2 o2] H := hP
  refine lv_aload_n hx hb d_Reader_closeGroups_133 rfl (lv_at hl 0 rfl) ?_
  refine lv_dup hx hb d_Reader_closeGroups_134 rfl ?_
  refine va_get (D := (dC, dI)) (ci := 3) (v := .int (g32 o0 11 0)) (C := R_Reader) (T := T_Reader) (N := 12) hx hb hts in_Reader hown hK (hP 0 _ rfl) 0 rfl rfl 11 (by decide) (hts _ fl_Reader_52) (fun _ h9 => h9) rfl d_Reader_closeGroups_135 ?_
  refine lv_iconst (v := 1) hx hb d_Reader_closeGroups_138 (by decide) ?_
  refine lv_isub hx hb d_Reader_closeGroups_139 ?_
  refine pt_Reader_11 hx hb hts hown hK hP hN hS 0 rfl (hts _ fl_Reader_52) d_Reader_closeGroups_140 (fun H locs hP hS => ?_)
  have hP : bw_P (dC, dI) vwCl [wReader ct a0 (a1 0) (s32 (s32 o0 10 0 ((g32 o0 10 0) - (1 : Int32))) 11 0 ((g32 o0 11 0) - (1 : Int32))), wText ct a1 (a2 0) o1, wSteps ct a2 o2] H := hP
  refine lv_aload_n hx hb d_Reader_closeGroups_143 rfl (lv_at hl 0 rfl) ?_
  refine va_get (D := (dC, dI)) (ci := 3) (v := .ref (a0 6)) (C := R_Reader) (T := T_Reader) (N := 12) hx hb hts in_Reader hown hK (hP 0 _ rfl) 0 rfl rfl 9 (by decide) (hts _ fl_Reader_46) (fun _ h9 => h9) rfl d_Reader_closeGroups_144 ?_
  refine lv_aload_n hx hb d_Reader_closeGroups_147 rfl (lv_at hl 0 rfl) ?_
  refine va_get (D := (dC, dI)) (ci := 3) (v := .int ((g32 o0 10 0) - (1 : Int32))) (C := R_Reader) (T := T_Reader) (N := 12) hx hb hts in_Reader hown hK (hP 0 _ rfl) 0 rfl rfl 10 (by decide) (hts _ fl_Reader_49) (fun _ h9 => h9) rfl d_Reader_closeGroups_148 ?_
  refine lv_iload_n hx hb d_Reader_closeGroups_151 rfl (lv_at hl 2 rfl) ?_
  refine lv_iconst (v := 4) hx hb d_Reader_closeGroups_152 (by decide) ?_
  refine lv_icmp_ne (tgt := 160) hx hb d_Reader_closeGroups_153 (by decide) (fun c22 => ?_) (fun c22 => ?_)
  · have h := ite_f c22 h
    refine lv_iload_n hx hb d_Reader_closeGroups_160 rfl (lv_at hl 1 rfl) ?_
    obtain ⟨hi23, h⟩ := chk_some h
    refine st_Reader_9 hx hb hK hP hN hS 0 rfl (inb_in hi23) d_Reader_closeGroups_161 (fun H locs hP hS => ?_)
    have hP : bw_P (dC, dI) vwCl [wReader ct a0 (a1 0) (s32 (s32 (s32 o0 10 0 ((g32 o0 10 0) - (1 : Int32))) 11 0 ((g32 o0 11 0) - (1 : Int32))) 9 (Int32.toNatClampNeg ((g32 o0 10 0) - (1 : Int32))) x1), wText ct a1 (a2 0) o1, wSteps ct a2 o2] H := hP
    refine lv_aload_n hx hb d_Reader_closeGroups_162 rfl (lv_at hl 0 rfl) ?_
    obtain ⟨o_25, o_26, hG24, h⟩ := bind2_some h
    refine bw_call (Lc := [wReader ct a0 (a1 0) (s32 (s32 (s32 o0 10 0 ((g32 o0 10 0) - (1 : Int32))) 11 0 ((g32 o0 11 0) - (1 : Int32))) 9 (Int32.toNatClampNeg ((g32 o0 10 0) - (1 : Int32))) x1), wText ct a1 (a2 0) o1, wSteps ct a2 o2]) (Lc' := [wReader ct a0 (a1 0) o_25, wText ct a1 (a2 0) o1, wSteps ct a2 o_26]) (L' := [wReader ct a0 (a1 0) o_25, wText ct a1 (a2 0) o1, wSteps ct a2 o_26]) [0, 1, 2] (va_runV (As := []) (rest := []) ⟨hx, hb, hml, hown, hts⟩ (c_Reader_releaseNegations l ct dC dI a0 a1 a2 _ (s32 (s32 (s32 o0 10 0 ((g32 o0 10 0) - (1 : Int32))) 11 0 ((g32 o0 11 0) - (1 : Int32))) 9 (Int32.toNatClampNeg ((g32 o0 10 0) - (1 : Int32))) x1) o1 o2 o_25 o_26 hG24) (cwV 0 hts g_Reader_153 rfl rfl rfl (by decide +kernel) ⟨Nat.le_of_ble_eq_true rfl, Nat.le_of_ble_eq_true rfl⟩) ⟨bw_blind nx_call, va_recv hK (hP 0 _ rfl) (ci := 3) (q0 := 0) rfl rfl, fun U hU hW => ⟨rfl, by rw [hU], by rw [hU]; exact hP.sub [0, 1, 2] rfl, va_K.moved hW.alike hK, (hN.sub [0, 1, 2] (by decide) rfl).weaken (fun _ _ => trivial), nx_warm hW hnx⟩⟩ rfl rfl hl.1 rfl (Nat.le_of_ble_eq_true rfl) d_Reader_closeGroups_163 ⟨Nat.le_of_ble_eq_true rfl, Nat.le_of_ble_eq_true rfl⟩) hP hN hS hA rfl rfl rfl (fun H locs hP hS => ?_)
    refine lv_goto (tgt := 0) hx hb d_Reader_closeGroups_166 (by decide) ?_
    exact hk0 o_25 o_26 _ _ _ hP hS (lv_sub hl [0] rfl) h
  · have h := ite_t c22 h
    refine lv_iconst (v := 0) hx hb d_Reader_closeGroups_156 (by decide) ?_
    refine lv_goto (tgt := 161) hx hb d_Reader_closeGroups_157 (by decide) ?_
    obtain ⟨hi27, h⟩ := chk_some h
    refine st_Reader_9 hx hb hK hP hN hS 0 rfl (inb_in hi27) d_Reader_closeGroups_161 (fun H locs hP hS => ?_)
    have hP : bw_P (dC, dI) vwCl [wReader ct a0 (a1 0) (s32 (s32 (s32 o0 10 0 ((g32 o0 10 0) - (1 : Int32))) 11 0 ((g32 o0 11 0) - (1 : Int32))) 9 (Int32.toNatClampNeg ((g32 o0 10 0) - (1 : Int32))) (0 : Int32)), wText ct a1 (a2 0) o1, wSteps ct a2 o2] H := hP
    refine lv_aload_n hx hb d_Reader_closeGroups_162 rfl (lv_at hl 0 rfl) ?_
    obtain ⟨o_29, o_30, hG28, h⟩ := bind2_some h
    refine bw_call (Lc := [wReader ct a0 (a1 0) (s32 (s32 (s32 o0 10 0 ((g32 o0 10 0) - (1 : Int32))) 11 0 ((g32 o0 11 0) - (1 : Int32))) 9 (Int32.toNatClampNeg ((g32 o0 10 0) - (1 : Int32))) (0 : Int32)), wText ct a1 (a2 0) o1, wSteps ct a2 o2]) (Lc' := [wReader ct a0 (a1 0) o_29, wText ct a1 (a2 0) o1, wSteps ct a2 o_30]) (L' := [wReader ct a0 (a1 0) o_29, wText ct a1 (a2 0) o1, wSteps ct a2 o_30]) [0, 1, 2] (va_runV (As := []) (rest := []) ⟨hx, hb, hml, hown, hts⟩ (c_Reader_releaseNegations l ct dC dI a0 a1 a2 _ (s32 (s32 (s32 o0 10 0 ((g32 o0 10 0) - (1 : Int32))) 11 0 ((g32 o0 11 0) - (1 : Int32))) 9 (Int32.toNatClampNeg ((g32 o0 10 0) - (1 : Int32))) (0 : Int32)) o1 o2 o_29 o_30 hG28) (cwV 0 hts g_Reader_153 rfl rfl rfl (by decide +kernel) ⟨Nat.le_of_ble_eq_true rfl, Nat.le_of_ble_eq_true rfl⟩) ⟨bw_blind nx_call, va_recv hK (hP 0 _ rfl) (ci := 3) (q0 := 0) rfl rfl, fun U hU hW => ⟨rfl, by rw [hU], by rw [hU]; exact hP.sub [0, 1, 2] rfl, va_K.moved hW.alike hK, (hN.sub [0, 1, 2] (by decide) rfl).weaken (fun _ _ => trivial), nx_warm hW hnx⟩⟩ rfl rfl hl.1 rfl (Nat.le_of_ble_eq_true rfl) d_Reader_closeGroups_163 ⟨Nat.le_of_ble_eq_true rfl, Nat.le_of_ble_eq_true rfl⟩) hP hN hS hA rfl rfl rfl (fun H locs hP hS => ?_)
    refine lv_goto (tgt := 0) hx hb d_Reader_closeGroups_166 (by decide) ?_
    exact hk0 o_29 o_30 _ _ _ hP hS (lv_sub hl [0] rfl) h
set_option maxHeartbeats 4000000 in
set_option maxRecDepth 100000 in
theorem k_Reader_closeGroups_64 {p : Program} {l : Launch} {e : Env} {s : State} {m : MethodId} {args : Array Value} {below : List Frame} {meth : Method} {c : Code} {A : Nat → Prop} {ct dC : Nat → ClassId} {dI : Nat → Nat → Nat} {a0 a1 a2 : Nat → Nat}  {n0 n2 : Ob} {o1 : Ob} {k0 : Ob → Ob → Option (Ob × Ob)} (C0 : cx wsAll vwCl nx p s m args meth c (dC, dI) (tyA ct) b_Reader_closeGroups 5 (none : Option Jvm.ClassFile.FieldType) R_Reader A [adReader a0, adText a1, adSteps a2]) (hk0 : ∀  (o0 o2 : Ob) (H : Heap) (locs : List Loc) (ls : Array Slot), bw_P (dC, dI) vwCl [wReader ct a0 (a1 0) o0, wText ct a1 (a2 0) o1, wSteps ct a2 o2] H → va_S A s.heap H locs → lv_has ls 5 [(0, .ref (a0 0))] → k0 o0 o2 = some (n0, n2) → W p l e (headSpec ws_Reader_closeGroups rm_Reader_closeGroups).room s m args below meth c H locs 0 0 (MQ below (bw_Q (dC, dI) vwCl none [wReader ct a0 (a1 0) n0, wText ct a1 (a2 0) o1, wSteps ct a2 n2] A) args s 0 0 A) (F0 m 0 ls [])) : ∀ (y0 : Int32) (o0 o2 : Ob) (H : Heap) (locs : List Loc) (ls : Array Slot), bw_P (dC, dI) vwCl [wReader ct a0 (a1 0) o0, wText ct a1 (a2 0) o1, wSteps ct a2 o2] H → va_S A s.heap H locs → lv_has ls 5 [(0, .ref (a0 0))] → F_Reader_closeGroups_64 o1 k0 y0 o0 o2 = some (n0, n2) → W p l e (headSpec ws_Reader_closeGroups rm_Reader_closeGroups).room s m args below meth c H locs 0 0 (MQ below (bw_Q (dC, dI) vwCl none [wReader ct a0 (a1 0) n0, wText ct a1 (a2 0) o1, wSteps ct a2 n2] A) args s 0 0 A) (F0 m 64 ls [.int y0]) := by
  obtain ⟨hx, hb, hr, hml, hown, hlocks, hts, hK, hN, hA, hnx⟩ := id C0
  intro y0 o0 o2 H locs ls hP hS hl h
  rw [F_Reader_closeGroups_64] at h
  refine lv_istore_n (lv' := [(1, .int y0), (0, .ref (a0 0))]) hx hb d_Reader_closeGroups_64 rfl hl (by decide) rfl (fun ls hl => ?_)
  refine lv_aload_n hx hb d_Reader_closeGroups_65 rfl (lv_at hl 1 rfl) ?_
  obtain ⟨v13, hG12, h⟩ := bind1_some h
  refine bw_callR (va_runV (As := []) (rest := []) ⟨hx, hb, hml, hown, hts⟩ (c_Reader_lastWaiting l ct dC dI a0 (a1 0) _ o0 v13 hG12) (cwV 0 hts g_Reader_167 rfl rfl rfl (by decide +kernel) ⟨Nat.le_of_ble_eq_true rfl, Nat.le_of_ble_eq_true rfl⟩) ⟨bw_blind nx_call, va_recv hK (hP 0 _ rfl) (ci := 3) (q0 := 0) rfl rfl, fun U hU hW => ⟨rfl, by rw [hU], by rw [hU]; exact hP.sub [0] rfl, va_K.moved hW.alike hK, (hN.sub [0] (by decide) rfl).weaken (fun _ _ => trivial), nx_warm hW hnx⟩⟩ rfl rfl hl.1 rfl (Nat.le_of_ble_eq_true rfl) d_Reader_closeGroups_66 ⟨Nat.le_of_ble_eq_true rfl, Nat.le_of_ble_eq_true rfl⟩) ?_
  refine lv_istore_n (lv' := [(2, .int v13), (1, .int y0), (0, .ref (a0 0))]) hx hb d_Reader_closeGroups_69 rfl hl (by decide) rfl (fun ls hl => ?_)
  refine lv_aload_n hx hb d_Reader_closeGroups_70 rfl (lv_at hl 2 rfl) ?_
  refine va_get (D := (dC, dI)) (ci := 3) (v := .ref (a0 4)) (C := R_Reader) (T := T_Reader) (N := 12) hx hb hts in_Reader hown hK (hP 0 _ rfl) 0 rfl rfl 7 (by decide) (hts _ fl_Reader_40) (fun _ h9 => h9) rfl d_Reader_closeGroups_71 ?_
  refine lv_aload_n hx hb d_Reader_closeGroups_74 rfl (lv_at hl 2 rfl) ?_
  refine va_get (D := (dC, dI)) (ci := 3) (v := .int (g32 o0 10 0)) (C := R_Reader) (T := T_Reader) (N := 12) hx hb hts in_Reader hown hK (hP 0 _ rfl) 0 rfl rfl 10 (by decide) (hts _ fl_Reader_49) (fun _ h9 => h9) rfl d_Reader_closeGroups_75 ?_
  obtain ⟨hi14, h⟩ := chk_some h
  refine va_iald (f := g32 o0 7) hx hb hK (hP 0 _ rfl) 4 0 rfl rfl (inb_in hi14) d_Reader_closeGroups_78 ?_
  refine lv_istore_n (lv' := [(3, .int (g32 o0 7 (Int32.toNatClampNeg (g32 o0 10 0)))), (2, .int v13), (1, .int y0), (0, .ref (a0 0))]) hx hb d_Reader_closeGroups_79 rfl hl (by decide) rfl (fun ls hl => ?_)
  refine lv_aload_n hx hb d_Reader_closeGroups_80 rfl (lv_at hl 3 rfl) ?_
  refine va_get (D := (dC, dI)) (ci := 3) (v := .int (g32 o0 3 0)) (C := R_Reader) (T := T_Reader) (N := 12) hx hb hts in_Reader hown hK (hP 0 _ rfl) 0 rfl rfl 3 (by decide) (hts _ fl_Reader_23) (fun _ h9 => h9) rfl d_Reader_closeGroups_81 ?_
  refine lv_istore (lv' := [(4, .int (g32 o0 3 0)), (3, .int (g32 o0 7 (Int32.toNatClampNeg (g32 o0 10 0)))), (2, .int v13), (1, .int y0), (0, .ref (a0 0))]) hx hb d_Reader_closeGroups_84 hl (by decide) rfl (fun ls hl => ?_)
  refine lv_aload_n hx hb d_Reader_closeGroups_86 rfl (lv_at hl 4 rfl) ?_
  refine lv_dup hx hb d_Reader_closeGroups_87 rfl ?_
  refine va_get (D := (dC, dI)) (ci := 3) (v := .int (g32 o0 3 0)) (C := R_Reader) (T := T_Reader) (N := 12) hx hb hts in_Reader hown hK (hP 0 _ rfl) 0 rfl rfl 3 (by decide) (hts _ fl_Reader_23) (fun _ h9 => h9) rfl d_Reader_closeGroups_88 ?_
  refine lv_iconst (v := 1) hx hb d_Reader_closeGroups_91 (by decide) ?_
  refine lv_iadd hx hb d_Reader_closeGroups_92 ?_
  refine pt_Reader_3 hx hb hts hown hK hP hN hS 0 rfl (hts _ fl_Reader_23) d_Reader_closeGroups_93 (fun H locs hP hS => ?_)
  have hP : bw_P (dC, dI) vwCl [wReader ct a0 (a1 0) (s32 o0 3 0 ((g32 o0 3 0) + (1 : Int32))), wText ct a1 (a2 0) o1, wSteps ct a2 o2] H := hP
  refine lv_iload_n hx hb d_Reader_closeGroups_96 rfl (lv_at hl 3 rfl) ?_
  refine lv_iload_n hx hb d_Reader_closeGroups_97 rfl (lv_at hl 2 rfl) ?_
  refine lv_aload_n hx hb d_Reader_closeGroups_98 rfl (lv_at hl 4 rfl) ?_
  obtain ⟨v16, hG15, h⟩ := bind1_some h
  refine bw_callR (va_runV (As := []) (rest := [.int v13, .int y0]) ⟨hx, hb, hml, hown, hts⟩ (c_Reader_next l ct dC dI a0 (a1 0) _ (s32 o0 3 0 ((g32 o0 3 0) + (1 : Int32))) v16 hG15) (cwV 0 hts g_Reader_78 rfl rfl rfl (by decide +kernel) ⟨Nat.le_of_ble_eq_true rfl, Nat.le_of_ble_eq_true rfl⟩) ⟨bw_blind nx_call, va_recv hK (hP 0 _ rfl) (ci := 3) (q0 := 0) rfl rfl, fun U hU hW => ⟨rfl, by rw [hU], by rw [hU]; exact hP.sub [0] rfl, va_K.moved hW.alike hK, (hN.sub [0] (by decide) rfl).weaken (fun _ _ => trivial), nx_warm hW hnx⟩⟩ rfl rfl hl.1 rfl (Nat.le_of_ble_eq_true rfl) d_Reader_closeGroups_99 ⟨Nat.le_of_ble_eq_true rfl, Nat.le_of_ble_eq_true rfl⟩) ?_
  obtain ⟨v18, hG17, h⟩ := bind1_some h
  refine bw_callR (va_runS (As := [.int y0, .int v13, .int v16]) (rest := []) ⟨hx, hb, hml, hown, hts⟩ (c_Reader_areNeededAround l ct dC dI _ y0 v13 v16 v18 hG17) (cwS 3 hts g_Reader_170 rfl rfl rfl (by decide +kernel) ⟨Nat.le_of_ble_eq_true rfl, Nat.le_of_ble_eq_true rfl⟩) ⟨bw_blind nx_call, fun U hU hW => ⟨rfl, by rw [hU], by rw [hU]; exact hP.sub [] rfl, va_K.moved hW.alike hK, (hN.sub [] (by decide) rfl).weaken (fun _ _ => trivial), nx_warm hW hnx⟩⟩ rfl rfl hl.1 rfl (Nat.le_of_ble_eq_true rfl) d_Reader_closeGroups_102 ⟨Nat.le_of_ble_eq_true rfl, Nat.le_of_ble_eq_true rfl⟩) ?_
  refine lv_if_ne (tgt := 123) hx hb d_Reader_closeGroups_105 (by decide) (fun c19 => ?_) (fun c19 => ?_)
  · have h := ite_f c19 h
    exact k_Reader_closeGroups_123 C0 hk0 y0 v13 (s32 o0 3 0 ((g32 o0 3 0) + (1 : Int32))) o2 _ _ _ hP hS (lv_sub hl [4, 3, 2] rfl) h
  · have h := ite_t c19 h
    refine lv_aload_n hx hb d_Reader_closeGroups_108 rfl (lv_at hl 4 rfl) ?_
    refine va_get (D := (dC, dI)) (ci := 3) (v := .ref (a0 2)) (C := R_Reader) (T := T_Reader) (N := 12) hx hb hts in_Reader hown hK (hP 0 _ rfl) 0 rfl rfl 1 (by decide) (hts _ fl_Reader_15) (fun _ h9 => h9) rfl d_Reader_closeGroups_109 ?_
    refine lv_iload_n hx hb d_Reader_closeGroups_112 rfl (lv_at hl 1 rfl) ?_
    refine lv_iconst (v := 1) hx hb d_Reader_closeGroups_113 (by decide) ?_
    obtain ⟨hi20, h⟩ := chk_some h
    refine st_Reader_1 hx hb hK hP hN hS 0 rfl (inb_in hi20) d_Reader_closeGroups_114 (fun H locs hP hS => ?_)
    have hP : bw_P (dC, dI) vwCl [wReader ct a0 (a1 0) (s32 (s32 o0 3 0 ((g32 o0 3 0) + (1 : Int32))) 1 (Int32.toNatClampNeg (g32 o0 7 (Int32.toNatClampNeg (g32 o0 10 0)))) (vp_nar .boolean (1 : Int32))), wText ct a1 (a2 0) o1, wSteps ct a2 o2] H := hP
    refine lv_aload_n hx hb d_Reader_closeGroups_115 rfl (lv_at hl 4 rfl) ?_
    refine va_get (D := (dC, dI)) (ci := 3) (v := .ref (a0 2)) (C := R_Reader) (T := T_Reader) (N := 12) hx hb hts in_Reader hown hK (hP 0 _ rfl) 0 rfl rfl 1 (by decide) (hts _ fl_Reader_15) (fun _ h9 => h9) rfl d_Reader_closeGroups_116 ?_
    refine lv_iload hx hb d_Reader_closeGroups_119 (lv_at hl 0 rfl) ?_
    refine lv_iconst (v := 1) hx hb d_Reader_closeGroups_121 (by decide) ?_
    obtain ⟨hi21, h⟩ := chk_some h
    refine st_Reader_1 hx hb hK hP hN hS 0 rfl (inb_in hi21) d_Reader_closeGroups_122 (fun H locs hP hS => ?_)
    have hP : bw_P (dC, dI) vwCl [wReader ct a0 (a1 0) (s32 (s32 (s32 o0 3 0 ((g32 o0 3 0) + (1 : Int32))) 1 (Int32.toNatClampNeg (g32 o0 7 (Int32.toNatClampNeg (g32 o0 10 0)))) (vp_nar .boolean (1 : Int32))) 1 (Int32.toNatClampNeg (g32 o0 3 0)) (vp_nar .boolean (1 : Int32))), wText ct a1 (a2 0) o1, wSteps ct a2 o2] H := hP
    exact k_Reader_closeGroups_123 C0 hk0 y0 v13 (s32 (s32 (s32 o0 3 0 ((g32 o0 3 0) + (1 : Int32))) 1 (Int32.toNatClampNeg (g32 o0 7 (Int32.toNatClampNeg (g32 o0 10 0)))) (vp_nar .boolean (1 : Int32))) 1 (Int32.toNatClampNeg (g32 o0 3 0)) (vp_nar .boolean (1 : Int32))) o2 _ _ _ hP hS (lv_sub hl [4, 3, 2] rfl) h
set_option maxHeartbeats 4000000 in
set_option maxRecDepth 100000 in
theorem k_Reader_closeGroups_0 {p : Program} {l : Launch} {e : Env} {s : State} {m : MethodId} {args : Array Value} {below : List Frame} {meth : Method} {c : Code} {A : Nat → Prop} {ct dC : Nat → ClassId} {dI : Nat → Nat → Nat} {a0 a1 a2 : Nat → Nat}  {n0 n2 : Ob} {o1 : Ob}  (C0 : cx wsAll vwCl nx p s m args meth c (dC, dI) (tyA ct) b_Reader_closeGroups 5 (none : Option Jvm.ClassFile.FieldType) R_Reader A [adReader a0, adText a1, adSteps a2])  : ∀ (n : Nat)  (o0 o2 : Ob) (H : Heap) (locs : List Loc) (ls : Array Slot), bw_P (dC, dI) vwCl [wReader ct a0 (a1 0) o0, wText ct a1 (a2 0) o1, wSteps ct a2 o2] H → va_S A s.heap H locs → lv_has ls 5 [(0, .ref (a0 0))] → F_Reader_closeGroups_0 o1 n o0 o2 = some (n0, n2) → W p l e (headSpec ws_Reader_closeGroups rm_Reader_closeGroups).room s m args below meth c H locs 0 0 (MQ below (bw_Q (dC, dI) vwCl none [wReader ct a0 (a1 0) n0, wText ct a1 (a2 0) o1, wSteps ct a2 n2] A) args s 0 0 A) (F0 m 0 ls []) := by
  obtain ⟨hx, hb, hr, hml, hown, hlocks, hts, hK, hN, hA, hnx⟩ := id C0
  intro n
  induction n with
  | zero =>
    intro o0 o2 H locs ls hP hS hl h
    cases h
  | succ n ih =>
    intro o0 o2 H locs ls hP hS hl h
    rw [F_Reader_closeGroups_0] at h
    refine lv_aload_n hx hb d_Reader_closeGroups_0 rfl (lv_at hl 0 rfl) ?_
    refine va_get (D := (dC, dI)) (ci := 3) (v := .int (g32 o0 10 0)) (C := R_Reader) (T := T_Reader) (N := 12) hx hb hts in_Reader hown hK (hP 0 _ rfl) 0 rfl rfl 10 (by decide) (hts _ fl_Reader_49) (fun _ h9 => h9) rfl d_Reader_closeGroups_1 ?_
    refine lv_if_le (tgt := 169) hx hb d_Reader_closeGroups_4 (by decide) (fun c1 => ?_) (fun c1 => ?_)
    · have h := ite_t c1 h
      obtain ⟨rfl, rfl⟩ := res2 h
      exact W.vret hx hb hr (fun t ht hW => ⟨rfl, by rw [ht]; exact hP, hS.F ht⟩) hS.2.2 d_Reader_closeGroups_169
    · have h := ite_f c1 h
      refine lv_aload_n hx hb d_Reader_closeGroups_7 rfl (lv_at hl 0 rfl) ?_
      obtain ⟨v3, hG2, h⟩ := bind1_some h
      refine bw_callR (va_runV (As := []) (rest := []) ⟨hx, hb, hml, hown, hts⟩ (c_Reader_next l ct dC dI a0 (a1 0) _ o0 v3 hG2) (cwV 0 hts g_Reader_78 rfl rfl rfl (by decide +kernel) ⟨Nat.le_of_ble_eq_true rfl, Nat.le_of_ble_eq_true rfl⟩) ⟨bw_blind nx_call, va_recv hK (hP 0 _ rfl) (ci := 3) (q0 := 0) rfl rfl, fun U hU hW => ⟨rfl, by rw [hU], by rw [hU]; exact hP.sub [0] rfl, va_K.moved hW.alike hK, (hN.sub [0] (by decide) rfl).weaken (fun _ _ => trivial), nx_warm hW hnx⟩⟩ rfl rfl hl.1 rfl (Nat.le_of_ble_eq_true rfl) d_Reader_closeGroups_8 ⟨Nat.le_of_ble_eq_true rfl, Nat.le_of_ble_eq_true rfl⟩) ?_
      refine lv_bipush (v := 41) hx hb d_Reader_closeGroups_11 (by decide) ?_
      refine lv_icmp_ne (tgt := 169) hx hb d_Reader_closeGroups_13 (by decide) (fun c4 => ?_) (fun c4 => ?_)
      · have h := ite_f c4 h
        obtain ⟨rfl, rfl⟩ := res2 h
        exact W.vret hx hb hr (fun t ht hW => ⟨rfl, by rw [ht]; exact hP, hS.F ht⟩) hS.2.2 d_Reader_closeGroups_169
      · have h := ite_t c4 h
        refine lv_aload_n hx hb d_Reader_closeGroups_16 rfl (lv_at hl 0 rfl) ?_
        refine lv_iconst (v := 0) hx hb d_Reader_closeGroups_17 (by decide) ?_
        obtain ⟨o_6, o_7, hG5, h⟩ := bind2_some h
        refine bw_call (Lc := [wReader ct a0 (a1 0) o0, wText ct a1 (a2 0) o1, wSteps ct a2 o2]) (Lc' := [wReader ct a0 (a1 0) o_6, wText ct a1 (a2 0) o1, wSteps ct a2 o_7]) (L' := [wReader ct a0 (a1 0) o_6, wText ct a1 (a2 0) o1, wSteps ct a2 o_7]) [0, 1, 2] (va_runV (As := [.int (0 : Int32)]) (rest := []) ⟨hx, hb, hml, hown, hts⟩ (c_Reader_releaseWaiting l ct dC dI a0 a1 a2 _ (0 : Int32) o0 o1 o2 o_6 o_7 hG5) (cwV 1 hts g_Reader_125 rfl rfl rfl (by decide +kernel) ⟨Nat.le_of_ble_eq_true rfl, Nat.le_of_ble_eq_true rfl⟩) ⟨bw_blind nx_call, va_recv hK (hP 0 _ rfl) (ci := 3) (q0 := 0) rfl rfl, fun U hU hW => ⟨rfl, by rw [hU], by rw [hU]; exact hP.sub [0, 1, 2] rfl, va_K.moved hW.alike hK, (hN.sub [0, 1, 2] (by decide) rfl).weaken (fun _ _ => trivial), nx_warm hW hnx⟩⟩ rfl rfl hl.1 rfl (Nat.le_of_ble_eq_true rfl) d_Reader_closeGroups_18 ⟨Nat.le_of_ble_eq_true rfl, Nat.le_of_ble_eq_true rfl⟩) hP hN hS hA rfl rfl rfl (fun H locs hP hS => ?_)
        refine lv_aload_n hx hb d_Reader_closeGroups_21 rfl (lv_at hl 0 rfl) ?_
        refine lv_dup hx hb d_Reader_closeGroups_22 rfl ?_
        refine va_get (D := (dC, dI)) (ci := 3) (v := .int (g32 o_6 6 0)) (C := R_Reader) (T := T_Reader) (N := 12) hx hb hts in_Reader hown hK (hP 0 _ rfl) 0 rfl rfl 6 (by decide) (hts _ fl_Reader_37) (fun _ h9 => h9) rfl d_Reader_closeGroups_23 ?_
        refine lv_iconst (v := 1) hx hb d_Reader_closeGroups_26 (by decide) ?_
        refine lv_isub hx hb d_Reader_closeGroups_27 ?_
        refine pt_Reader_6 hx hb hts hown hK hP hN hS 0 rfl (hts _ fl_Reader_37) d_Reader_closeGroups_28 (fun H locs hP hS => ?_)
        have hP : bw_P (dC, dI) vwCl [wReader ct a0 (a1 0) (s32 o_6 6 0 ((g32 o_6 6 0) - (1 : Int32))), wText ct a1 (a2 0) o1, wSteps ct a2 o_7] H := hP
        refine lv_aload_n hx hb d_Reader_closeGroups_31 rfl (lv_at hl 0 rfl) ?_
        refine va_get (D := (dC, dI)) (ci := 3) (v := .ref (a0 5)) (C := R_Reader) (T := T_Reader) (N := 12) hx hb hts in_Reader hown hK (hP 0 _ rfl) 0 rfl rfl 8 (by decide) (hts _ fl_Reader_43) (fun _ h9 => h9) rfl d_Reader_closeGroups_32 ?_
        refine lv_aload_n hx hb d_Reader_closeGroups_35 rfl (lv_at hl 0 rfl) ?_
        refine va_get (D := (dC, dI)) (ci := 3) (v := .int (g32 o_6 10 0)) (C := R_Reader) (T := T_Reader) (N := 12) hx hb hts in_Reader hown hK (hP 0 _ rfl) 0 rfl rfl 10 (by decide) (hts _ fl_Reader_49) (fun _ h9 => h9) rfl d_Reader_closeGroups_36 ?_
        obtain ⟨hi8, h⟩ := chk_some h
        refine va_iald (f := g32 o_6 8) hx hb hK (hP 0 _ rfl) 5 0 rfl rfl (inb_in hi8) d_Reader_closeGroups_39 ?_
        refine lv_if_ne (tgt := 55) hx hb d_Reader_closeGroups_40 (by decide) (fun c9 => ?_) (fun c9 => ?_)
        · have h := ite_f c9 h
          refine lv_aload_n hx hb d_Reader_closeGroups_55 rfl (lv_at hl 0 rfl) ?_
          refine va_get (D := (dC, dI)) (ci := 3) (v := .ref (a0 5)) (C := R_Reader) (T := T_Reader) (N := 12) hx hb hts in_Reader hown hK (hP 0 _ rfl) 0 rfl rfl 8 (by decide) (hts _ fl_Reader_43) (fun _ h9 => h9) rfl d_Reader_closeGroups_56 ?_
          refine lv_aload_n hx hb d_Reader_closeGroups_59 rfl (lv_at hl 0 rfl) ?_
          refine va_get (D := (dC, dI)) (ci := 3) (v := .int (g32 o_6 10 0)) (C := R_Reader) (T := T_Reader) (N := 12) hx hb hts in_Reader hown hK (hP 0 _ rfl) 0 rfl rfl 10 (by decide) (hts _ fl_Reader_49) (fun _ h9 => h9) rfl d_Reader_closeGroups_60 ?_
          refine va_iald (f := g32 o_6 8) hx hb hK (hP 0 _ rfl) 5 0 rfl rfl (inb_in hi8) d_Reader_closeGroups_63 ?_
          exact k_Reader_closeGroups_64 C0 ih (g32 o_6 8 (Int32.toNatClampNeg (g32 o_6 10 0))) (s32 o_6 6 0 ((g32 o_6 6 0) - (1 : Int32))) o_7 _ _ _ hP hS (lv_sub hl [0] rfl) h
        · have h := ite_t c9 h
          refine lv_aload_n hx hb d_Reader_closeGroups_43 rfl (lv_at hl 0 rfl) ?_
          refine va_get (D := (dC, dI)) (ci := 3) (v := .ref (a0 6)) (C := R_Reader) (T := T_Reader) (N := 12) hx hb hts in_Reader hown hK (hP 0 _ rfl) 0 rfl rfl 9 (by decide) (hts _ fl_Reader_46) (fun _ h9 => h9) rfl d_Reader_closeGroups_44 ?_
          refine lv_aload_n hx hb d_Reader_closeGroups_47 rfl (lv_at hl 0 rfl) ?_
          refine va_get (D := (dC, dI)) (ci := 3) (v := .int (g32 o_6 10 0)) (C := R_Reader) (T := T_Reader) (N := 12) hx hb hts in_Reader hown hK (hP 0 _ rfl) 0 rfl rfl 10 (by decide) (hts _ fl_Reader_49) (fun _ h9 => h9) rfl d_Reader_closeGroups_48 ?_
          refine va_iald (f := g32 o_6 9) hx hb hK (hP 0 _ rfl) 6 0 rfl rfl (inb_in hi8) d_Reader_closeGroups_51 ?_
          refine lv_goto (tgt := 64) hx hb d_Reader_closeGroups_52 (by decide) ?_
          exact k_Reader_closeGroups_64 C0 ih (g32 o_6 9 (Int32.toNatClampNeg (g32 o_6 10 0))) (s32 o_6 6 0 ((g32 o_6 6 0) - (1 : Int32))) o_7 _ _ _ hP hS (lv_sub hl [0] rfl) h
set_option maxHeartbeats 4000000 in
set_option maxRecDepth 100000 in
theorem c_Reader_closeGroups (l : Launch) (ct dC : Nat → ClassId) (dI : Nat → Nat → Nat) (a0 a1 a2 : Nat → Nat)  (sz : Nat)  (o0 o1 o2 : Ob) (n0 n2 : Ob) (hF : F_Reader_closeGroups o0 o1 o2 = some (n0, n2)) : Met l y_Reader_closeGroups ws_Reader_closeGroups rm_Reader_closeGroups (bw_Pc [.ref (a0 0)] (dC, dI) vwCl (tyA ct) [wReader ct a0 (a1 0) o0, wText ct a1 (a2 0) o1, wSteps ct a2 o2] sz nx) (bw_Q (dC, dI) vwCl none [wReader ct a0 (a1 0) n0, wText ct a1 (a2 0) o1, wSteps ct a2 n2] (bw_A [adReader a0, adText a1, adSteps a2] sz)) 0 0 (bw_A [adReader a0, adText a1, adSteps a2] sz) := by
  refine Met.ofW (cc := b_Reader_closeGroups) (maxL := 5) (ret := (none : Option Jvm.ClassFile.FieldType)) (by decide) rfl ?_
  intro p e s m args below meth c s₁ B hml hv
  obtain ⟨rfl, hsz, hP, hK, hN0, hnx⟩ := hv
  have hx := B.exec
  have hb := B.bytes
  have hr := B.returns
  have hts : ∀ w ∈ wsAll, w.before [.ref (a0 0)].toArray s = true := fun w h9 => atoms_spec (ws := ws_Reader_closeGroups) B.pre w (List.mem_cons_of_mem _ h9)
  have hown : s.vm.findClass R_Reader = some m.cls := findClass_of_methodNamed B.named
  have hlocks := B.notSynchronized
  subst hsz
  have hN : bw_N (bw_A [adReader a0, adText a1, adSteps a2] s.heap.size) [adReader a0, adText a1, adSteps a2] := hN0.self s.heap.size
  generalize hAe : bw_A [adReader a0, adText a1, adSteps a2] s.heap.size = A at hN ⊢
  have hA : ∀ q : Nat, s.heap.size ≤ q → A q := fun q h => by rw [← hAe]; exact Or.inr h
  have hS : va_S A s.heap s.heap [] := va_S.rf
  have hl := lv_entry ([.ref (a0 0)]) (n := 5) (Nat.le_of_ble_eq_true rfl)
  rw [lg_entry_eq]
  generalize (lg_sl ([.ref (a0 0)]) ++ List.replicate (5 - (lg_sl ([.ref (a0 0)])).length) Slot.unset).toArray = ls at hl ⊢
  have hl : lv_has ls 5 [(0, .ref (a0 0))] := hl
  have C0 : cx wsAll vwCl nx p s m [.ref (a0 0)].toArray meth c (dC, dI) (tyA ct) b_Reader_closeGroups 5 (none : Option Jvm.ClassFile.FieldType) R_Reader A [adReader a0, adText a1, adSteps a2] := ⟨hx, hb, hr, hml, hown, hlocks, hts, hK, hN, hA, hnx⟩
  have h := hF
  rw [F_Reader_closeGroups] at h
  exact k_Reader_closeGroups_0 C0 fuel o0 o2 _ _ _ hP hS (lv_sub hl [0] rfl) h
def F_Reader_operatorOf (x0 : Int32)  : Option (Int32) :=
  if x0 = (43 : Int32) then (some (5 : Int32)) else (if x0 = (45 : Int32) then (some (6 : Int32)) else (if x0 = (42 : Int32) then (some (7 : Int32)) else (if x0 = (47 : Int32) then (some (8 : Int32)) else (some (0 : Int32)))))
abbrev ws_Reader_operatorOf : List Cond := Cond.code y_Reader_operatorOf b_Reader_operatorOf 1 (some .int) :: wsAll
abbrev rm_Reader_operatorOf : Room := { frames := 0, cells := 0, slots := 0, locals := 0 }
set_option maxHeartbeats 4000000 in
set_option maxRecDepth 100000 in
theorem c_Reader_operatorOf (l : Launch) (ct dC : Nat → ClassId) (dI : Nat → Nat → Nat)   (sz : Nat) (x0 : Int32)  (r : Int32) (hF : F_Reader_operatorOf x0 = some r) : Met l y_Reader_operatorOf ws_Reader_operatorOf rm_Reader_operatorOf (bw_Pc [.int x0] (dC, dI) vwCl (tyA ct) [] sz nx) (bw_QR (some (.int r))) 0 0 (fun _ => False) := by
  refine Met.ofW (cc := b_Reader_operatorOf) (maxL := 1) (ret := (some .int)) (by decide) rfl ?_
  intro p e s m args below meth c s₁ B hml hv
  obtain ⟨rfl, hsz, hP, hK, hN0, hnx⟩ := hv
  have hx := B.exec
  have hb := B.bytes
  have hr := B.returns
  have hts : ∀ w ∈ wsAll, w.before [.int x0].toArray s = true := fun w h9 => atoms_spec (ws := ws_Reader_operatorOf) B.pre w (List.mem_cons_of_mem _ h9)
  have hown : s.vm.findClass R_Reader = some m.cls := findClass_of_methodNamed B.named
  have hlocks := B.notSynchronized
  subst hsz
  have hN : bw_N (fun _ => True) [] := hN0
  generalize hAe : (fun _ : Nat => True) = A at hN
  have hA : ∀ q : Nat, s.heap.size ≤ q → A q := fun q _ => by rw [← hAe]; trivial
  have hS : s.heap = s.heap ∧ ([] : List Loc) = [] := ⟨rfl, rfl⟩
  have hl := lv_entry ([.int x0]) (n := 1) (Nat.le_of_ble_eq_true rfl)
  rw [lg_entry_eq]
  generalize (lg_sl ([.int x0]) ++ List.replicate (1 - (lg_sl ([.int x0])).length) Slot.unset).toArray = ls at hl ⊢
  have hl : lv_has ls 1 [(0, .int x0)] := hl
  have C0 : cx wsAll vwCl nx p s m [.int x0].toArray meth c (dC, dI) (tyA ct) b_Reader_operatorOf 1 (some .int) R_Reader A [] := ⟨hx, hb, hr, hml, hown, hlocks, hts, hK, hN, hA, hnx⟩
  have h := hF
  rw [F_Reader_operatorOf] at h
  refine lv_iload_n hx hb d_Reader_operatorOf_0 rfl (lv_at hl 0 rfl) ?_
  refine lv_bipush (v := 43) hx hb d_Reader_operatorOf_1 (by decide) ?_
  refine lv_icmp_ne (tgt := 8) hx hb d_Reader_operatorOf_3 (by decide) (fun c1 => ?_) (fun c1 => ?_)
  · have h := ite_f c1 h
    refine lv_iload_n hx hb d_Reader_operatorOf_8 rfl (lv_at hl 0 rfl) ?_
    refine lv_bipush (v := 45) hx hb d_Reader_operatorOf_9 (by decide) ?_
    refine lv_icmp_ne (tgt := 17) hx hb d_Reader_operatorOf_11 (by decide) (fun c2 => ?_) (fun c2 => ?_)
    · have h := ite_f c2 h
      refine lv_iload_n hx hb d_Reader_operatorOf_17 rfl (lv_at hl 0 rfl) ?_
      refine lv_bipush (v := 42) hx hb d_Reader_operatorOf_18 (by decide) ?_
      refine lv_icmp_ne (tgt := 26) hx hb d_Reader_operatorOf_20 (by decide) (fun c3 => ?_) (fun c3 => ?_)
      · have h := ite_f c3 h
        refine lv_iload_n hx hb d_Reader_operatorOf_26 rfl (lv_at hl 0 rfl) ?_
        refine lv_bipush (v := 47) hx hb d_Reader_operatorOf_27 (by decide) ?_
        refine lv_icmp_ne (tgt := 37) hx hb d_Reader_operatorOf_29 (by decide) (fun c4 => ?_) (fun c4 => ?_)
        · have h := ite_f c4 h
          refine lv_iconst (v := 0) hx hb d_Reader_operatorOf_37 (by decide) ?_
          obtain rfl := res1 h
          exact W.iret hx hb hr (fun t ht hW => ⟨rfl, ht.trans hS.1⟩) (bw_nil hS.2) d_Reader_operatorOf_38
        · have h := ite_t c4 h
          refine lv_bipush (v := 8) hx hb d_Reader_operatorOf_32 (by decide) ?_
          refine lv_goto (tgt := 38) hx hb d_Reader_operatorOf_34 (by decide) ?_
          obtain rfl := res1 h
          exact W.iret hx hb hr (fun t ht hW => ⟨rfl, ht.trans hS.1⟩) (bw_nil hS.2) d_Reader_operatorOf_38
      · have h := ite_t c3 h
        refine lv_bipush (v := 7) hx hb d_Reader_operatorOf_23 (by decide) ?_
        obtain rfl := res1 h
        exact W.iret hx hb hr (fun t ht hW => ⟨rfl, ht.trans hS.1⟩) (bw_nil hS.2) d_Reader_operatorOf_25
    · have h := ite_t c2 h
      refine lv_bipush (v := 6) hx hb d_Reader_operatorOf_14 (by decide) ?_
      obtain rfl := res1 h
      exact W.iret hx hb hr (fun t ht hW => ⟨rfl, ht.trans hS.1⟩) (bw_nil hS.2) d_Reader_operatorOf_16
  · have h := ite_t c1 h
    refine lv_iconst (v := 5) hx hb d_Reader_operatorOf_6 (by decide) ?_
    obtain rfl := res1 h
    exact W.iret hx hb hr (fun t ht hW => ⟨rfl, ht.trans hS.1⟩) (bw_nil hS.2) d_Reader_operatorOf_7
theorem g_Reader_174 : GoodIn wsAll (wsS R_Reader 174 y_Reader_operatorOf ws_Reader_operatorOf) := gd_S ml_Reader_174 st_Reader_operatorOf ini_Reader cd_Reader_operatorOf
def F_Reader_readOperator  (o0 o1 o2 : Ob) : Option (Bool × Ob × Ob) :=
  bind1 (F_Reader_next o0) (fun v2 => bind1 (F_Reader_operatorOf v2) (fun v4 => if v4 = 0 then (some (false, o0, o2)) else (bind1 (F_Reader_shapeBy v4) (fun v7 => bind2 (F_Reader_releaseWaiting v7 o0 o1 o2) (fun o_9 o_10 => bind1 (F_Reader_hold v4 o_9) (fun o_12 => chk (inb (g32 o_12 10 0) 9) (some (true, (s32 (s32 o_12 8 (Int32.toNatClampNeg (g32 o_12 10 0)) (if (g32 o_12 8 (Int32.toNatClampNeg (g32 o_12 10 0))) < v7 then v7 else (g32 o_12 8 (Int32.toNatClampNeg (g32 o_12 10 0))))) 3 0 ((g32 o_12 3 0) + (1 : Int32))), o_10))))))))
abbrev ws_Reader_readOperator : List Cond := Cond.code y_Reader_readOperator b_Reader_readOperator 3 (some .boolean) :: wsAll
abbrev rm_Reader_readOperator : Room := { frames := 2, cells := 0, slots := 0, locals := 60 }
set_option maxHeartbeats 4000000 in
set_option maxRecDepth 100000 in
theorem c_Reader_readOperator (l : Launch) (ct dC : Nat → ClassId) (dI : Nat → Nat → Nat) (a0 a1 a2 : Nat → Nat)  (sz : Nat)  (o0 o1 o2 : Ob) (r : Bool) (n0 n2 : Ob) (hF : F_Reader_readOperator o0 o1 o2 = some (r, n0, n2)) : Met l y_Reader_readOperator ws_Reader_readOperator rm_Reader_readOperator (bw_Pc [.ref (a0 0)] (dC, dI) vwCl (tyA ct) [wReader ct a0 (a1 0) o0, wText ct a1 (a2 0) o1, wSteps ct a2 o2] sz nx) (bw_Q (dC, dI) vwCl (some (.int (b2i r))) [wReader ct a0 (a1 0) n0, wText ct a1 (a2 0) o1, wSteps ct a2 n2] (bw_A [adReader a0, adText a1, adSteps a2] sz)) 0 0 (bw_A [adReader a0, adText a1, adSteps a2] sz) := by
  refine Met.ofW (cc := b_Reader_readOperator) (maxL := 3) (ret := (some .boolean)) (by decide) rfl ?_
  intro p e s m args below meth c s₁ B hml hv
  obtain ⟨rfl, hsz, hP, hK, hN0, hnx⟩ := hv
  have hx := B.exec
  have hb := B.bytes
  have hr := B.returns
  have hts : ∀ w ∈ wsAll, w.before [.ref (a0 0)].toArray s = true := fun w h9 => atoms_spec (ws := ws_Reader_readOperator) B.pre w (List.mem_cons_of_mem _ h9)
  have hown : s.vm.findClass R_Reader = some m.cls := findClass_of_methodNamed B.named
  have hlocks := B.notSynchronized
  subst hsz
  have hN : bw_N (bw_A [adReader a0, adText a1, adSteps a2] s.heap.size) [adReader a0, adText a1, adSteps a2] := hN0.self s.heap.size
  generalize hAe : bw_A [adReader a0, adText a1, adSteps a2] s.heap.size = A at hN ⊢
  have hA : ∀ q : Nat, s.heap.size ≤ q → A q := fun q h => by rw [← hAe]; exact Or.inr h
  have hS : va_S A s.heap s.heap [] := va_S.rf
  have hl := lv_entry ([.ref (a0 0)]) (n := 3) (Nat.le_of_ble_eq_true rfl)
  rw [lg_entry_eq]
  generalize (lg_sl ([.ref (a0 0)]) ++ List.replicate (3 - (lg_sl ([.ref (a0 0)])).length) Slot.unset).toArray = ls at hl ⊢
  have hl : lv_has ls 3 [(0, .ref (a0 0))] := hl
  have C0 : cx wsAll vwCl nx p s m [.ref (a0 0)].toArray meth c (dC, dI) (tyA ct) b_Reader_readOperator 3 (some .boolean) R_Reader A [adReader a0, adText a1, adSteps a2] := ⟨hx, hb, hr, hml, hown, hlocks, hts, hK, hN, hA, hnx⟩
  have h := hF
  rw [F_Reader_readOperator] at h
  refine lv_aload_n hx hb d_Reader_readOperator_0 rfl (lv_at hl 0 rfl) ?_
  obtain ⟨v2, hG1, h⟩ := bind1_some h
  refine bw_callR (va_runV (As := []) (rest := []) ⟨hx, hb, hml, hown, hts⟩ (c_Reader_next l ct dC dI a0 (a1 0) _ o0 v2 hG1) (cwV 0 hts g_Reader_78 rfl rfl rfl (by decide +kernel) ⟨Nat.le_of_ble_eq_true rfl, Nat.le_of_ble_eq_true rfl⟩) ⟨bw_blind nx_call, va_recv hK (hP 0 _ rfl) (ci := 3) (q0 := 0) rfl rfl, fun U hU hW => ⟨rfl, by rw [hU], by rw [hU]; exact hP.sub [0] rfl, va_K.moved hW.alike hK, (hN.sub [0] (by decide) rfl).weaken (fun _ _ => trivial), nx_warm hW hnx⟩⟩ rfl rfl hl.1 rfl (Nat.le_of_ble_eq_true rfl) d_Reader_readOperator_1 ⟨Nat.le_of_ble_eq_true rfl, Nat.le_of_ble_eq_true rfl⟩) ?_
  obtain ⟨v4, hG3, h⟩ := bind1_some h
  refine bw_callR (va_runS (As := [.int v2]) (rest := []) ⟨hx, hb, hml, hown, hts⟩ (c_Reader_operatorOf l ct dC dI _ v2 v4 hG3) (cwS 1 hts g_Reader_174 rfl rfl rfl (by decide +kernel) ⟨Nat.le_of_ble_eq_true rfl, Nat.le_of_ble_eq_true rfl⟩) ⟨bw_blind nx_call, fun U hU hW => ⟨rfl, by rw [hU], by rw [hU]; exact hP.sub [] rfl, va_K.moved hW.alike hK, (hN.sub [] (by decide) rfl).weaken (fun _ _ => trivial), nx_warm hW hnx⟩⟩ rfl rfl hl.1 rfl (Nat.le_of_ble_eq_true rfl) d_Reader_readOperator_4 ⟨Nat.le_of_ble_eq_true rfl, Nat.le_of_ble_eq_true rfl⟩) ?_
  refine lv_istore_n (lv' := [(1, .int v4), (0, .ref (a0 0))]) hx hb d_Reader_readOperator_7 rfl hl (by decide) rfl (fun ls hl => ?_)
  refine lv_iload_n hx hb d_Reader_readOperator_8 rfl (lv_at hl 0 rfl) ?_
  refine lv_if_ne (tgt := 14) hx hb d_Reader_readOperator_9 (by decide) (fun c5 => ?_) (fun c5 => ?_)
  · have h := ite_f c5 h
    refine lv_iload_n hx hb d_Reader_readOperator_14 rfl (lv_at hl 0 rfl) ?_
    obtain ⟨v7, hG6, h⟩ := bind1_some h
    refine bw_callR (va_runS (As := [.int v4]) (rest := []) ⟨hx, hb, hml, hown, hts⟩ (c_Reader_shapeBy l ct dC dI _ v4 v7 hG6) (cwS 1 hts g_Reader_178 rfl rfl rfl (by decide +kernel) ⟨Nat.le_of_ble_eq_true rfl, Nat.le_of_ble_eq_true rfl⟩) ⟨bw_blind nx_call, fun U hU hW => ⟨rfl, by rw [hU], by rw [hU]; exact hP.sub [] rfl, va_K.moved hW.alike hK, (hN.sub [] (by decide) rfl).weaken (fun _ _ => trivial), nx_warm hW hnx⟩⟩ rfl rfl hl.1 rfl (Nat.le_of_ble_eq_true rfl) d_Reader_readOperator_15 ⟨Nat.le_of_ble_eq_true rfl, Nat.le_of_ble_eq_true rfl⟩) ?_
    refine lv_istore_n (lv' := [(2, .int v7), (1, .int v4), (0, .ref (a0 0))]) hx hb d_Reader_readOperator_18 rfl hl (by decide) rfl (fun ls hl => ?_)
    refine lv_aload_n hx hb d_Reader_readOperator_19 rfl (lv_at hl 2 rfl) ?_
    refine lv_iload_n hx hb d_Reader_readOperator_20 rfl (lv_at hl 0 rfl) ?_
    obtain ⟨o_9, o_10, hG8, h⟩ := bind2_some h
    refine bw_call (Lc := [wReader ct a0 (a1 0) o0, wText ct a1 (a2 0) o1, wSteps ct a2 o2]) (Lc' := [wReader ct a0 (a1 0) o_9, wText ct a1 (a2 0) o1, wSteps ct a2 o_10]) (L' := [wReader ct a0 (a1 0) o_9, wText ct a1 (a2 0) o1, wSteps ct a2 o_10]) [0, 1, 2] (va_runV (As := [.int v7]) (rest := []) ⟨hx, hb, hml, hown, hts⟩ (c_Reader_releaseWaiting l ct dC dI a0 a1 a2 _ v7 o0 o1 o2 o_9 o_10 hG8) (cwV 1 hts g_Reader_125 rfl rfl rfl (by decide +kernel) ⟨Nat.le_of_ble_eq_true rfl, Nat.le_of_ble_eq_true rfl⟩) ⟨bw_blind nx_call, va_recv hK (hP 0 _ rfl) (ci := 3) (q0 := 0) rfl rfl, fun U hU hW => ⟨rfl, by rw [hU], by rw [hU]; exact hP.sub [0, 1, 2] rfl, va_K.moved hW.alike hK, (hN.sub [0, 1, 2] (by decide) rfl).weaken (fun _ _ => trivial), nx_warm hW hnx⟩⟩ rfl rfl hl.1 rfl (Nat.le_of_ble_eq_true rfl) d_Reader_readOperator_21 ⟨Nat.le_of_ble_eq_true rfl, Nat.le_of_ble_eq_true rfl⟩) hP hN hS hA rfl rfl rfl (fun H locs hP hS => ?_)
    refine lv_aload_n hx hb d_Reader_readOperator_24 rfl (lv_at hl 2 rfl) ?_
    refine lv_iload_n hx hb d_Reader_readOperator_25 rfl (lv_at hl 1 rfl) ?_
    obtain ⟨o_12, hG11, h⟩ := bind1_some h
    refine bw_call (Lc := [wReader ct a0 (a1 0) o_9]) (Lc' := [wReader ct a0 (a1 0) o_12]) (L' := [wReader ct a0 (a1 0) o_12, wText ct a1 (a2 0) o1, wSteps ct a2 o_10]) [0] (va_runV (As := [.int v4]) (rest := []) ⟨hx, hb, hml, hown, hts⟩ (c_Reader_hold l ct dC dI a0 (a1 0) _ v4 o_9 o_12 hG11) (cwV 1 hts g_Reader_138 rfl rfl rfl (by decide +kernel) ⟨Nat.le_of_ble_eq_true rfl, Nat.le_of_ble_eq_true rfl⟩) ⟨bw_blind nx_call, va_recv hK (hP 0 _ rfl) (ci := 3) (q0 := 0) rfl rfl, fun U hU hW => ⟨rfl, by rw [hU], by rw [hU]; exact hP.sub [0] rfl, va_K.moved hW.alike hK, (hN.sub [0] (by decide) rfl).weaken (fun _ _ => trivial), nx_warm hW hnx⟩⟩ rfl rfl hl.1 rfl (Nat.le_of_ble_eq_true rfl) d_Reader_readOperator_26 ⟨Nat.le_of_ble_eq_true rfl, Nat.le_of_ble_eq_true rfl⟩) hP hN hS hA rfl rfl rfl (fun H locs hP hS => ?_)
    refine lv_aload_n hx hb d_Reader_readOperator_29 rfl (lv_at hl 2 rfl) ?_
    refine va_get (D := (dC, dI)) (ci := 3) (v := .ref (a0 5)) (C := R_Reader) (T := T_Reader) (N := 12) hx hb hts in_Reader hown hK (hP 0 _ rfl) 0 rfl rfl 8 (by decide) (hts _ fl_Reader_43) (fun _ h9 => h9) rfl d_Reader_readOperator_30 ?_
    refine lv_aload_n hx hb d_Reader_readOperator_33 rfl (lv_at hl 2 rfl) ?_
    refine va_get (D := (dC, dI)) (ci := 3) (v := .int (g32 o_12 10 0)) (C := R_Reader) (T := T_Reader) (N := 12) hx hb hts in_Reader hown hK (hP 0 _ rfl) 0 rfl rfl 10 (by decide) (hts _ fl_Reader_49) (fun _ h9 => h9) rfl d_Reader_readOperator_34 ?_
    refine lv_aload_n hx hb d_Reader_readOperator_37 rfl (lv_at hl 2 rfl) ?_
    refine va_get (D := (dC, dI)) (ci := 3) (v := .ref (a0 5)) (C := R_Reader) (T := T_Reader) (N := 12) hx hb hts in_Reader hown hK (hP 0 _ rfl) 0 rfl rfl 8 (by decide) (hts _ fl_Reader_43) (fun _ h9 => h9) rfl d_Reader_readOperator_38 ?_
    refine lv_aload_n hx hb d_Reader_readOperator_41 rfl (lv_at hl 2 rfl) ?_
    refine va_get (D := (dC, dI)) (ci := 3) (v := .int (g32 o_12 10 0)) (C := R_Reader) (T := T_Reader) (N := 12) hx hb hts in_Reader hown hK (hP 0 _ rfl) 0 rfl rfl 10 (by decide) (hts _ fl_Reader_49) (fun _ h9 => h9) rfl d_Reader_readOperator_42 ?_
    obtain ⟨hi13, h⟩ := chk_some h
    refine va_iald (f := g32 o_12 8) hx hb hK (hP 0 _ rfl) 5 0 rfl rfl (inb_in hi13) d_Reader_readOperator_45 ?_
    refine lv_iload_n hx hb d_Reader_readOperator_46 rfl (lv_at hl 0 rfl) ?_
    refine va_mmax hx hb (hml.trans hl.1.symm) hown (hts _ ml_Reader_181) (hts _ st_JMath_max) (hts _ ini_JMath) (hts _ cd_JMath_max) (Nat.le_of_ble_eq_true rfl) (Nat.le_of_ble_eq_true rfl) (Nat.zero_le _) (Nat.zero_le _) d_Reader_readOperator_47 ?_
    refine st_Reader_8 hx hb hK hP hN hS 0 rfl (inb_in hi13) d_Reader_readOperator_50 (fun H locs hP hS => ?_)
    have hP : bw_P (dC, dI) vwCl [wReader ct a0 (a1 0) (s32 o_12 8 (Int32.toNatClampNeg (g32 o_12 10 0)) (if (g32 o_12 8 (Int32.toNatClampNeg (g32 o_12 10 0))) < v7 then v7 else (g32 o_12 8 (Int32.toNatClampNeg (g32 o_12 10 0))))), wText ct a1 (a2 0) o1, wSteps ct a2 o_10] H := hP
    refine lv_aload_n hx hb d_Reader_readOperator_51 rfl (lv_at hl 2 rfl) ?_
    refine lv_dup hx hb d_Reader_readOperator_52 rfl ?_
    refine va_get (D := (dC, dI)) (ci := 3) (v := .int (g32 o_12 3 0)) (C := R_Reader) (T := T_Reader) (N := 12) hx hb hts in_Reader hown hK (hP 0 _ rfl) 0 rfl rfl 3 (by decide) (hts _ fl_Reader_23) (fun _ h9 => h9) rfl d_Reader_readOperator_53 ?_
    refine lv_iconst (v := 1) hx hb d_Reader_readOperator_56 (by decide) ?_
    refine lv_iadd hx hb d_Reader_readOperator_57 ?_
    refine pt_Reader_3 hx hb hts hown hK hP hN hS 0 rfl (hts _ fl_Reader_23) d_Reader_readOperator_58 (fun H locs hP hS => ?_)
    have hP : bw_P (dC, dI) vwCl [wReader ct a0 (a1 0) (s32 (s32 o_12 8 (Int32.toNatClampNeg (g32 o_12 10 0)) (if (g32 o_12 8 (Int32.toNatClampNeg (g32 o_12 10 0))) < v7 then v7 else (g32 o_12 8 (Int32.toNatClampNeg (g32 o_12 10 0))))) 3 0 ((g32 o_12 3 0) + (1 : Int32))), wText ct a1 (a2 0) o1, wSteps ct a2 o_10] H := hP
    refine lv_iconst (v := 1) hx hb d_Reader_readOperator_61 (by decide) ?_
    obtain ⟨rfl, rfl, rfl⟩ := res3 h
    exact W.zret hx hb hr rfl (fun t ht hW => ⟨rfl, by rw [ht]; exact hP, hS.F ht⟩) hS.2.2 d_Reader_readOperator_62
  · have h := ite_t c5 h
    refine lv_iconst (v := 0) hx hb d_Reader_readOperator_12 (by decide) ?_
    obtain ⟨rfl, rfl, rfl⟩ := res3 h
    exact W.zret hx hb hr rfl (fun t ht hW => ⟨rfl, by rw [ht]; exact hP, hS.F ht⟩) hS.2.2 d_Reader_readOperator_13
theorem g_Reader_62 : GoodIn wsAll (wsV R_Reader 62 R_Reader y_Reader_pass ws_Reader_pass) := gd_V ml_Reader_62 im_Reader_pass se_Reader_pass ini_Reader cd_Reader_pass
theorem g_Reader_113 : GoodIn wsAll (wsV R_Reader 113 R_Text y_Text_countCondition ws_Text_countCondition) := gd_V ml_Reader_113 im_Text_countCondition se_Text_countCondition ini_Text cd_Text_countCondition
def F_Reader_passSign  (o0 o1 : Ob) : Option (Bool × Ob × Ob) :=
  bind2 (F_Reader_pass (60 : Int32) o0) (fun v2 o_3 => if (b2i v2) = 0 then (bind2 (F_Reader_pass (62 : Int32) o_3) (fun v8 o_9 => if (b2i v8) = 0 then (bind2 (F_Reader_pass (61 : Int32) o_9) (fun v14 o_15 => if (b2i v14) = 0 then (some (false, o_15, o1)) else (bind1 (F_Text_countCondition o1) (fun o_18 => some (true, o_15, o_18))))) else (bind1 (F_Text_countCondition o1) (fun o_12 => some (true, o_9, o_12))))) else (bind1 (F_Text_countCondition o1) (fun o_6 => some (true, o_3, o_6))))
abbrev ws_Reader_passSign : List Cond := Cond.code y_Reader_passSign b_Reader_passSign 1 (some .boolean) :: wsAll
abbrev rm_Reader_passSign : Room := { frames := 2, cells := 0, slots := 0, locals := 41 }
set_option maxHeartbeats 4000000 in
set_option maxRecDepth 100000 in
theorem c_Reader_passSign (l : Launch) (ct dC : Nat → ClassId) (dI : Nat → Nat → Nat) (a0 a1 : Nat → Nat) (r1_2 : Nat) (sz : Nat)  (o0 o1 : Ob) (r : Bool) (n0 n1 : Ob) (hF : F_Reader_passSign o0 o1 = some (r, n0, n1)) : Met l y_Reader_passSign ws_Reader_passSign rm_Reader_passSign (bw_Pc [.ref (a0 0)] (dC, dI) vwCl (tyA ct) [wReader ct a0 (a1 0) o0, wText ct a1 r1_2 o1] sz nx) (bw_Q (dC, dI) vwCl (some (.int (b2i r))) [wReader ct a0 (a1 0) n0, wText ct a1 r1_2 n1] (bw_A [adReader a0, adText a1] sz)) 0 0 (bw_A [adReader a0, adText a1] sz) := by
  refine Met.ofW (cc := b_Reader_passSign) (maxL := 1) (ret := (some .boolean)) (by decide) rfl ?_
  intro p e s m args below meth c s₁ B hml hv
  obtain ⟨rfl, hsz, hP, hK, hN0, hnx⟩ := hv
  have hx := B.exec
  have hb := B.bytes
  have hr := B.returns
  have hts : ∀ w ∈ wsAll, w.before [.ref (a0 0)].toArray s = true := fun w h9 => atoms_spec (ws := ws_Reader_passSign) B.pre w (List.mem_cons_of_mem _ h9)
  have hown : s.vm.findClass R_Reader = some m.cls := findClass_of_methodNamed B.named
  have hlocks := B.notSynchronized
  subst hsz
  have hN : bw_N (bw_A [adReader a0, adText a1] s.heap.size) [adReader a0, adText a1] := hN0.self s.heap.size
  generalize hAe : bw_A [adReader a0, adText a1] s.heap.size = A at hN ⊢
  have hA : ∀ q : Nat, s.heap.size ≤ q → A q := fun q h => by rw [← hAe]; exact Or.inr h
  have hS : va_S A s.heap s.heap [] := va_S.rf
  have hl := lv_entry ([.ref (a0 0)]) (n := 1) (Nat.le_of_ble_eq_true rfl)
  rw [lg_entry_eq]
  generalize (lg_sl ([.ref (a0 0)]) ++ List.replicate (1 - (lg_sl ([.ref (a0 0)])).length) Slot.unset).toArray = ls at hl ⊢
  have hl : lv_has ls 1 [(0, .ref (a0 0))] := hl
  have C0 : cx wsAll vwCl nx p s m [.ref (a0 0)].toArray meth c (dC, dI) (tyA ct) b_Reader_passSign 1 (some .boolean) R_Reader A [adReader a0, adText a1] := ⟨hx, hb, hr, hml, hown, hlocks, hts, hK, hN, hA, hnx⟩
  have h := hF
  rw [F_Reader_passSign] at h
  refine lv_aload_n hx hb d_Reader_passSign_0 rfl (lv_at hl 0 rfl) ?_
  refine lv_bipush (v := 60) hx hb d_Reader_passSign_1 (by decide) ?_
  obtain ⟨v2, o_3, hG1, h⟩ := bind2_some h
  refine bw_call (Lc := [wReader ct a0 (a1 0) o0]) (Lc' := [wReader ct a0 (a1 0) o_3]) (L' := [wReader ct a0 (a1 0) o_3, wText ct a1 r1_2 o1]) [0] (va_runV (As := [.int (60 : Int32)]) (rest := []) ⟨hx, hb, hml, hown, hts⟩ (c_Reader_pass l ct dC dI a0 (a1 0) _ (60 : Int32) o0 v2 o_3 hG1) (cwV 1 hts g_Reader_62 rfl rfl rfl (by decide +kernel) ⟨Nat.le_of_ble_eq_true rfl, Nat.le_of_ble_eq_true rfl⟩) ⟨bw_blind nx_call, va_recv hK (hP 0 _ rfl) (ci := 3) (q0 := 0) rfl rfl, fun U hU hW => ⟨rfl, by rw [hU], by rw [hU]; exact hP.sub [0] rfl, va_K.moved hW.alike hK, (hN.sub [0] (by decide) rfl).weaken (fun _ _ => trivial), nx_warm hW hnx⟩⟩ rfl rfl hl.1 rfl (Nat.le_of_ble_eq_true rfl) d_Reader_passSign_3 ⟨Nat.le_of_ble_eq_true rfl, Nat.le_of_ble_eq_true rfl⟩) hP hN hS hA rfl rfl rfl (fun H locs hP hS => ?_)
  refine lv_if_ne (tgt := 29) hx hb d_Reader_passSign_6 (by decide) (fun c4 => ?_) (fun c4 => ?_)
  · have h := ite_f c4 h
    refine lv_aload_n hx hb d_Reader_passSign_29 rfl (lv_at hl 0 rfl) ?_
    refine va_get (D := (dC, dI)) (ci := 3) (v := .ref (a1 0)) (C := R_Reader) (T := T_Reader) (N := 12) hx hb hts in_Reader hown hK (hP 0 _ rfl) 0 rfl rfl 4 (by decide) (hts _ fl_Reader_29) (fun _ h9 => h9) rfl d_Reader_passSign_30 ?_
    obtain ⟨o_6, hG5, h⟩ := bind1_some h
    refine bw_call (Lc := [wText ct a1 r1_2 o1]) (Lc' := [wText ct a1 r1_2 o_6]) (L' := [wReader ct a0 (a1 0) o_3, wText ct a1 r1_2 o_6]) [1] (va_runV (As := []) (rest := []) ⟨hx, hb, hml, hown, hts⟩ (c_Text_countCondition l ct dC dI a1 r1_2 _ o1 o_6 hG5) (cwV 0 hts g_Reader_113 rfl rfl rfl (by decide +kernel) ⟨Nat.le_of_ble_eq_true rfl, Nat.le_of_ble_eq_true rfl⟩) ⟨bw_blind nx_call, va_recv hK (hP 1 _ rfl) (ci := 2) (q0 := 0) rfl rfl, fun U hU hW => ⟨rfl, by rw [hU], by rw [hU]; exact hP.sub [1] rfl, va_K.moved hW.alike hK, (hN.sub [1] (by decide) rfl).weaken (fun _ _ => trivial), nx_warm hW hnx⟩⟩ rfl rfl hl.1 rfl (Nat.le_of_ble_eq_true rfl) d_Reader_passSign_33 ⟨Nat.le_of_ble_eq_true rfl, Nat.le_of_ble_eq_true rfl⟩) hP hN hS hA rfl rfl rfl (fun H locs hP hS => ?_)
    refine lv_iconst (v := 1) hx hb d_Reader_passSign_36 (by decide) ?_
    obtain ⟨rfl, rfl, rfl⟩ := res3 h
    exact W.zret hx hb hr rfl (fun t ht hW => ⟨rfl, by rw [ht]; exact hP, hS.F ht⟩) hS.2.2 d_Reader_passSign_37
  · have h := ite_t c4 h
    refine lv_aload_n hx hb d_Reader_passSign_9 rfl (lv_at hl 0 rfl) ?_
    refine lv_bipush (v := 62) hx hb d_Reader_passSign_10 (by decide) ?_
    obtain ⟨v8, o_9, hG7, h⟩ := bind2_some h
    refine bw_call (Lc := [wReader ct a0 (a1 0) o_3]) (Lc' := [wReader ct a0 (a1 0) o_9]) (L' := [wReader ct a0 (a1 0) o_9, wText ct a1 r1_2 o1]) [0] (va_runV (As := [.int (62 : Int32)]) (rest := []) ⟨hx, hb, hml, hown, hts⟩ (c_Reader_pass l ct dC dI a0 (a1 0) _ (62 : Int32) o_3 v8 o_9 hG7) (cwV 1 hts g_Reader_62 rfl rfl rfl (by decide +kernel) ⟨Nat.le_of_ble_eq_true rfl, Nat.le_of_ble_eq_true rfl⟩) ⟨bw_blind nx_call, va_recv hK (hP 0 _ rfl) (ci := 3) (q0 := 0) rfl rfl, fun U hU hW => ⟨rfl, by rw [hU], by rw [hU]; exact hP.sub [0] rfl, va_K.moved hW.alike hK, (hN.sub [0] (by decide) rfl).weaken (fun _ _ => trivial), nx_warm hW hnx⟩⟩ rfl rfl hl.1 rfl (Nat.le_of_ble_eq_true rfl) d_Reader_passSign_12 ⟨Nat.le_of_ble_eq_true rfl, Nat.le_of_ble_eq_true rfl⟩) hP hN hS hA rfl rfl rfl (fun H locs hP hS => ?_)
    refine lv_if_ne (tgt := 29) hx hb d_Reader_passSign_15 (by decide) (fun c10 => ?_) (fun c10 => ?_)
    · have h := ite_f c10 h
      refine lv_aload_n hx hb d_Reader_passSign_29 rfl (lv_at hl 0 rfl) ?_
      refine va_get (D := (dC, dI)) (ci := 3) (v := .ref (a1 0)) (C := R_Reader) (T := T_Reader) (N := 12) hx hb hts in_Reader hown hK (hP 0 _ rfl) 0 rfl rfl 4 (by decide) (hts _ fl_Reader_29) (fun _ h9 => h9) rfl d_Reader_passSign_30 ?_
      obtain ⟨o_12, hG11, h⟩ := bind1_some h
      refine bw_call (Lc := [wText ct a1 r1_2 o1]) (Lc' := [wText ct a1 r1_2 o_12]) (L' := [wReader ct a0 (a1 0) o_9, wText ct a1 r1_2 o_12]) [1] (va_runV (As := []) (rest := []) ⟨hx, hb, hml, hown, hts⟩ (c_Text_countCondition l ct dC dI a1 r1_2 _ o1 o_12 hG11) (cwV 0 hts g_Reader_113 rfl rfl rfl (by decide +kernel) ⟨Nat.le_of_ble_eq_true rfl, Nat.le_of_ble_eq_true rfl⟩) ⟨bw_blind nx_call, va_recv hK (hP 1 _ rfl) (ci := 2) (q0 := 0) rfl rfl, fun U hU hW => ⟨rfl, by rw [hU], by rw [hU]; exact hP.sub [1] rfl, va_K.moved hW.alike hK, (hN.sub [1] (by decide) rfl).weaken (fun _ _ => trivial), nx_warm hW hnx⟩⟩ rfl rfl hl.1 rfl (Nat.le_of_ble_eq_true rfl) d_Reader_passSign_33 ⟨Nat.le_of_ble_eq_true rfl, Nat.le_of_ble_eq_true rfl⟩) hP hN hS hA rfl rfl rfl (fun H locs hP hS => ?_)
      refine lv_iconst (v := 1) hx hb d_Reader_passSign_36 (by decide) ?_
      obtain ⟨rfl, rfl, rfl⟩ := res3 h
      exact W.zret hx hb hr rfl (fun t ht hW => ⟨rfl, by rw [ht]; exact hP, hS.F ht⟩) hS.2.2 d_Reader_passSign_37
    · have h := ite_t c10 h
      refine lv_aload_n hx hb d_Reader_passSign_18 rfl (lv_at hl 0 rfl) ?_
      refine lv_bipush (v := 61) hx hb d_Reader_passSign_19 (by decide) ?_
      obtain ⟨v14, o_15, hG13, h⟩ := bind2_some h
      refine bw_call (Lc := [wReader ct a0 (a1 0) o_9]) (Lc' := [wReader ct a0 (a1 0) o_15]) (L' := [wReader ct a0 (a1 0) o_15, wText ct a1 r1_2 o1]) [0] (va_runV (As := [.int (61 : Int32)]) (rest := []) ⟨hx, hb, hml, hown, hts⟩ (c_Reader_pass l ct dC dI a0 (a1 0) _ (61 : Int32) o_9 v14 o_15 hG13) (cwV 1 hts g_Reader_62 rfl rfl rfl (by decide +kernel) ⟨Nat.le_of_ble_eq_true rfl, Nat.le_of_ble_eq_true rfl⟩) ⟨bw_blind nx_call, va_recv hK (hP 0 _ rfl) (ci := 3) (q0 := 0) rfl rfl, fun U hU hW => ⟨rfl, by rw [hU], by rw [hU]; exact hP.sub [0] rfl, va_K.moved hW.alike hK, (hN.sub [0] (by decide) rfl).weaken (fun _ _ => trivial), nx_warm hW hnx⟩⟩ rfl rfl hl.1 rfl (Nat.le_of_ble_eq_true rfl) d_Reader_passSign_21 ⟨Nat.le_of_ble_eq_true rfl, Nat.le_of_ble_eq_true rfl⟩) hP hN hS hA rfl rfl rfl (fun H locs hP hS => ?_)
      refine lv_if_ne (tgt := 29) hx hb d_Reader_passSign_24 (by decide) (fun c16 => ?_) (fun c16 => ?_)
      · have h := ite_f c16 h
        refine lv_aload_n hx hb d_Reader_passSign_29 rfl (lv_at hl 0 rfl) ?_
        refine va_get (D := (dC, dI)) (ci := 3) (v := .ref (a1 0)) (C := R_Reader) (T := T_Reader) (N := 12) hx hb hts in_Reader hown hK (hP 0 _ rfl) 0 rfl rfl 4 (by decide) (hts _ fl_Reader_29) (fun _ h9 => h9) rfl d_Reader_passSign_30 ?_
        obtain ⟨o_18, hG17, h⟩ := bind1_some h
        refine bw_call (Lc := [wText ct a1 r1_2 o1]) (Lc' := [wText ct a1 r1_2 o_18]) (L' := [wReader ct a0 (a1 0) o_15, wText ct a1 r1_2 o_18]) [1] (va_runV (As := []) (rest := []) ⟨hx, hb, hml, hown, hts⟩ (c_Text_countCondition l ct dC dI a1 r1_2 _ o1 o_18 hG17) (cwV 0 hts g_Reader_113 rfl rfl rfl (by decide +kernel) ⟨Nat.le_of_ble_eq_true rfl, Nat.le_of_ble_eq_true rfl⟩) ⟨bw_blind nx_call, va_recv hK (hP 1 _ rfl) (ci := 2) (q0 := 0) rfl rfl, fun U hU hW => ⟨rfl, by rw [hU], by rw [hU]; exact hP.sub [1] rfl, va_K.moved hW.alike hK, (hN.sub [1] (by decide) rfl).weaken (fun _ _ => trivial), nx_warm hW hnx⟩⟩ rfl rfl hl.1 rfl (Nat.le_of_ble_eq_true rfl) d_Reader_passSign_33 ⟨Nat.le_of_ble_eq_true rfl, Nat.le_of_ble_eq_true rfl⟩) hP hN hS hA rfl rfl rfl (fun H locs hP hS => ?_)
        refine lv_iconst (v := 1) hx hb d_Reader_passSign_36 (by decide) ?_
        obtain ⟨rfl, rfl, rfl⟩ := res3 h
        exact W.zret hx hb hr rfl (fun t ht hW => ⟨rfl, by rw [ht]; exact hP, hS.F ht⟩) hS.2.2 d_Reader_passSign_37
      · have h := ite_t c16 h
        refine lv_iconst (v := 0) hx hb d_Reader_passSign_27 (by decide) ?_
        obtain ⟨rfl, rfl, rfl⟩ := res3 h
        exact W.zret hx hb hr rfl (fun t ht hW => ⟨rfl, by rw [ht]; exact hP, hS.F ht⟩) hS.2.2 d_Reader_passSign_28
def F_Reader_print_2 (o0 : Ob)  : Nat → Int32 → Ob → Option (Ob)
  | 0, _, _ => none
  | n + 1, x1, o1 =>
    if (g32 o0 2 0) ≤ x1 then (some o1) else (chk (inb x1 400) (if (g32 o0 1 (Int32.toNatClampNeg x1)) = 0 then (chk (inb (g32 o1 1 0) 400) (F_Reader_print_2 o0 n (x1 + (1 : Int32)) (s32 (s32 o1 0 (Int32.toNatClampNeg (g32 o1 1 0)) (vp_nar .char (g32 o0 0 (Int32.toNatClampNeg x1)))) 1 0 ((g32 o1 1 0) + (1 : Int32))))) else (F_Reader_print_2 o0 n (x1 + (1 : Int32)) o1)))
def F_Reader_print  (o0 o1 : Ob) : Option (Ob) :=
  F_Reader_print_2 o0 fuel (0 : Int32) o1
abbrev ws_Reader_print : List Cond := Cond.code y_Reader_print b_Reader_print 2 (none : Option Jvm.ClassFile.FieldType) :: wsAll
abbrev rm_Reader_print : Room := { frames := 0, cells := 0, slots := 0, locals := 0 }
set_option maxHeartbeats 4000000 in
set_option maxRecDepth 100000 in
theorem k_Reader_print_2 {p : Program} {l : Launch} {e : Env} {s : State} {m : MethodId} {args : Array Value} {below : List Frame} {meth : Method} {c : Code} {A : Nat → Prop} {ct dC : Nat → ClassId} {dI : Nat → Nat → Nat} {a0 a1 : Nat → Nat} {r1_2 : Nat} {n1 : Ob} {o0 : Ob}  (C0 : cx wsAll vwCl nx p s m args meth c (dC, dI) (tyA ct) b_Reader_print 2 (none : Option Jvm.ClassFile.FieldType) R_Reader A [adReader a0, adText a1])  : ∀ (n : Nat) (x1 : Int32) (o1 : Ob) (H : Heap) (locs : List Loc) (ls : Array Slot), bw_P (dC, dI) vwCl [wReader ct a0 (a1 0) o0, wText ct a1 r1_2 o1] H → va_S A s.heap H locs → lv_has ls 2 [(0, .ref (a0 0)), (1, .int x1)] → F_Reader_print_2 o0 n x1 o1 = some n1 → W p l e (headSpec ws_Reader_print rm_Reader_print).room s m args below meth c H locs 0 0 (MQ below (bw_Q (dC, dI) vwCl none [wReader ct a0 (a1 0) o0, wText ct a1 r1_2 n1] A) args s 0 0 A) (F0 m 2 ls []) := by
  obtain ⟨hx, hb, hr, hml, hown, hlocks, hts, hK, hN, hA, hnx⟩ := id C0
  intro n
  induction n with
  | zero =>
    intro x1 o1 H locs ls hP hS hl h
    cases h
  | succ n ih =>
    intro x1 o1 H locs ls hP hS hl h
    rw [F_Reader_print_2] at h
    refine lv_iload_n hx hb d_Reader_print_2 rfl (lv_at hl 1 rfl) ?_
    refine lv_aload_n hx hb d_Reader_print_3 rfl (lv_at hl 0 rfl) ?_
    refine va_get (D := (dC, dI)) (ci := 3) (v := .int (g32 o0 2 0)) (C := R_Reader) (T := T_Reader) (N := 12) hx hb hts in_Reader hown hK (hP 0 _ rfl) 0 rfl rfl 2 (by decide) (hts _ fl_Reader_19) (fun _ h9 => h9) rfl d_Reader_print_4 ?_
    refine lv_icmp_ge (tgt := 59) hx hb d_Reader_print_7 (by decide) (fun c1 => ?_) (fun c1 => ?_)
    · have h := ite_t c1 h
      obtain rfl := res1 h
      exact W.vret hx hb hr (fun t ht hW => ⟨rfl, by rw [ht]; exact hP, hS.F ht⟩) hS.2.2 d_Reader_print_59
    · have h := ite_f c1 h
      refine lv_aload_n hx hb d_Reader_print_10 rfl (lv_at hl 0 rfl) ?_
      refine va_get (D := (dC, dI)) (ci := 3) (v := .ref (a0 2)) (C := R_Reader) (T := T_Reader) (N := 12) hx hb hts in_Reader hown hK (hP 0 _ rfl) 0 rfl rfl 1 (by decide) (hts _ fl_Reader_15) (fun _ h9 => h9) rfl d_Reader_print_11 ?_
      refine lv_iload_n hx hb d_Reader_print_14 rfl (lv_at hl 1 rfl) ?_
      obtain ⟨hi2, h⟩ := chk_some h
      refine va_zald (f := g32 o0 1) hx hb hK (hP 0 _ rfl) 2 3 rfl rfl (inb_in hi2) d_Reader_print_15 ?_
      refine lv_if_ne (tgt := 53) hx hb d_Reader_print_16 (by decide) (fun c3 => ?_) (fun c3 => ?_)
      · have h := ite_f c3 h
        refine lv_iinc (v := (x1 + (1 : Int32))) (lv' := [(1, .int (x1 + (1 : Int32))), (0, .ref (a0 0))]) hx hb d_Reader_print_53 hl (k := 1) rfl rfl (by decide) rfl (fun ls hl => ?_)
        refine lv_goto (tgt := 2) hx hb d_Reader_print_56 (by decide) ?_
        exact ih (x1 + (1 : Int32)) o1 _ _ _ hP hS (lv_sub hl [1, 0] rfl) h
      · have h := ite_t c3 h
        refine lv_aload_n hx hb d_Reader_print_19 rfl (lv_at hl 0 rfl) ?_
        refine va_get (D := (dC, dI)) (ci := 3) (v := .ref (a1 0)) (C := R_Reader) (T := T_Reader) (N := 12) hx hb hts in_Reader hown hK (hP 0 _ rfl) 0 rfl rfl 4 (by decide) (hts _ fl_Reader_29) (fun _ h9 => h9) rfl d_Reader_print_20 ?_
        refine va_get (D := (dC, dI)) (ci := 2) (v := .ref (a1 1)) (C := R_Text) (T := T_Text) (N := 12) hx hb hts in_Text hown hK (hP 1 _ rfl) 0 rfl rfl 0 (by decide) (hts _ fl_Reader_186) (fun _ h9 => h9) rfl d_Reader_print_23 ?_
        refine lv_aload_n hx hb d_Reader_print_26 rfl (lv_at hl 0 rfl) ?_
        refine va_get (D := (dC, dI)) (ci := 3) (v := .ref (a1 0)) (C := R_Reader) (T := T_Reader) (N := 12) hx hb hts in_Reader hown hK (hP 0 _ rfl) 0 rfl rfl 4 (by decide) (hts _ fl_Reader_29) (fun _ h9 => h9) rfl d_Reader_print_27 ?_
        refine va_get (D := (dC, dI)) (ci := 2) (v := .int (g32 o1 1 0)) (C := R_Text) (T := T_Text) (N := 12) hx hb hts in_Text hown hK (hP 1 _ rfl) 0 rfl rfl 1 (by decide) (hts _ fl_Reader_189) (fun _ h9 => h9) rfl d_Reader_print_30 ?_
        refine lv_aload_n hx hb d_Reader_print_33 rfl (lv_at hl 0 rfl) ?_
        refine va_get (D := (dC, dI)) (ci := 3) (v := .ref (a0 1)) (C := R_Reader) (T := T_Reader) (N := 12) hx hb hts in_Reader hown hK (hP 0 _ rfl) 0 rfl rfl 0 (by decide) (hts _ fl_Reader_9) (fun _ h9 => h9) rfl d_Reader_print_34 ?_
        refine lv_iload_n hx hb d_Reader_print_37 rfl (lv_at hl 1 rfl) ?_
        refine va_cald (f := g32 o0 0) hx hb hK (hP 0 _ rfl) 1 2 rfl rfl (inb_in hi2) d_Reader_print_38 ?_
        obtain ⟨hi5, h⟩ := chk_some h
        refine st_Text_0 hx hb hK hP hN hS 1 rfl (inb_in hi5) d_Reader_print_39 (fun H locs hP hS => ?_)
        have hP : bw_P (dC, dI) vwCl [wReader ct a0 (a1 0) o0, wText ct a1 r1_2 (s32 o1 0 (Int32.toNatClampNeg (g32 o1 1 0)) (vp_nar .char (g32 o0 0 (Int32.toNatClampNeg x1))))] H := hP
        refine lv_aload_n hx hb d_Reader_print_40 rfl (lv_at hl 0 rfl) ?_
        refine va_get (D := (dC, dI)) (ci := 3) (v := .ref (a1 0)) (C := R_Reader) (T := T_Reader) (N := 12) hx hb hts in_Reader hown hK (hP 0 _ rfl) 0 rfl rfl 4 (by decide) (hts _ fl_Reader_29) (fun _ h9 => h9) rfl d_Reader_print_41 ?_
        refine lv_dup hx hb d_Reader_print_44 rfl ?_
        refine va_get (D := (dC, dI)) (ci := 2) (v := .int (g32 o1 1 0)) (C := R_Text) (T := T_Text) (N := 12) hx hb hts in_Text hown hK (hP 1 _ rfl) 0 rfl rfl 1 (by decide) (hts _ fl_Reader_189) (fun _ h9 => h9) rfl d_Reader_print_45 ?_
        refine lv_iconst (v := 1) hx hb d_Reader_print_48 (by decide) ?_
        refine lv_iadd hx hb d_Reader_print_49 ?_
        refine pt_Text_1 hx hb hts hown hK hP hN hS 1 rfl (hts _ fl_Reader_189) d_Reader_print_50 (fun H locs hP hS => ?_)
        have hP : bw_P (dC, dI) vwCl [wReader ct a0 (a1 0) o0, wText ct a1 r1_2 (s32 (s32 o1 0 (Int32.toNatClampNeg (g32 o1 1 0)) (vp_nar .char (g32 o0 0 (Int32.toNatClampNeg x1)))) 1 0 ((g32 o1 1 0) + (1 : Int32)))] H := hP
        refine lv_iinc (v := (x1 + (1 : Int32))) (lv' := [(1, .int (x1 + (1 : Int32))), (0, .ref (a0 0))]) hx hb d_Reader_print_53 hl (k := 1) rfl rfl (by decide) rfl (fun ls hl => ?_)
        refine lv_goto (tgt := 2) hx hb d_Reader_print_56 (by decide) ?_
        exact ih (x1 + (1 : Int32)) (s32 (s32 o1 0 (Int32.toNatClampNeg (g32 o1 1 0)) (vp_nar .char (g32 o0 0 (Int32.toNatClampNeg x1)))) 1 0 ((g32 o1 1 0) + (1 : Int32))) _ _ _ hP hS (lv_sub hl [1, 0] rfl) h
set_option maxHeartbeats 4000000 in
set_option maxRecDepth 100000 in
theorem c_Reader_print (l : Launch) (ct dC : Nat → ClassId) (dI : Nat → Nat → Nat) (a0 a1 : Nat → Nat) (r1_2 : Nat) (sz : Nat)  (o0 o1 : Ob) (n1 : Ob) (hF : F_Reader_print o0 o1 = some n1) : Met l y_Reader_print ws_Reader_print rm_Reader_print (bw_Pc [.ref (a0 0)] (dC, dI) vwCl (tyA ct) [wReader ct a0 (a1 0) o0, wText ct a1 r1_2 o1] sz nx) (bw_Q (dC, dI) vwCl none [wReader ct a0 (a1 0) o0, wText ct a1 r1_2 n1] (bw_A [adReader a0, adText a1] sz)) 0 0 (bw_A [adReader a0, adText a1] sz) := by
  refine Met.ofW (cc := b_Reader_print) (maxL := 2) (ret := (none : Option Jvm.ClassFile.FieldType)) (by decide) rfl ?_
  intro p e s m args below meth c s₁ B hml hv
  obtain ⟨rfl, hsz, hP, hK, hN0, hnx⟩ := hv
  have hx := B.exec
  have hb := B.bytes
  have hr := B.returns
  have hts : ∀ w ∈ wsAll, w.before [.ref (a0 0)].toArray s = true := fun w h9 => atoms_spec (ws := ws_Reader_print) B.pre w (List.mem_cons_of_mem _ h9)
  have hown : s.vm.findClass R_Reader = some m.cls := findClass_of_methodNamed B.named
  have hlocks := B.notSynchronized
  subst hsz
  have hN : bw_N (bw_A [adReader a0, adText a1] s.heap.size) [adReader a0, adText a1] := hN0.self s.heap.size
  generalize hAe : bw_A [adReader a0, adText a1] s.heap.size = A at hN ⊢
  have hA : ∀ q : Nat, s.heap.size ≤ q → A q := fun q h => by rw [← hAe]; exact Or.inr h
  have hS : va_S A s.heap s.heap [] := va_S.rf
  have hl := lv_entry ([.ref (a0 0)]) (n := 2) (Nat.le_of_ble_eq_true rfl)
  rw [lg_entry_eq]
  generalize (lg_sl ([.ref (a0 0)]) ++ List.replicate (2 - (lg_sl ([.ref (a0 0)])).length) Slot.unset).toArray = ls at hl ⊢
  have hl : lv_has ls 2 [(0, .ref (a0 0))] := hl
  have C0 : cx wsAll vwCl nx p s m [.ref (a0 0)].toArray meth c (dC, dI) (tyA ct) b_Reader_print 2 (none : Option Jvm.ClassFile.FieldType) R_Reader A [adReader a0, adText a1] := ⟨hx, hb, hr, hml, hown, hlocks, hts, hK, hN, hA, hnx⟩
  have h := hF
  rw [F_Reader_print] at h
  refine lv_iconst (v := 0) hx hb d_Reader_print_0 (by decide) ?_
  refine lv_istore_n (lv' := [(1, .int (0 : Int32)), (0, .ref (a0 0))]) hx hb d_Reader_print_1 rfl hl (by decide) rfl (fun ls hl => ?_)
  exact k_Reader_print_2 C0 fuel (0 : Int32) o1 _ _ _ hP hS (lv_sub hl [1, 0] rfl) h
