/-! 20.mod0 -/
abbrev b_Mod_unit : ByteArray := prog_8_method_3_code
def y_Mod_unit : MethodName := ⟨R_Mod, "unit", "(I)Z"⟩
abbrev b_Mod_here : ByteArray := prog_8_method_4_code
def y_Mod_here : MethodName := ⟨R_Mod, "here", "()I"⟩
abbrev b_Mod_failAt : ByteArray := prog_8_method_5_code
def y_Mod_failAt : MethodName := ⟨R_Mod, "failAt", "(I)V"⟩
abbrev b_Mod_isDigit : ByteArray := prog_8_method_6_code
def y_Mod_isDigit : MethodName := ⟨R_Mod, "isDigit", "(I)Z"⟩
abbrev b_Mod_measureOf : ByteArray := prog_8_method_7_code
def y_Mod_measureOf : MethodName := ⟨R_Mod, "measureOf", "(I)I"⟩
abbrev b_Mod_emit : ByteArray := prog_8_method_8_code
def y_Mod_emit : MethodName := ⟨R_Mod, "emit", "(II)V"⟩
abbrev b_Mod_isWaiting : ByteArray := prog_8_method_9_code
def y_Mod_isWaiting : MethodName := ⟨R_Mod, "isWaiting", "(II)Z"⟩
abbrev b_Mod_push : ByteArray := prog_8_method_10_code
def y_Mod_push : MethodName := ⟨R_Mod, "push", "(I)V"⟩
abbrev b_Mod_pop : ByteArray := prog_8_method_11_code
def y_Mod_pop : MethodName := ⟨R_Mod, "pop", "()V"⟩
abbrev b_Mod_endFactor : ByteArray := prog_8_method_12_code
def y_Mod_endFactor : MethodName := ⟨R_Mod, "endFactor", "()V"⟩
abbrev b_Mod_digits : ByteArray := prog_8_method_13_code
def y_Mod_digits : MethodName := ⟨R_Mod, "digits", "(I)I"⟩
abbrev b_Mod_readNumber : ByteArray := prog_8_method_14_code
def y_Mod_readNumber : MethodName := ⟨R_Mod, "readNumber", "()V"⟩
theorem fl_Mod_84 : Cond.fieldLink "PartFormulasModel" 84 "PartFormulasModel" "code" "I" ∈ wsAll := wa_of 915 (by decide +kernel) (by decide +kernel)
theorem fl_Mod_88 : Cond.fieldLink "PartFormulasModel" 88 "PartFormulasModel" "typedSize" "I" ∈ wsAll := wa_of 917 (by decide +kernel) (by decide +kernel)
theorem fl_Mod_7 : Cond.fieldLink "PartFormulasModel" 7 "PartFormulasModel" "typed" "[I" ∈ wsAll := wa_of 916 (by decide +kernel) (by decide +kernel)
theorem fl_Mod_91 : Cond.fieldLink "PartFormulasModel" 91 "PartFormulasModel" "at" "I" ∈ wsAll := wa_of 918 (by decide +kernel) (by decide +kernel)
theorem fl_Mod_94 : Cond.fieldLink "PartFormulasModel" 94 "PartFormulasModel" "failed" "I" ∈ wsAll := wa_of 919 (by decide +kernel) (by decide +kernel)
theorem fl_Mod_13 : Cond.fieldLink "PartFormulasModel" 13 "PartFormulasModel" "signs" "[I" ∈ wsAll := wa_of 920 (by decide +kernel) (by decide +kernel)
theorem fl_Mod_19 : Cond.fieldLink "PartFormulasModel" 19 "PartFormulasModel" "sizes" "[I" ∈ wsAll := wa_of 922 (by decide +kernel) (by decide +kernel)
theorem fl_Mod_16 : Cond.fieldLink "PartFormulasModel" 16 "PartFormulasModel" "arguments" "[I" ∈ wsAll := wa_of 921 (by decide +kernel) (by decide +kernel)
theorem fl_Mod_97 : Cond.fieldLink "PartFormulasModel" 97 "PartFormulasModel" "waits" "I" ∈ wsAll := wa_of 929 (by decide +kernel) (by decide +kernel)
theorem fl_Mod_31 : Cond.fieldLink "PartFormulasModel" 31 "PartFormulasModel" "waiting" "[I" ∈ wsAll := wa_of 928 (by decide +kernel) (by decide +kernel)
theorem cd_Mod_emit : Cond.code ⟨"PartFormulasModel", "emit", "(II)V"⟩ prog_8_method_8_code 3 (none : Option Jvm.ClassFile.FieldType) ∈ wsAll := wa_of 1066 (by decide +kernel) (by decide +kernel)
theorem ml_Mod_100 : Cond.methodLink "PartFormulasModel" 100 ⟨"PartFormulasModel", "emit", "(II)V"⟩ ∈ wsAll := wa_of 1063 (by decide +kernel) (by decide +kernel)
theorem im_Mod_emit : Cond.instanceMethod ⟨"PartFormulasModel", "emit", "(II)V"⟩ ∈ wsAll := wa_of 1065 (by decide +kernel) (by decide +kernel)
theorem se_Mod_emit : Cond.selects "PartFormulasModel" ⟨"PartFormulasModel", "emit", "(II)V"⟩ ⟨"PartFormulasModel", "emit", "(II)V"⟩ ∈ wsAll := wa_of 38 (by decide +kernel) (by decide +kernel)
theorem ini_Mod : Cond.initialized "PartFormulasModel" ∈ wsAll := wa_of 80 (by decide +kernel) (by decide +kernel)
theorem cd_Mod_isWaiting : Cond.code ⟨"PartFormulasModel", "isWaiting", "(II)Z"⟩ prog_8_method_9_code 3 (some .boolean) ∈ wsAll := wa_of 1074 (by decide +kernel) (by decide +kernel)
theorem ml_Mod_104 : Cond.methodLink "PartFormulasModel" 104 ⟨"PartFormulasModel", "isWaiting", "(II)Z"⟩ ∈ wsAll := wa_of 1071 (by decide +kernel) (by decide +kernel)
theorem im_Mod_isWaiting : Cond.instanceMethod ⟨"PartFormulasModel", "isWaiting", "(II)Z"⟩ ∈ wsAll := wa_of 1073 (by decide +kernel) (by decide +kernel)
theorem se_Mod_isWaiting : Cond.selects "PartFormulasModel" ⟨"PartFormulasModel", "isWaiting", "(II)Z"⟩ ⟨"PartFormulasModel", "isWaiting", "(II)Z"⟩ ∈ wsAll := wa_of 40 (by decide +kernel) (by decide +kernel)
theorem cd_Mod_pop : Cond.code ⟨"PartFormulasModel", "pop", "()V"⟩ prog_8_method_11_code 1 (none : Option Jvm.ClassFile.FieldType) ∈ wsAll := wa_of 1078 (by decide +kernel) (by decide +kernel)
theorem ml_Mod_108 : Cond.methodLink "PartFormulasModel" 108 ⟨"PartFormulasModel", "pop", "()V"⟩ ∈ wsAll := wa_of 1075 (by decide +kernel) (by decide +kernel)
theorem im_Mod_pop : Cond.instanceMethod ⟨"PartFormulasModel", "pop", "()V"⟩ ∈ wsAll := wa_of 1077 (by decide +kernel) (by decide +kernel)
theorem se_Mod_pop : Cond.selects "PartFormulasModel" ⟨"PartFormulasModel", "pop", "()V"⟩ ⟨"PartFormulasModel", "pop", "()V"⟩ ∈ wsAll := wa_of 41 (by decide +kernel) (by decide +kernel)
theorem cd_Mod_failAt : Cond.code ⟨"PartFormulasModel", "failAt", "(I)V"⟩ prog_8_method_5_code 2 (none : Option Jvm.ClassFile.FieldType) ∈ wsAll := wa_of 1062 (by decide +kernel) (by decide +kernel)
theorem ml_Mod_119 : Cond.methodLink "PartFormulasModel" 119 ⟨"PartFormulasModel", "failAt", "(I)V"⟩ ∈ wsAll := wa_of 1059 (by decide +kernel) (by decide +kernel)
theorem im_Mod_failAt : Cond.instanceMethod ⟨"PartFormulasModel", "failAt", "(I)V"⟩ ∈ wsAll := wa_of 1061 (by decide +kernel) (by decide +kernel)
theorem se_Mod_failAt : Cond.selects "PartFormulasModel" ⟨"PartFormulasModel", "failAt", "(I)V"⟩ ⟨"PartFormulasModel", "failAt", "(I)V"⟩ ∈ wsAll := wa_of 37 (by decide +kernel) (by decide +kernel)
theorem cd_Mod_here : Cond.code ⟨"PartFormulasModel", "here", "()I"⟩ prog_8_method_4_code 1 (some .int) ∈ wsAll := wa_of 1039 (by decide +kernel) (by decide +kernel)
theorem ml_Mod_111 : Cond.methodLink "PartFormulasModel" 111 ⟨"PartFormulasModel", "here", "()I"⟩ ∈ wsAll := wa_of 1036 (by decide +kernel) (by decide +kernel)
theorem im_Mod_here : Cond.instanceMethod ⟨"PartFormulasModel", "here", "()I"⟩ ∈ wsAll := wa_of 1038 (by decide +kernel) (by decide +kernel)
theorem se_Mod_here : Cond.selects "PartFormulasModel" ⟨"PartFormulasModel", "here", "()I"⟩ ⟨"PartFormulasModel", "here", "()I"⟩ ∈ wsAll := wa_of 32 (by decide +kernel) (by decide +kernel)
theorem cd_Mod_isDigit : Cond.code ⟨"PartFormulasModel", "isDigit", "(I)Z"⟩ prog_8_method_6_code 1 (some .boolean) ∈ wsAll := wa_of 1050 (by decide +kernel) (by decide +kernel)
theorem ml_Mod_115 : Cond.methodLink "PartFormulasModel" 115 ⟨"PartFormulasModel", "isDigit", "(I)Z"⟩ ∈ wsAll := wa_of 1048 (by decide +kernel) (by decide +kernel)
theorem st_Mod_isDigit : Cond.static ⟨"PartFormulasModel", "isDigit", "(I)Z"⟩ ∈ wsAll := wa_of 1049 (by decide +kernel) (by decide +kernel)
theorem cd_Mod_digits : Cond.code ⟨"PartFormulasModel", "digits", "(I)I"⟩ prog_8_method_13_code 4 (some .int) ∈ wsAll := wa_of 1058 (by decide +kernel) (by decide +kernel)
theorem ml_Mod_123 : Cond.methodLink "PartFormulasModel" 123 ⟨"PartFormulasModel", "digits", "(I)I"⟩ ∈ wsAll := wa_of 1055 (by decide +kernel) (by decide +kernel)
theorem im_Mod_digits : Cond.instanceMethod ⟨"PartFormulasModel", "digits", "(I)I"⟩ ∈ wsAll := wa_of 1057 (by decide +kernel) (by decide +kernel)
theorem se_Mod_digits : Cond.selects "PartFormulasModel" ⟨"PartFormulasModel", "digits", "(I)I"⟩ ⟨"PartFormulasModel", "digits", "(I)I"⟩ ∈ wsAll := wa_of 36 (by decide +kernel) (by decide +kernel)
theorem cd_Mod_endFactor : Cond.code ⟨"PartFormulasModel", "endFactor", "()V"⟩ prog_8_method_12_code 1 (none : Option Jvm.ClassFile.FieldType) ∈ wsAll := wa_of 1070 (by decide +kernel) (by decide +kernel)
theorem ml_Mod_127 : Cond.methodLink "PartFormulasModel" 127 ⟨"PartFormulasModel", "endFactor", "()V"⟩ ∈ wsAll := wa_of 1067 (by decide +kernel) (by decide +kernel)
theorem im_Mod_endFactor : Cond.instanceMethod ⟨"PartFormulasModel", "endFactor", "()V"⟩ ∈ wsAll := wa_of 1069 (by decide +kernel) (by decide +kernel)
theorem se_Mod_endFactor : Cond.selects "PartFormulasModel" ⟨"PartFormulasModel", "endFactor", "()V"⟩ ⟨"PartFormulasModel", "endFactor", "()V"⟩ ∈ wsAll := wa_of 39 (by decide +kernel) (by decide +kernel)
theorem d_Mod_digits_0 : decode b_Mod_digits 0 = .ok (.iconst 0, 1) := by decide +kernel
theorem d_Mod_digits_1 : decode b_Mod_digits 1 = .ok (.istore_n 2, 1) := by decide +kernel
theorem d_Mod_digits_2 : decode b_Mod_digits 2 = .ok (.iconst 0, 1) := by decide +kernel
theorem d_Mod_digits_3 : decode b_Mod_digits 3 = .ok (.istore_n 3, 1) := by decide +kernel
theorem d_Mod_digits_4 : decode b_Mod_digits 4 = .ok (.iload_n 3, 1) := by decide +kernel
theorem d_Mod_digits_5 : decode b_Mod_digits 5 = .ok (.iload_n 1, 1) := by decide +kernel
theorem d_Mod_digits_6 : decode b_Mod_digits 6 = .ok (.if_icmp .ge 42, 3) := by decide +kernel
theorem d_Mod_digits_9 : decode b_Mod_digits 9 = .ok (.aload_n 0, 1) := by decide +kernel
theorem d_Mod_digits_10 : decode b_Mod_digits 10 = .ok (.invokevirtual 111, 3) := by decide +kernel
theorem d_Mod_digits_13 : decode b_Mod_digits 13 = .ok (.invokestatic 115, 3) := by decide +kernel
theorem d_Mod_digits_16 : decode b_Mod_digits 16 = .ok (.ifCond .eq 32, 3) := by decide +kernel
theorem d_Mod_digits_19 : decode b_Mod_digits 19 = .ok (.bipush 10, 2) := by decide +kernel
theorem d_Mod_digits_21 : decode b_Mod_digits 21 = .ok (.iload_n 2, 1) := by decide +kernel
theorem d_Mod_digits_22 : decode b_Mod_digits 22 = .ok (.imul, 1) := by decide +kernel
theorem d_Mod_digits_23 : decode b_Mod_digits 23 = .ok (.aload_n 0, 1) := by decide +kernel
theorem d_Mod_digits_24 : decode b_Mod_digits 24 = .ok (.invokevirtual 111, 3) := by decide +kernel
theorem d_Mod_digits_27 : decode b_Mod_digits 27 = .ok (.iadd, 1) := by decide +kernel
theorem d_Mod_digits_28 : decode b_Mod_digits 28 = .ok (.bipush 48, 2) := by decide +kernel
theorem d_Mod_digits_30 : decode b_Mod_digits 30 = .ok (.isub, 1) := by decide +kernel
theorem d_Mod_digits_31 : decode b_Mod_digits 31 = .ok (.istore_n 2, 1) := by decide +kernel
theorem d_Mod_digits_32 : decode b_Mod_digits 32 = .ok (.iinc 3 1, 3) := by decide +kernel
theorem d_Mod_digits_35 : decode b_Mod_digits 35 = .ok (.aload_n 0, 1) := by decide +kernel
theorem d_Mod_digits_36 : decode b_Mod_digits 36 = .ok (.dup, 1) := by decide +kernel
theorem d_Mod_digits_37 : decode b_Mod_digits 37 = .ok (.getfield 91, 3) := by decide +kernel
theorem d_Mod_digits_40 : decode b_Mod_digits 40 = .ok (.iconst 1, 1) := by decide +kernel
theorem d_Mod_digits_41 : decode b_Mod_digits 41 = .ok (.iadd, 1) := by decide +kernel
theorem d_Mod_digits_42 : decode b_Mod_digits 42 = .ok (.putfield 91, 3) := by decide +kernel
theorem d_Mod_digits_45 : decode b_Mod_digits 45 = .ok (.goto (-41), 3) := by decide +kernel
theorem d_Mod_digits_48 : decode b_Mod_digits 48 = .ok (.iload_n 3, 1) := by decide +kernel
theorem d_Mod_digits_49 : decode b_Mod_digits 49 = .ok (.ifCond .ne 11, 3) := by decide +kernel
theorem d_Mod_digits_52 : decode b_Mod_digits 52 = .ok (.aload_n 0, 1) := by decide +kernel
theorem d_Mod_digits_53 : decode b_Mod_digits 53 = .ok (.aload_n 0, 1) := by decide +kernel
theorem d_Mod_digits_54 : decode b_Mod_digits 54 = .ok (.getfield 91, 3) := by decide +kernel
theorem d_Mod_digits_57 : decode b_Mod_digits 57 = .ok (.invokevirtual 119, 3) := by decide +kernel
theorem d_Mod_digits_60 : decode b_Mod_digits 60 = .ok (.iload_n 2, 1) := by decide +kernel
theorem d_Mod_digits_61 : decode b_Mod_digits 61 = .ok (.ireturn, 1) := by decide +kernel
theorem d_Mod_emit_0 : decode b_Mod_emit 0 = .ok (.aload_n 0, 1) := by decide +kernel
theorem d_Mod_emit_1 : decode b_Mod_emit 1 = .ok (.getfield 13, 3) := by decide +kernel
theorem d_Mod_emit_4 : decode b_Mod_emit 4 = .ok (.sipush 500, 3) := by decide +kernel
theorem d_Mod_emit_7 : decode b_Mod_emit 7 = .ok (.aload_n 0, 1) := by decide +kernel
theorem d_Mod_emit_8 : decode b_Mod_emit 8 = .ok (.getfield 19, 3) := by decide +kernel
theorem d_Mod_emit_11 : decode b_Mod_emit 11 = .ok (.iconst 1, 1) := by decide +kernel
theorem d_Mod_emit_12 : decode b_Mod_emit 12 = .ok (.iaload, 1) := by decide +kernel
theorem d_Mod_emit_13 : decode b_Mod_emit 13 = .ok (.iadd, 1) := by decide +kernel
theorem d_Mod_emit_14 : decode b_Mod_emit 14 = .ok (.iload_n 1, 1) := by decide +kernel
theorem d_Mod_emit_15 : decode b_Mod_emit 15 = .ok (.iastore, 1) := by decide +kernel
theorem d_Mod_emit_16 : decode b_Mod_emit 16 = .ok (.aload_n 0, 1) := by decide +kernel
theorem d_Mod_emit_17 : decode b_Mod_emit 17 = .ok (.getfield 16, 3) := by decide +kernel
theorem d_Mod_emit_20 : decode b_Mod_emit 20 = .ok (.sipush 500, 3) := by decide +kernel
theorem d_Mod_emit_23 : decode b_Mod_emit 23 = .ok (.aload_n 0, 1) := by decide +kernel
theorem d_Mod_emit_24 : decode b_Mod_emit 24 = .ok (.getfield 19, 3) := by decide +kernel
theorem d_Mod_emit_27 : decode b_Mod_emit 27 = .ok (.iconst 1, 1) := by decide +kernel
theorem d_Mod_emit_28 : decode b_Mod_emit 28 = .ok (.iaload, 1) := by decide +kernel
theorem d_Mod_emit_29 : decode b_Mod_emit 29 = .ok (.iadd, 1) := by decide +kernel
theorem d_Mod_emit_30 : decode b_Mod_emit 30 = .ok (.iload_n 2, 1) := by decide +kernel
theorem d_Mod_emit_31 : decode b_Mod_emit 31 = .ok (.iastore, 1) := by decide +kernel
theorem d_Mod_emit_32 : decode b_Mod_emit 32 = .ok (.aload_n 0, 1) := by decide +kernel
theorem d_Mod_emit_33 : decode b_Mod_emit 33 = .ok (.getfield 19, 3) := by decide +kernel
theorem d_Mod_emit_36 : decode b_Mod_emit 36 = .ok (.iconst 1, 1) := by decide +kernel
theorem d_Mod_emit_37 : decode b_Mod_emit 37 = .ok (.dup2, 1) := by decide +kernel
theorem d_Mod_emit_38 : decode b_Mod_emit 38 = .ok (.iaload, 1) := by decide +kernel
theorem d_Mod_emit_39 : decode b_Mod_emit 39 = .ok (.iconst 1, 1) := by decide +kernel
theorem d_Mod_emit_40 : decode b_Mod_emit 40 = .ok (.iadd, 1) := by decide +kernel
theorem d_Mod_emit_41 : decode b_Mod_emit 41 = .ok (.iastore, 1) := by decide +kernel
theorem d_Mod_emit_42 : decode b_Mod_emit 42 = .ok (.return_, 1) := by decide +kernel
theorem d_Mod_endFactor_0 : decode b_Mod_endFactor 0 = .ok (.aload_n 0, 1) := by decide +kernel
theorem d_Mod_endFactor_1 : decode b_Mod_endFactor 1 = .ok (.iconst 4, 1) := by decide +kernel
theorem d_Mod_endFactor_2 : decode b_Mod_endFactor 2 = .ok (.iconst 4, 1) := by decide +kernel
theorem d_Mod_endFactor_3 : decode b_Mod_endFactor 3 = .ok (.invokevirtual 104, 3) := by decide +kernel
theorem d_Mod_endFactor_6 : decode b_Mod_endFactor 6 = .ok (.ifCond .eq 10, 3) := by decide +kernel
theorem d_Mod_endFactor_9 : decode b_Mod_endFactor 9 = .ok (.aload_n 0, 1) := by decide +kernel
theorem d_Mod_endFactor_10 : decode b_Mod_endFactor 10 = .ok (.invokevirtual 108, 3) := by decide +kernel
theorem d_Mod_endFactor_13 : decode b_Mod_endFactor 13 = .ok (.goto (-13), 3) := by decide +kernel
theorem d_Mod_endFactor_16 : decode b_Mod_endFactor 16 = .ok (.return_, 1) := by decide +kernel
theorem d_Mod_failAt_0 : decode b_Mod_failAt 0 = .ok (.aload_n 0, 1) := by decide +kernel
theorem d_Mod_failAt_1 : decode b_Mod_failAt 1 = .ok (.aload_n 0, 1) := by decide +kernel
theorem d_Mod_failAt_2 : decode b_Mod_failAt 2 = .ok (.getfield 94, 3) := by decide +kernel
theorem d_Mod_failAt_5 : decode b_Mod_failAt 5 = .ok (.ifCond .ge 7, 3) := by decide +kernel
theorem d_Mod_failAt_8 : decode b_Mod_failAt 8 = .ok (.iload_n 1, 1) := by decide +kernel
theorem d_Mod_failAt_9 : decode b_Mod_failAt 9 = .ok (.goto 7, 3) := by decide +kernel
theorem d_Mod_failAt_12 : decode b_Mod_failAt 12 = .ok (.aload_n 0, 1) := by decide +kernel
theorem d_Mod_failAt_13 : decode b_Mod_failAt 13 = .ok (.getfield 94, 3) := by decide +kernel
theorem d_Mod_failAt_16 : decode b_Mod_failAt 16 = .ok (.putfield 94, 3) := by decide +kernel
theorem d_Mod_failAt_19 : decode b_Mod_failAt 19 = .ok (.return_, 1) := by decide +kernel
theorem d_Mod_here_0 : decode b_Mod_here 0 = .ok (.aload_n 0, 1) := by decide +kernel
theorem d_Mod_here_1 : decode b_Mod_here 1 = .ok (.getfield 91, 3) := by decide +kernel
theorem d_Mod_here_4 : decode b_Mod_here 4 = .ok (.aload_n 0, 1) := by decide +kernel
theorem d_Mod_here_5 : decode b_Mod_here 5 = .ok (.getfield 88, 3) := by decide +kernel
theorem d_Mod_here_8 : decode b_Mod_here 8 = .ok (.if_icmp .ge 15, 3) := by decide +kernel
theorem d_Mod_here_11 : decode b_Mod_here 11 = .ok (.aload_n 0, 1) := by decide +kernel
theorem d_Mod_here_12 : decode b_Mod_here 12 = .ok (.getfield 7, 3) := by decide +kernel
theorem d_Mod_here_15 : decode b_Mod_here 15 = .ok (.aload_n 0, 1) := by decide +kernel
theorem d_Mod_here_16 : decode b_Mod_here 16 = .ok (.getfield 91, 3) := by decide +kernel
theorem d_Mod_here_19 : decode b_Mod_here 19 = .ok (.iaload, 1) := by decide +kernel
theorem d_Mod_here_20 : decode b_Mod_here 20 = .ok (.goto 4, 3) := by decide +kernel
theorem d_Mod_here_23 : decode b_Mod_here 23 = .ok (.iconst (-1), 1) := by decide +kernel
theorem d_Mod_here_24 : decode b_Mod_here 24 = .ok (.ireturn, 1) := by decide +kernel
theorem d_Mod_isDigit_0 : decode b_Mod_isDigit 0 = .ok (.iload_n 0, 1) := by decide +kernel
theorem d_Mod_isDigit_1 : decode b_Mod_isDigit 1 = .ok (.bipush 48, 2) := by decide +kernel
theorem d_Mod_isDigit_3 : decode b_Mod_isDigit 3 = .ok (.if_icmp .lt 13, 3) := by decide +kernel
theorem d_Mod_isDigit_6 : decode b_Mod_isDigit 6 = .ok (.iload_n 0, 1) := by decide +kernel
theorem d_Mod_isDigit_7 : decode b_Mod_isDigit 7 = .ok (.bipush 57, 2) := by decide +kernel
theorem d_Mod_isDigit_9 : decode b_Mod_isDigit 9 = .ok (.if_icmp .gt 7, 3) := by decide +kernel
theorem d_Mod_isDigit_12 : decode b_Mod_isDigit 12 = .ok (.iconst 1, 1) := by decide +kernel
theorem d_Mod_isDigit_13 : decode b_Mod_isDigit 13 = .ok (.goto 4, 3) := by decide +kernel
theorem d_Mod_isDigit_16 : decode b_Mod_isDigit 16 = .ok (.iconst 0, 1) := by decide +kernel
theorem d_Mod_isDigit_17 : decode b_Mod_isDigit 17 = .ok (.ireturn, 1) := by decide +kernel
theorem d_Mod_isWaiting_0 : decode b_Mod_isWaiting 0 = .ok (.aload_n 0, 1) := by decide +kernel
theorem d_Mod_isWaiting_1 : decode b_Mod_isWaiting 1 = .ok (.getfield 97, 3) := by decide +kernel
theorem d_Mod_isWaiting_4 : decode b_Mod_isWaiting 4 = .ok (.ifCond .le 37, 3) := by decide +kernel
theorem d_Mod_isWaiting_7 : decode b_Mod_isWaiting 7 = .ok (.aload_n 0, 1) := by decide +kernel
theorem d_Mod_isWaiting_8 : decode b_Mod_isWaiting 8 = .ok (.getfield 31, 3) := by decide +kernel
theorem d_Mod_isWaiting_11 : decode b_Mod_isWaiting 11 = .ok (.aload_n 0, 1) := by decide +kernel
theorem d_Mod_isWaiting_12 : decode b_Mod_isWaiting 12 = .ok (.getfield 97, 3) := by decide +kernel
theorem d_Mod_isWaiting_15 : decode b_Mod_isWaiting 15 = .ok (.iconst 1, 1) := by decide +kernel
theorem d_Mod_isWaiting_16 : decode b_Mod_isWaiting 16 = .ok (.isub, 1) := by decide +kernel
theorem d_Mod_isWaiting_17 : decode b_Mod_isWaiting 17 = .ok (.iaload, 1) := by decide +kernel
theorem d_Mod_isWaiting_18 : decode b_Mod_isWaiting 18 = .ok (.iload_n 1, 1) := by decide +kernel
theorem d_Mod_isWaiting_19 : decode b_Mod_isWaiting 19 = .ok (.if_icmp .lt 22, 3) := by decide +kernel
theorem d_Mod_isWaiting_22 : decode b_Mod_isWaiting 22 = .ok (.aload_n 0, 1) := by decide +kernel
theorem d_Mod_isWaiting_23 : decode b_Mod_isWaiting 23 = .ok (.getfield 31, 3) := by decide +kernel
theorem d_Mod_isWaiting_26 : decode b_Mod_isWaiting 26 = .ok (.aload_n 0, 1) := by decide +kernel
theorem d_Mod_isWaiting_27 : decode b_Mod_isWaiting 27 = .ok (.getfield 97, 3) := by decide +kernel
theorem d_Mod_isWaiting_30 : decode b_Mod_isWaiting 30 = .ok (.iconst 1, 1) := by decide +kernel
theorem d_Mod_isWaiting_31 : decode b_Mod_isWaiting 31 = .ok (.isub, 1) := by decide +kernel
theorem d_Mod_isWaiting_32 : decode b_Mod_isWaiting 32 = .ok (.iaload, 1) := by decide +kernel
theorem d_Mod_isWaiting_33 : decode b_Mod_isWaiting 33 = .ok (.iload_n 2, 1) := by decide +kernel
theorem d_Mod_isWaiting_34 : decode b_Mod_isWaiting 34 = .ok (.if_icmp .gt 7, 3) := by decide +kernel
theorem d_Mod_isWaiting_37 : decode b_Mod_isWaiting 37 = .ok (.iconst 1, 1) := by decide +kernel
theorem d_Mod_isWaiting_38 : decode b_Mod_isWaiting 38 = .ok (.goto 4, 3) := by decide +kernel
theorem d_Mod_isWaiting_41 : decode b_Mod_isWaiting 41 = .ok (.iconst 0, 1) := by decide +kernel
theorem d_Mod_isWaiting_42 : decode b_Mod_isWaiting 42 = .ok (.ireturn, 1) := by decide +kernel
theorem d_Mod_measureOf_0 : decode b_Mod_measureOf 0 = .ok (.iload_n 0, 1) := by decide +kernel
theorem d_Mod_measureOf_1 : decode b_Mod_measureOf 1 = .ok (.lookupswitch 71 #[(100, 63), (104, 61), (119, 59), (120, 65), (121, 67), (122, 69)], 59) := by decide +kernel
theorem d_Mod_measureOf_60 : decode b_Mod_measureOf 60 = .ok (.iconst 0, 1) := by decide +kernel
theorem d_Mod_measureOf_61 : decode b_Mod_measureOf 61 = .ok (.ireturn, 1) := by decide +kernel
theorem d_Mod_measureOf_62 : decode b_Mod_measureOf 62 = .ok (.iconst 1, 1) := by decide +kernel
theorem d_Mod_measureOf_63 : decode b_Mod_measureOf 63 = .ok (.ireturn, 1) := by decide +kernel
theorem d_Mod_measureOf_64 : decode b_Mod_measureOf 64 = .ok (.iconst 2, 1) := by decide +kernel
theorem d_Mod_measureOf_65 : decode b_Mod_measureOf 65 = .ok (.ireturn, 1) := by decide +kernel
theorem d_Mod_measureOf_66 : decode b_Mod_measureOf 66 = .ok (.iconst 3, 1) := by decide +kernel
theorem d_Mod_measureOf_67 : decode b_Mod_measureOf 67 = .ok (.ireturn, 1) := by decide +kernel
theorem d_Mod_measureOf_68 : decode b_Mod_measureOf 68 = .ok (.iconst 4, 1) := by decide +kernel
theorem d_Mod_measureOf_69 : decode b_Mod_measureOf 69 = .ok (.ireturn, 1) := by decide +kernel
theorem d_Mod_measureOf_70 : decode b_Mod_measureOf 70 = .ok (.iconst 5, 1) := by decide +kernel
theorem d_Mod_measureOf_71 : decode b_Mod_measureOf 71 = .ok (.ireturn, 1) := by decide +kernel
theorem d_Mod_measureOf_72 : decode b_Mod_measureOf 72 = .ok (.iconst (-1), 1) := by decide +kernel
theorem d_Mod_measureOf_73 : decode b_Mod_measureOf 73 = .ok (.ireturn, 1) := by decide +kernel
theorem d_Mod_pop_0 : decode b_Mod_pop 0 = .ok (.aload_n 0, 1) := by decide +kernel
theorem d_Mod_pop_1 : decode b_Mod_pop 1 = .ok (.dup, 1) := by decide +kernel
theorem d_Mod_pop_2 : decode b_Mod_pop 2 = .ok (.getfield 97, 3) := by decide +kernel
theorem d_Mod_pop_5 : decode b_Mod_pop 5 = .ok (.iconst 1, 1) := by decide +kernel
theorem d_Mod_pop_6 : decode b_Mod_pop 6 = .ok (.isub, 1) := by decide +kernel
theorem d_Mod_pop_7 : decode b_Mod_pop 7 = .ok (.putfield 97, 3) := by decide +kernel
theorem d_Mod_pop_10 : decode b_Mod_pop 10 = .ok (.aload_n 0, 1) := by decide +kernel
theorem d_Mod_pop_11 : decode b_Mod_pop 11 = .ok (.aload_n 0, 1) := by decide +kernel
theorem d_Mod_pop_12 : decode b_Mod_pop 12 = .ok (.getfield 31, 3) := by decide +kernel
theorem d_Mod_pop_15 : decode b_Mod_pop 15 = .ok (.aload_n 0, 1) := by decide +kernel
theorem d_Mod_pop_16 : decode b_Mod_pop 16 = .ok (.getfield 97, 3) := by decide +kernel
theorem d_Mod_pop_19 : decode b_Mod_pop 19 = .ok (.iaload, 1) := by decide +kernel
theorem d_Mod_pop_20 : decode b_Mod_pop 20 = .ok (.iconst 0, 1) := by decide +kernel
theorem d_Mod_pop_21 : decode b_Mod_pop 21 = .ok (.invokevirtual 100, 3) := by decide +kernel
theorem d_Mod_pop_24 : decode b_Mod_pop 24 = .ok (.return_, 1) := by decide +kernel
theorem d_Mod_push_0 : decode b_Mod_push 0 = .ok (.aload_n 0, 1) := by decide +kernel
theorem d_Mod_push_1 : decode b_Mod_push 1 = .ok (.getfield 31, 3) := by decide +kernel
theorem d_Mod_push_4 : decode b_Mod_push 4 = .ok (.aload_n 0, 1) := by decide +kernel
theorem d_Mod_push_5 : decode b_Mod_push 5 = .ok (.getfield 97, 3) := by decide +kernel
theorem d_Mod_push_8 : decode b_Mod_push 8 = .ok (.iload_n 1, 1) := by decide +kernel
theorem d_Mod_push_9 : decode b_Mod_push 9 = .ok (.iastore, 1) := by decide +kernel
theorem d_Mod_push_10 : decode b_Mod_push 10 = .ok (.aload_n 0, 1) := by decide +kernel
theorem d_Mod_push_11 : decode b_Mod_push 11 = .ok (.dup, 1) := by decide +kernel
theorem d_Mod_push_12 : decode b_Mod_push 12 = .ok (.getfield 97, 3) := by decide +kernel
theorem d_Mod_push_15 : decode b_Mod_push 15 = .ok (.iconst 1, 1) := by decide +kernel
theorem d_Mod_push_16 : decode b_Mod_push 16 = .ok (.iadd, 1) := by decide +kernel
theorem d_Mod_push_17 : decode b_Mod_push 17 = .ok (.putfield 97, 3) := by decide +kernel
theorem d_Mod_push_20 : decode b_Mod_push 20 = .ok (.aload_n 0, 1) := by decide +kernel
theorem d_Mod_push_21 : decode b_Mod_push 21 = .ok (.dup, 1) := by decide +kernel
theorem d_Mod_push_22 : decode b_Mod_push 22 = .ok (.getfield 91, 3) := by decide +kernel
theorem d_Mod_push_25 : decode b_Mod_push 25 = .ok (.iconst 1, 1) := by decide +kernel
theorem d_Mod_push_26 : decode b_Mod_push 26 = .ok (.iadd, 1) := by decide +kernel
theorem d_Mod_push_27 : decode b_Mod_push 27 = .ok (.putfield 91, 3) := by decide +kernel
theorem d_Mod_push_30 : decode b_Mod_push 30 = .ok (.return_, 1) := by decide +kernel
theorem d_Mod_readNumber_0 : decode b_Mod_readNumber 0 = .ok (.sipush 1000, 3) := by decide +kernel
theorem d_Mod_readNumber_3 : decode b_Mod_readNumber 3 = .ok (.aload_n 0, 1) := by decide +kernel
theorem d_Mod_readNumber_4 : decode b_Mod_readNumber 4 = .ok (.iconst 5, 1) := by decide +kernel
theorem d_Mod_readNumber_5 : decode b_Mod_readNumber 5 = .ok (.invokevirtual 123, 3) := by decide +kernel
theorem d_Mod_readNumber_8 : decode b_Mod_readNumber 8 = .ok (.imul, 1) := by decide +kernel
theorem d_Mod_readNumber_9 : decode b_Mod_readNumber 9 = .ok (.istore_n 1, 1) := by decide +kernel
theorem d_Mod_readNumber_10 : decode b_Mod_readNumber 10 = .ok (.aload_n 0, 1) := by decide +kernel
theorem d_Mod_readNumber_11 : decode b_Mod_readNumber 11 = .ok (.invokevirtual 111, 3) := by decide +kernel
theorem d_Mod_readNumber_14 : decode b_Mod_readNumber 14 = .ok (.bipush 46, 2) := by decide +kernel
theorem d_Mod_readNumber_16 : decode b_Mod_readNumber 16 = .ok (.if_icmp .ne 62, 3) := by decide +kernel
theorem d_Mod_readNumber_19 : decode b_Mod_readNumber 19 = .ok (.aload_n 0, 1) := by decide +kernel
theorem d_Mod_readNumber_20 : decode b_Mod_readNumber 20 = .ok (.dup, 1) := by decide +kernel
theorem d_Mod_readNumber_21 : decode b_Mod_readNumber 21 = .ok (.getfield 91, 3) := by decide +kernel
theorem d_Mod_readNumber_24 : decode b_Mod_readNumber 24 = .ok (.iconst 1, 1) := by decide +kernel
theorem d_Mod_readNumber_25 : decode b_Mod_readNumber 25 = .ok (.iadd, 1) := by decide +kernel
theorem d_Mod_readNumber_26 : decode b_Mod_readNumber 26 = .ok (.putfield 91, 3) := by decide +kernel
theorem d_Mod_readNumber_29 : decode b_Mod_readNumber 29 = .ok (.aload_n 0, 1) := by decide +kernel
theorem d_Mod_readNumber_30 : decode b_Mod_readNumber 30 = .ok (.getfield 91, 3) := by decide +kernel
theorem d_Mod_readNumber_33 : decode b_Mod_readNumber 33 = .ok (.istore_n 2, 1) := by decide +kernel
theorem d_Mod_readNumber_34 : decode b_Mod_readNumber 34 = .ok (.aload_n 0, 1) := by decide +kernel
theorem d_Mod_readNumber_35 : decode b_Mod_readNumber 35 = .ok (.iconst 3, 1) := by decide +kernel
theorem d_Mod_readNumber_36 : decode b_Mod_readNumber 36 = .ok (.invokevirtual 123, 3) := by decide +kernel
theorem d_Mod_readNumber_39 : decode b_Mod_readNumber 39 = .ok (.istore_n 3, 1) := by decide +kernel
theorem d_Mod_readNumber_40 : decode b_Mod_readNumber 40 = .ok (.iload_n 1, 1) := by decide +kernel
theorem d_Mod_readNumber_41 : decode b_Mod_readNumber 41 = .ok (.aload_n 0, 1) := by decide +kernel
theorem d_Mod_readNumber_42 : decode b_Mod_readNumber 42 = .ok (.getfield 91, 3) := by decide +kernel
theorem d_Mod_readNumber_45 : decode b_Mod_readNumber 45 = .ok (.iload_n 2, 1) := by decide +kernel
theorem d_Mod_readNumber_46 : decode b_Mod_readNumber 46 = .ok (.isub, 1) := by decide +kernel
theorem d_Mod_readNumber_47 : decode b_Mod_readNumber 47 = .ok (.iconst 1, 1) := by decide +kernel
theorem d_Mod_readNumber_48 : decode b_Mod_readNumber 48 = .ok (.if_icmp .ne 10, 3) := by decide +kernel
theorem d_Mod_readNumber_51 : decode b_Mod_readNumber 51 = .ok (.bipush 100, 2) := by decide +kernel
theorem d_Mod_readNumber_53 : decode b_Mod_readNumber 53 = .ok (.iload_n 3, 1) := by decide +kernel
theorem d_Mod_readNumber_54 : decode b_Mod_readNumber 54 = .ok (.imul, 1) := by decide +kernel
theorem d_Mod_readNumber_55 : decode b_Mod_readNumber 55 = .ok (.goto 21, 3) := by decide +kernel
theorem d_Mod_readNumber_58 : decode b_Mod_readNumber 58 = .ok (.aload_n 0, 1) := by decide +kernel
theorem d_Mod_readNumber_59 : decode b_Mod_readNumber 59 = .ok (.getfield 91, 3) := by decide +kernel
theorem d_Mod_readNumber_62 : decode b_Mod_readNumber 62 = .ok (.iload_n 2, 1) := by decide +kernel
theorem d_Mod_readNumber_63 : decode b_Mod_readNumber 63 = .ok (.isub, 1) := by decide +kernel
theorem d_Mod_readNumber_64 : decode b_Mod_readNumber 64 = .ok (.iconst 2, 1) := by decide +kernel
theorem d_Mod_readNumber_65 : decode b_Mod_readNumber 65 = .ok (.if_icmp .ne 10, 3) := by decide +kernel
theorem d_Mod_readNumber_68 : decode b_Mod_readNumber 68 = .ok (.bipush 10, 2) := by decide +kernel
theorem d_Mod_readNumber_70 : decode b_Mod_readNumber 70 = .ok (.iload_n 3, 1) := by decide +kernel
theorem d_Mod_readNumber_71 : decode b_Mod_readNumber 71 = .ok (.imul, 1) := by decide +kernel
theorem d_Mod_readNumber_72 : decode b_Mod_readNumber 72 = .ok (.goto 4, 3) := by decide +kernel
theorem d_Mod_readNumber_75 : decode b_Mod_readNumber 75 = .ok (.iload_n 3, 1) := by decide +kernel
theorem d_Mod_readNumber_76 : decode b_Mod_readNumber 76 = .ok (.iadd, 1) := by decide +kernel
theorem d_Mod_readNumber_77 : decode b_Mod_readNumber 77 = .ok (.istore_n 1, 1) := by decide +kernel
theorem d_Mod_readNumber_78 : decode b_Mod_readNumber 78 = .ok (.aload_n 0, 1) := by decide +kernel
theorem d_Mod_readNumber_79 : decode b_Mod_readNumber 79 = .ok (.iconst 1, 1) := by decide +kernel
theorem d_Mod_readNumber_80 : decode b_Mod_readNumber 80 = .ok (.iload_n 1, 1) := by decide +kernel
theorem d_Mod_readNumber_81 : decode b_Mod_readNumber 81 = .ok (.invokevirtual 100, 3) := by decide +kernel
theorem d_Mod_readNumber_84 : decode b_Mod_readNumber 84 = .ok (.aload_n 0, 1) := by decide +kernel
theorem d_Mod_readNumber_85 : decode b_Mod_readNumber 85 = .ok (.invokevirtual 127, 3) := by decide +kernel
theorem d_Mod_readNumber_88 : decode b_Mod_readNumber 88 = .ok (.return_, 1) := by decide +kernel
theorem d_Mod_unit_0 : decode b_Mod_unit 0 = .ok (.aload_n 0, 1) := by decide +kernel
theorem d_Mod_unit_1 : decode b_Mod_unit 1 = .ok (.iconst 0, 1) := by decide +kernel
theorem d_Mod_unit_2 : decode b_Mod_unit 2 = .ok (.putfield 84, 3) := by decide +kernel
theorem d_Mod_unit_5 : decode b_Mod_unit 5 = .ok (.aload_n 0, 1) := by decide +kernel
theorem d_Mod_unit_6 : decode b_Mod_unit 6 = .ok (.getfield 88, 3) := by decide +kernel
theorem d_Mod_unit_9 : decode b_Mod_unit 9 = .ok (.sipush 400, 3) := by decide +kernel
theorem d_Mod_unit_12 : decode b_Mod_unit 12 = .ok (.if_icmp .ge 19, 3) := by decide +kernel
theorem d_Mod_unit_15 : decode b_Mod_unit 15 = .ok (.iload_n 1, 1) := by decide +kernel
theorem d_Mod_unit_16 : decode b_Mod_unit 16 = .ok (.bipush 33, 2) := by decide +kernel
theorem d_Mod_unit_18 : decode b_Mod_unit 18 = .ok (.if_icmp .lt 13, 3) := by decide +kernel
theorem d_Mod_unit_21 : decode b_Mod_unit 21 = .ok (.iload_n 1, 1) := by decide +kernel
theorem d_Mod_unit_22 : decode b_Mod_unit 22 = .ok (.bipush 126, 2) := by decide +kernel
theorem d_Mod_unit_24 : decode b_Mod_unit 24 = .ok (.if_icmp .gt 7, 3) := by decide +kernel
theorem d_Mod_unit_27 : decode b_Mod_unit 27 = .ok (.iconst 1, 1) := by decide +kernel
theorem d_Mod_unit_28 : decode b_Mod_unit 28 = .ok (.goto 4, 3) := by decide +kernel
theorem d_Mod_unit_31 : decode b_Mod_unit 31 = .ok (.iconst 0, 1) := by decide +kernel
theorem d_Mod_unit_32 : decode b_Mod_unit 32 = .ok (.istore_n 2, 1) := by decide +kernel
theorem d_Mod_unit_33 : decode b_Mod_unit 33 = .ok (.iload_n 2, 1) := by decide +kernel
theorem d_Mod_unit_34 : decode b_Mod_unit 34 = .ok (.ifCond .eq 23, 3) := by decide +kernel
theorem d_Mod_unit_37 : decode b_Mod_unit 37 = .ok (.aload_n 0, 1) := by decide +kernel
theorem d_Mod_unit_38 : decode b_Mod_unit 38 = .ok (.getfield 7, 3) := by decide +kernel
theorem d_Mod_unit_41 : decode b_Mod_unit 41 = .ok (.aload_n 0, 1) := by decide +kernel
theorem d_Mod_unit_42 : decode b_Mod_unit 42 = .ok (.getfield 88, 3) := by decide +kernel
theorem d_Mod_unit_45 : decode b_Mod_unit 45 = .ok (.iload_n 1, 1) := by decide +kernel
theorem d_Mod_unit_46 : decode b_Mod_unit 46 = .ok (.iastore, 1) := by decide +kernel
theorem d_Mod_unit_47 : decode b_Mod_unit 47 = .ok (.aload_n 0, 1) := by decide +kernel
theorem d_Mod_unit_48 : decode b_Mod_unit 48 = .ok (.dup, 1) := by decide +kernel
theorem d_Mod_unit_49 : decode b_Mod_unit 49 = .ok (.getfield 88, 3) := by decide +kernel
theorem d_Mod_unit_52 : decode b_Mod_unit 52 = .ok (.iconst 1, 1) := by decide +kernel
theorem d_Mod_unit_53 : decode b_Mod_unit 53 = .ok (.iadd, 1) := by decide +kernel
theorem d_Mod_unit_54 : decode b_Mod_unit 54 = .ok (.putfield 88, 3) := by decide +kernel
theorem d_Mod_unit_57 : decode b_Mod_unit 57 = .ok (.iload_n 2, 1) := by decide +kernel
theorem d_Mod_unit_58 : decode b_Mod_unit 58 = .ok (.ireturn, 1) := by decide +kernel
def F_Mod_unit_32  (x1 : Int32) (y0 : Int32) (o0 : Ob) : Option (Bool × Ob) :=
  if y0 = 0 then (chk (isB y0) (some ((decide (¬ y0 = 0)), o0))) else (chk (inb (g32 o0 2 0) 400) (chk (isB y0) (some ((decide (¬ y0 = 0)), (s32 (s32 o0 1 (Int32.toNatClampNeg (g32 o0 2 0)) x1) 2 0 ((g32 o0 2 0) + (1 : Int32)))))))
def F_Mod_unit (x1 : Int32) (o0 : Ob) : Option (Bool × Ob) :=
  if (400 : Int32) ≤ (g32 o0 2 0) then (F_Mod_unit_32 x1 (0 : Int32) (s32 o0 0 0 (0 : Int32))) else (if x1 < (33 : Int32) then (F_Mod_unit_32 x1 (0 : Int32) (s32 o0 0 0 (0 : Int32))) else (if (126 : Int32) < x1 then (F_Mod_unit_32 x1 (0 : Int32) (s32 o0 0 0 (0 : Int32))) else (F_Mod_unit_32 x1 (1 : Int32) (s32 o0 0 0 (0 : Int32)))))
abbrev ws_Mod_unit : List Cond := Cond.code y_Mod_unit b_Mod_unit 3 (some .boolean) :: wsAll
abbrev rm_Mod_unit : Room := { frames := 0, cells := 0, slots := 0, locals := 0 }
set_option maxHeartbeats 4000000 in
set_option maxRecDepth 100000 in
theorem k_Mod_unit_32 {p : Program} {l : Launch} {e : Env} {s : State} {m : MethodId} {args : Array Value} {below : List Frame} {meth : Method} {c : Code} {A : Nat → Prop} {ct dC : Nat → ClassId} {dI : Nat → Nat → Nat} {a0 : Nat → Nat}  {r : Bool} {n0 : Ob}   (C0 : cx wsAll vwCl nx p s m args meth c (dC, dI) (tyA ct) b_Mod_unit 3 (some .boolean) R_Mod A [adMod a0])  : ∀ (x1 : Int32) (y0 : Int32) (o0 : Ob) (H : Heap) (locs : List Loc) (ls : Array Slot), bw_P (dC, dI) vwCl [wMod ct a0 o0] H → va_S A s.heap H locs → lv_has ls 3 [(0, .ref (a0 0)), (1, .int x1)] → F_Mod_unit_32 x1 y0 o0 = some (r, n0) → W p l e (headSpec ws_Mod_unit rm_Mod_unit).room s m args below meth c H locs 0 0 (MQ below (bw_Q (dC, dI) vwCl (some (.int (b2i r))) [wMod ct a0 n0] A) args s 0 0 A) (F0 m 32 ls [.int y0]) := by
  obtain ⟨hx, hb, hr, hml, hown, hlocks, hts, hK, hN, hA, hnx⟩ := id C0
  intro x1 y0 o0 H locs ls hP hS hl h
  rw [F_Mod_unit_32] at h
  refine lv_istore_n (lv' := [(2, .int y0), (0, .ref (a0 0)), (1, .int x1)]) hx hb d_Mod_unit_32 rfl hl (by decide) rfl (fun ls hl => ?_)
  refine lv_iload_n hx hb d_Mod_unit_33 rfl (lv_at hl 0 rfl) ?_
  refine lv_if_eq (tgt := 57) hx hb d_Mod_unit_34 (by decide) (fun c4 => ?_) (fun c4 => ?_)
  · have h := ite_t c4 h
    refine lv_iload_n hx hb d_Mod_unit_57 rfl (lv_at hl 0 rfl) ?_
    obtain ⟨hb5, h⟩ := chk_some h
    rw [isB_of hb5]
    obtain ⟨rfl, rfl⟩ := res2 h
    exact W.zret hx hb hr (b2i_nar _) (fun t ht hW => ⟨rfl, by rw [ht]; exact hP, hS.F ht⟩) hS.2.2 d_Mod_unit_58
  · have h := ite_f c4 h
    refine lv_aload_n hx hb d_Mod_unit_37 rfl (lv_at hl 1 rfl) ?_
    refine va_get (D := (dC, dI)) (ci := 6) (v := .ref (a0 1)) (C := R_Mod) (T := T_Mod) (N := 36) hx hb hts in_Mod hown hK (hP 0 _ rfl) 0 rfl rfl 1 (by decide) (hts _ fl_Mod_7) (fun _ h9 => h9) rfl d_Mod_unit_38 ?_
    refine lv_aload_n hx hb d_Mod_unit_41 rfl (lv_at hl 1 rfl) ?_
    refine va_get (D := (dC, dI)) (ci := 6) (v := .int (g32 o0 2 0)) (C := R_Mod) (T := T_Mod) (N := 36) hx hb hts in_Mod hown hK (hP 0 _ rfl) 0 rfl rfl 2 (by decide) (hts _ fl_Mod_88) (fun _ h9 => h9) rfl d_Mod_unit_42 ?_
    refine lv_iload_n hx hb d_Mod_unit_45 rfl (lv_at hl 2 rfl) ?_
    obtain ⟨hi6, h⟩ := chk_some h
    refine st_Mod_1 hx hb hK hP hN hS 0 rfl (inb_in hi6) d_Mod_unit_46 (fun H locs hP hS => ?_)
    have hP : bw_P (dC, dI) vwCl [wMod ct a0 (s32 o0 1 (Int32.toNatClampNeg (g32 o0 2 0)) x1)] H := hP
    refine lv_aload_n hx hb d_Mod_unit_47 rfl (lv_at hl 1 rfl) ?_
    refine lv_dup hx hb d_Mod_unit_48 rfl ?_
    refine va_get (D := (dC, dI)) (ci := 6) (v := .int (g32 o0 2 0)) (C := R_Mod) (T := T_Mod) (N := 36) hx hb hts in_Mod hown hK (hP 0 _ rfl) 0 rfl rfl 2 (by decide) (hts _ fl_Mod_88) (fun _ h9 => h9) rfl d_Mod_unit_49 ?_
    refine lv_iconst (v := 1) hx hb d_Mod_unit_52 (by decide) ?_
    refine lv_iadd hx hb d_Mod_unit_53 ?_
    refine pt_Mod_2 hx hb hts hown hK hP hN hS 0 rfl (hts _ fl_Mod_88) d_Mod_unit_54 (fun H locs hP hS => ?_)
    have hP : bw_P (dC, dI) vwCl [wMod ct a0 (s32 (s32 o0 1 (Int32.toNatClampNeg (g32 o0 2 0)) x1) 2 0 ((g32 o0 2 0) + (1 : Int32)))] H := hP
    refine lv_iload_n hx hb d_Mod_unit_57 rfl (lv_at hl 0 rfl) ?_
    obtain ⟨hb7, h⟩ := chk_some h
    rw [isB_of hb7]
    obtain ⟨rfl, rfl⟩ := res2 h
    exact W.zret hx hb hr (b2i_nar _) (fun t ht hW => ⟨rfl, by rw [ht]; exact hP, hS.F ht⟩) hS.2.2 d_Mod_unit_58
set_option maxHeartbeats 4000000 in
set_option maxRecDepth 100000 in
theorem c_Mod_unit (l : Launch) (ct dC : Nat → ClassId) (dI : Nat → Nat → Nat) (a0 : Nat → Nat)  (sz : Nat) (x1 : Int32) (o0 : Ob) (r : Bool) (n0 : Ob) (hF : F_Mod_unit x1 o0 = some (r, n0)) : Met l y_Mod_unit ws_Mod_unit rm_Mod_unit (bw_Pc [.ref (a0 0), .int x1] (dC, dI) vwCl (tyA ct) [wMod ct a0 o0] sz nx) (bw_Q (dC, dI) vwCl (some (.int (b2i r))) [wMod ct a0 n0] (bw_A [adMod a0] sz)) 0 0 (bw_A [adMod a0] sz) := by
  refine Met.ofW (cc := b_Mod_unit) (maxL := 3) (ret := (some .boolean)) (by decide) rfl ?_
  intro p e s m args below meth c s₁ B hml hv
  obtain ⟨rfl, hsz, hP, hK, hN0, hnx⟩ := hv
  have hx := B.exec
  have hb := B.bytes
  have hr := B.returns
  have hts : ∀ w ∈ wsAll, w.before [.ref (a0 0), .int x1].toArray s = true := fun w h9 => atoms_spec (ws := ws_Mod_unit) B.pre w (List.mem_cons_of_mem _ h9)
  have hown : s.vm.findClass R_Mod = some m.cls := findClass_of_methodNamed B.named
  have hlocks := B.notSynchronized
  subst hsz
  have hN : bw_N (bw_A [adMod a0] s.heap.size) [adMod a0] := hN0.self s.heap.size
  generalize hAe : bw_A [adMod a0] s.heap.size = A at hN ⊢
  have hA : ∀ q : Nat, s.heap.size ≤ q → A q := fun q h => by rw [← hAe]; exact Or.inr h
  have hS : va_S A s.heap s.heap [] := va_S.rf
  have hl := lv_entry ([.ref (a0 0), .int x1]) (n := 3) (Nat.le_of_ble_eq_true rfl)
  rw [lg_entry_eq]
  generalize (lg_sl ([.ref (a0 0), .int x1]) ++ List.replicate (3 - (lg_sl ([.ref (a0 0), .int x1])).length) Slot.unset).toArray = ls at hl ⊢
  have hl : lv_has ls 3 [(0, .ref (a0 0)), (1, .int x1)] := hl
  have C0 : cx wsAll vwCl nx p s m [.ref (a0 0), .int x1].toArray meth c (dC, dI) (tyA ct) b_Mod_unit 3 (some .boolean) R_Mod A [adMod a0] := ⟨hx, hb, hr, hml, hown, hlocks, hts, hK, hN, hA, hnx⟩
  have h := hF
  rw [F_Mod_unit] at h
  refine lv_aload_n hx hb d_Mod_unit_0 rfl (lv_at hl 0 rfl) ?_
  refine lv_iconst (v := 0) hx hb d_Mod_unit_1 (by decide) ?_
  refine pt_Mod_0 hx hb hts hown hK hP hN hS 0 rfl (hts _ fl_Mod_84) d_Mod_unit_2 (fun H locs hP hS => ?_)
  have hP : bw_P (dC, dI) vwCl [wMod ct a0 (s32 o0 0 0 (0 : Int32))] H := hP
  refine lv_aload_n hx hb d_Mod_unit_5 rfl (lv_at hl 0 rfl) ?_
  refine va_get (D := (dC, dI)) (ci := 6) (v := .int (g32 o0 2 0)) (C := R_Mod) (T := T_Mod) (N := 36) hx hb hts in_Mod hown hK (hP 0 _ rfl) 0 rfl rfl 2 (by decide) (hts _ fl_Mod_88) (fun _ h9 => h9) rfl d_Mod_unit_6 ?_
  refine lv_sipush (v := 400) hx hb d_Mod_unit_9 (by decide) ?_
  refine lv_icmp_ge (tgt := 31) hx hb d_Mod_unit_12 (by decide) (fun c1 => ?_) (fun c1 => ?_)
  · have h := ite_t c1 h
    refine lv_iconst (v := 0) hx hb d_Mod_unit_31 (by decide) ?_
    exact k_Mod_unit_32 C0 x1 (0 : Int32) (s32 o0 0 0 (0 : Int32)) _ _ _ hP hS (lv_sub hl [0, 1] rfl) h
  · have h := ite_f c1 h
    refine lv_iload_n hx hb d_Mod_unit_15 rfl (lv_at hl 1 rfl) ?_
    refine lv_bipush (v := 33) hx hb d_Mod_unit_16 (by decide) ?_
    refine lv_icmp_lt (tgt := 31) hx hb d_Mod_unit_18 (by decide) (fun c2 => ?_) (fun c2 => ?_)
    · have h := ite_t c2 h
      refine lv_iconst (v := 0) hx hb d_Mod_unit_31 (by decide) ?_
      exact k_Mod_unit_32 C0 x1 (0 : Int32) (s32 o0 0 0 (0 : Int32)) _ _ _ hP hS (lv_sub hl [0, 1] rfl) h
    · have h := ite_f c2 h
      refine lv_iload_n hx hb d_Mod_unit_21 rfl (lv_at hl 1 rfl) ?_
      refine lv_bipush (v := 126) hx hb d_Mod_unit_22 (by decide) ?_
      refine lv_icmp_gt (tgt := 31) hx hb d_Mod_unit_24 (by decide) (fun c3 => ?_) (fun c3 => ?_)
      · have h := ite_t c3 h
        refine lv_iconst (v := 0) hx hb d_Mod_unit_31 (by decide) ?_
        exact k_Mod_unit_32 C0 x1 (0 : Int32) (s32 o0 0 0 (0 : Int32)) _ _ _ hP hS (lv_sub hl [0, 1] rfl) h
      · have h := ite_f c3 h
        refine lv_iconst (v := 1) hx hb d_Mod_unit_27 (by decide) ?_
        refine lv_goto (tgt := 32) hx hb d_Mod_unit_28 (by decide) ?_
        exact k_Mod_unit_32 C0 x1 (1 : Int32) (s32 o0 0 0 (0 : Int32)) _ _ _ hP hS (lv_sub hl [0, 1] rfl) h
def F_Mod_here  (o0 : Ob) : Option (Int32) :=
  if (g32 o0 2 0) ≤ (g32 o0 3 0) then (some (-1 : Int32)) else (chk (inb (g32 o0 3 0) 400) (some (g32 o0 1 (Int32.toNatClampNeg (g32 o0 3 0)))))
abbrev ws_Mod_here : List Cond := Cond.code y_Mod_here b_Mod_here 1 (some .int) :: wsAll
abbrev rm_Mod_here : Room := { frames := 0, cells := 0, slots := 0, locals := 0 }
set_option maxHeartbeats 4000000 in
set_option maxRecDepth 100000 in
theorem c_Mod_here (l : Launch) (ct dC : Nat → ClassId) (dI : Nat → Nat → Nat) (a0 : Nat → Nat)  (sz : Nat)  (o0 : Ob) (r : Int32) (hF : F_Mod_here o0 = some r) : Met l y_Mod_here ws_Mod_here rm_Mod_here (bw_Pc [.ref (a0 0)] (dC, dI) vwCl (tyA ct) [wMod ct a0 o0] sz nx) (bw_QR (some (.int r))) 0 0 (fun _ => False) := by
  refine Met.ofW (cc := b_Mod_here) (maxL := 1) (ret := (some .int)) (by decide) rfl ?_
  intro p e s m args below meth c s₁ B hml hv
  obtain ⟨rfl, hsz, hP, hK, hN0, hnx⟩ := hv
  have hx := B.exec
  have hb := B.bytes
  have hr := B.returns
  have hts : ∀ w ∈ wsAll, w.before [.ref (a0 0)].toArray s = true := fun w h9 => atoms_spec (ws := ws_Mod_here) B.pre w (List.mem_cons_of_mem _ h9)
  have hown : s.vm.findClass R_Mod = some m.cls := findClass_of_methodNamed B.named
  have hlocks := B.notSynchronized
  subst hsz
  have hN : bw_N (fun _ => True) [adMod a0] := hN0
  generalize hAe : (fun _ : Nat => True) = A at hN
  have hA : ∀ q : Nat, s.heap.size ≤ q → A q := fun q _ => by rw [← hAe]; trivial
  have hS : s.heap = s.heap ∧ ([] : List Loc) = [] := ⟨rfl, rfl⟩
  have hl := lv_entry ([.ref (a0 0)]) (n := 1) (Nat.le_of_ble_eq_true rfl)
  rw [lg_entry_eq]
  generalize (lg_sl ([.ref (a0 0)]) ++ List.replicate (1 - (lg_sl ([.ref (a0 0)])).length) Slot.unset).toArray = ls at hl ⊢
  have hl : lv_has ls 1 [(0, .ref (a0 0))] := hl
  have C0 : cx wsAll vwCl nx p s m [.ref (a0 0)].toArray meth c (dC, dI) (tyA ct) b_Mod_here 1 (some .int) R_Mod A [adMod a0] := ⟨hx, hb, hr, hml, hown, hlocks, hts, hK, hN, hA, hnx⟩
  have h := hF
  rw [F_Mod_here] at h
  refine lv_aload_n hx hb d_Mod_here_0 rfl (lv_at hl 0 rfl) ?_
  refine va_get (D := (dC, dI)) (ci := 6) (v := .int (g32 o0 3 0)) (C := R_Mod) (T := T_Mod) (N := 36) hx hb hts in_Mod hown hK (hP 0 _ rfl) 0 rfl rfl 3 (by decide) (hts _ fl_Mod_91) (fun _ h9 => h9) rfl d_Mod_here_1 ?_
  refine lv_aload_n hx hb d_Mod_here_4 rfl (lv_at hl 0 rfl) ?_
  refine va_get (D := (dC, dI)) (ci := 6) (v := .int (g32 o0 2 0)) (C := R_Mod) (T := T_Mod) (N := 36) hx hb hts in_Mod hown hK (hP 0 _ rfl) 0 rfl rfl 2 (by decide) (hts _ fl_Mod_88) (fun _ h9 => h9) rfl d_Mod_here_5 ?_
  refine lv_icmp_ge (tgt := 23) hx hb d_Mod_here_8 (by decide) (fun c1 => ?_) (fun c1 => ?_)
  · have h := ite_t c1 h
    refine lv_iconst (v := -1) hx hb d_Mod_here_23 (by decide) ?_
    obtain rfl := res1 h
    exact W.iret hx hb hr (fun t ht hW => ⟨rfl, ht.trans hS.1⟩) (bw_nil hS.2) d_Mod_here_24
  · have h := ite_f c1 h
    refine lv_aload_n hx hb d_Mod_here_11 rfl (lv_at hl 0 rfl) ?_
    refine va_get (D := (dC, dI)) (ci := 6) (v := .ref (a0 1)) (C := R_Mod) (T := T_Mod) (N := 36) hx hb hts in_Mod hown hK (hP 0 _ rfl) 0 rfl rfl 1 (by decide) (hts _ fl_Mod_7) (fun _ h9 => h9) rfl d_Mod_here_12 ?_
    refine lv_aload_n hx hb d_Mod_here_15 rfl (lv_at hl 0 rfl) ?_
    refine va_get (D := (dC, dI)) (ci := 6) (v := .int (g32 o0 3 0)) (C := R_Mod) (T := T_Mod) (N := 36) hx hb hts in_Mod hown hK (hP 0 _ rfl) 0 rfl rfl 3 (by decide) (hts _ fl_Mod_91) (fun _ h9 => h9) rfl d_Mod_here_16 ?_
    obtain ⟨hi2, h⟩ := chk_some h
    refine va_iald (f := g32 o0 1) hx hb hK (hP 0 _ rfl) 1 0 rfl rfl (inb_in hi2) d_Mod_here_19 ?_
    refine lv_goto (tgt := 24) hx hb d_Mod_here_20 (by decide) ?_
    obtain rfl := res1 h
    exact W.iret hx hb hr (fun t ht hW => ⟨rfl, ht.trans hS.1⟩) (bw_nil hS.2) d_Mod_here_24
def F_Mod_failAt (x1 : Int32) (o0 : Ob) : Option (Ob) :=
  if 0 ≤ (g32 o0 4 0) then (some (s32 o0 4 0 (g32 o0 4 0))) else (some (s32 o0 4 0 x1))
abbrev ws_Mod_failAt : List Cond := Cond.code y_Mod_failAt b_Mod_failAt 2 (none : Option Jvm.ClassFile.FieldType) :: wsAll
abbrev rm_Mod_failAt : Room := { frames := 0, cells := 0, slots := 0, locals := 0 }
set_option maxHeartbeats 4000000 in
set_option maxRecDepth 100000 in
theorem c_Mod_failAt (l : Launch) (ct dC : Nat → ClassId) (dI : Nat → Nat → Nat) (a0 : Nat → Nat)  (sz : Nat) (x1 : Int32) (o0 : Ob) (n0 : Ob) (hF : F_Mod_failAt x1 o0 = some n0) : Met l y_Mod_failAt ws_Mod_failAt rm_Mod_failAt (bw_Pc [.ref (a0 0), .int x1] (dC, dI) vwCl (tyA ct) [wMod ct a0 o0] sz nx) (bw_Q (dC, dI) vwCl none [wMod ct a0 n0] (bw_A [adMod a0] sz)) 0 0 (bw_A [adMod a0] sz) := by
  refine Met.ofW (cc := b_Mod_failAt) (maxL := 2) (ret := (none : Option Jvm.ClassFile.FieldType)) (by decide) rfl ?_
  intro p e s m args below meth c s₁ B hml hv
  obtain ⟨rfl, hsz, hP, hK, hN0, hnx⟩ := hv
  have hx := B.exec
  have hb := B.bytes
  have hr := B.returns
  have hts : ∀ w ∈ wsAll, w.before [.ref (a0 0), .int x1].toArray s = true := fun w h9 => atoms_spec (ws := ws_Mod_failAt) B.pre w (List.mem_cons_of_mem _ h9)
  have hown : s.vm.findClass R_Mod = some m.cls := findClass_of_methodNamed B.named
  have hlocks := B.notSynchronized
  subst hsz
  have hN : bw_N (bw_A [adMod a0] s.heap.size) [adMod a0] := hN0.self s.heap.size
  generalize hAe : bw_A [adMod a0] s.heap.size = A at hN ⊢
  have hA : ∀ q : Nat, s.heap.size ≤ q → A q := fun q h => by rw [← hAe]; exact Or.inr h
  have hS : va_S A s.heap s.heap [] := va_S.rf
  have hl := lv_entry ([.ref (a0 0), .int x1]) (n := 2) (Nat.le_of_ble_eq_true rfl)
  rw [lg_entry_eq]
  generalize (lg_sl ([.ref (a0 0), .int x1]) ++ List.replicate (2 - (lg_sl ([.ref (a0 0), .int x1])).length) Slot.unset).toArray = ls at hl ⊢
  have hl : lv_has ls 2 [(0, .ref (a0 0)), (1, .int x1)] := hl
  have C0 : cx wsAll vwCl nx p s m [.ref (a0 0), .int x1].toArray meth c (dC, dI) (tyA ct) b_Mod_failAt 2 (none : Option Jvm.ClassFile.FieldType) R_Mod A [adMod a0] := ⟨hx, hb, hr, hml, hown, hlocks, hts, hK, hN, hA, hnx⟩
  have h := hF
  rw [F_Mod_failAt] at h
  refine lv_aload_n hx hb d_Mod_failAt_0 rfl (lv_at hl 0 rfl) ?_
  refine lv_aload_n hx hb d_Mod_failAt_1 rfl (lv_at hl 0 rfl) ?_
  refine va_get (D := (dC, dI)) (ci := 6) (v := .int (g32 o0 4 0)) (C := R_Mod) (T := T_Mod) (N := 36) hx hb hts in_Mod hown hK (hP 0 _ rfl) 0 rfl rfl 4 (by decide) (hts _ fl_Mod_94) (fun _ h9 => h9) rfl d_Mod_failAt_2 ?_
  refine lv_if_ge (tgt := 12) hx hb d_Mod_failAt_5 (by decide) (fun c1 => ?_) (fun c1 => ?_)
  · have h := ite_t c1 h
    refine lv_aload_n hx hb d_Mod_failAt_12 rfl (lv_at hl 0 rfl) ?_
    refine va_get (D := (dC, dI)) (ci := 6) (v := .int (g32 o0 4 0)) (C := R_Mod) (T := T_Mod) (N := 36) hx hb hts in_Mod hown hK (hP 0 _ rfl) 0 rfl rfl 4 (by decide) (hts _ fl_Mod_94) (fun _ h9 => h9) rfl d_Mod_failAt_13 ?_
    refine pt_Mod_4 hx hb hts hown hK hP hN hS 0 rfl (hts _ fl_Mod_94) d_Mod_failAt_16 (fun H locs hP hS => ?_)
    have hP : bw_P (dC, dI) vwCl [wMod ct a0 (s32 o0 4 0 (g32 o0 4 0))] H := hP
    obtain rfl := res1 h
    exact W.vret hx hb hr (fun t ht hW => ⟨rfl, by rw [ht]; exact hP, hS.F ht⟩) hS.2.2 d_Mod_failAt_19
  · have h := ite_f c1 h
    refine lv_iload_n hx hb d_Mod_failAt_8 rfl (lv_at hl 1 rfl) ?_
    refine lv_goto (tgt := 16) hx hb d_Mod_failAt_9 (by decide) ?_
    refine pt_Mod_4 hx hb hts hown hK hP hN hS 0 rfl (hts _ fl_Mod_94) d_Mod_failAt_16 (fun H locs hP hS => ?_)
    have hP : bw_P (dC, dI) vwCl [wMod ct a0 (s32 o0 4 0 x1)] H := hP
    obtain rfl := res1 h
    exact W.vret hx hb hr (fun t ht hW => ⟨rfl, by rw [ht]; exact hP, hS.F ht⟩) hS.2.2 d_Mod_failAt_19
def F_Mod_isDigit (x0 : Int32)  : Option (Bool) :=
  if x0 < (48 : Int32) then (some false) else (if (57 : Int32) < x0 then (some false) else (some true))
abbrev ws_Mod_isDigit : List Cond := Cond.code y_Mod_isDigit b_Mod_isDigit 1 (some .boolean) :: wsAll
abbrev rm_Mod_isDigit : Room := { frames := 0, cells := 0, slots := 0, locals := 0 }
set_option maxHeartbeats 4000000 in
set_option maxRecDepth 100000 in
theorem c_Mod_isDigit (l : Launch) (ct dC : Nat → ClassId) (dI : Nat → Nat → Nat)   (sz : Nat) (x0 : Int32)  (r : Bool) (hF : F_Mod_isDigit x0 = some r) : Met l y_Mod_isDigit ws_Mod_isDigit rm_Mod_isDigit (bw_Pc [.int x0] (dC, dI) vwCl (tyA ct) [] sz nx) (bw_QR (some (.int (b2i r)))) 0 0 (fun _ => False) := by
  refine Met.ofW (cc := b_Mod_isDigit) (maxL := 1) (ret := (some .boolean)) (by decide) rfl ?_
  intro p e s m args below meth c s₁ B hml hv
  obtain ⟨rfl, hsz, hP, hK, hN0, hnx⟩ := hv
  have hx := B.exec
  have hb := B.bytes
  have hr := B.returns
  have hts : ∀ w ∈ wsAll, w.before [.int x0].toArray s = true := fun w h9 => atoms_spec (ws := ws_Mod_isDigit) B.pre w (List.mem_cons_of_mem _ h9)
  have hown : s.vm.findClass R_Mod = some m.cls := findClass_of_methodNamed B.named
  have hlocks := B.notSynchronized
  subst hsz
  have hN : bw_N (fun _ => True) [] := hN0
  generalize hAe : (fun _ : Nat => True) = A at hN
  have hA : ∀ q : Nat, s.heap.size ≤ q → A q := fun q _ => by rw [← hAe]; trivial
  have hS : s.heap = s.heap ∧ ([] : List Loc) = [] := ⟨rfl, rfl⟩
  have hl := lv_entry ([.int x0]) (n := 1) (Nat.le_of_ble_eq_true rfl)
  rw [lg_entry_eq]
  generalize (lg_sl ([.int x0]) ++ List.replicate (1 - (lg_sl ([.int x0])).length) Slot.unset).toArray = ls at hl ⊢
  have hl : lv_has ls 1 [(0, .int x0)] := hl
  have C0 : cx wsAll vwCl nx p s m [.int x0].toArray meth c (dC, dI) (tyA ct) b_Mod_isDigit 1 (some .boolean) R_Mod A [] := ⟨hx, hb, hr, hml, hown, hlocks, hts, hK, hN, hA, hnx⟩
  have h := hF
  rw [F_Mod_isDigit] at h
  refine lv_iload_n hx hb d_Mod_isDigit_0 rfl (lv_at hl 0 rfl) ?_
  refine lv_bipush (v := 48) hx hb d_Mod_isDigit_1 (by decide) ?_
  refine lv_icmp_lt (tgt := 16) hx hb d_Mod_isDigit_3 (by decide) (fun c1 => ?_) (fun c1 => ?_)
  · have h := ite_t c1 h
    refine lv_iconst (v := 0) hx hb d_Mod_isDigit_16 (by decide) ?_
    obtain rfl := res1 h
    exact W.zret hx hb hr rfl (fun t ht hW => ⟨rfl, ht.trans hS.1⟩) (bw_nil hS.2) d_Mod_isDigit_17
  · have h := ite_f c1 h
    refine lv_iload_n hx hb d_Mod_isDigit_6 rfl (lv_at hl 0 rfl) ?_
    refine lv_bipush (v := 57) hx hb d_Mod_isDigit_7 (by decide) ?_
    refine lv_icmp_gt (tgt := 16) hx hb d_Mod_isDigit_9 (by decide) (fun c2 => ?_) (fun c2 => ?_)
    · have h := ite_t c2 h
      refine lv_iconst (v := 0) hx hb d_Mod_isDigit_16 (by decide) ?_
      obtain rfl := res1 h
      exact W.zret hx hb hr rfl (fun t ht hW => ⟨rfl, ht.trans hS.1⟩) (bw_nil hS.2) d_Mod_isDigit_17
    · have h := ite_f c2 h
      refine lv_iconst (v := 1) hx hb d_Mod_isDigit_12 (by decide) ?_
      refine lv_goto (tgt := 17) hx hb d_Mod_isDigit_13 (by decide) ?_
      obtain rfl := res1 h
      exact W.zret hx hb hr rfl (fun t ht hW => ⟨rfl, ht.trans hS.1⟩) (bw_nil hS.2) d_Mod_isDigit_17
def F_Mod_measureOf (x0 : Int32)  : Option (Int32) :=
  if x0 = 100 then (some (2 : Int32)) else (if x0 = 104 then (some (1 : Int32)) else (if x0 = 119 then (some (0 : Int32)) else (if x0 = 120 then (some (3 : Int32)) else (if x0 = 121 then (some (4 : Int32)) else (if x0 = 122 then (some (5 : Int32)) else (some (-1 : Int32)))))))
abbrev ws_Mod_measureOf : List Cond := Cond.code y_Mod_measureOf b_Mod_measureOf 1 (some .int) :: wsAll
abbrev rm_Mod_measureOf : Room := { frames := 0, cells := 0, slots := 0, locals := 0 }
set_option maxHeartbeats 4000000 in
set_option maxRecDepth 100000 in
theorem c_Mod_measureOf (l : Launch) (ct dC : Nat → ClassId) (dI : Nat → Nat → Nat)   (sz : Nat) (x0 : Int32)  (r : Int32) (hF : F_Mod_measureOf x0 = some r) : Met l y_Mod_measureOf ws_Mod_measureOf rm_Mod_measureOf (bw_Pc [.int x0] (dC, dI) vwCl (tyA ct) [] sz nx) (bw_QR (some (.int r))) 0 0 (fun _ => False) := by
  refine Met.ofW (cc := b_Mod_measureOf) (maxL := 1) (ret := (some .int)) (by decide) rfl ?_
  intro p e s m args below meth c s₁ B hml hv
  obtain ⟨rfl, hsz, hP, hK, hN0, hnx⟩ := hv
  have hx := B.exec
  have hb := B.bytes
  have hr := B.returns
  have hts : ∀ w ∈ wsAll, w.before [.int x0].toArray s = true := fun w h9 => atoms_spec (ws := ws_Mod_measureOf) B.pre w (List.mem_cons_of_mem _ h9)
  have hown : s.vm.findClass R_Mod = some m.cls := findClass_of_methodNamed B.named
  have hlocks := B.notSynchronized
  subst hsz
  have hN : bw_N (fun _ => True) [] := hN0
  generalize hAe : (fun _ : Nat => True) = A at hN
  have hA : ∀ q : Nat, s.heap.size ≤ q → A q := fun q _ => by rw [← hAe]; trivial
  have hS : s.heap = s.heap ∧ ([] : List Loc) = [] := ⟨rfl, rfl⟩
  have hl := lv_entry ([.int x0]) (n := 1) (Nat.le_of_ble_eq_true rfl)
  rw [lg_entry_eq]
  generalize (lg_sl ([.int x0]) ++ List.replicate (1 - (lg_sl ([.int x0])).length) Slot.unset).toArray = ls at hl ⊢
  have hl : lv_has ls 1 [(0, .int x0)] := hl
  have C0 : cx wsAll vwCl nx p s m [.int x0].toArray meth c (dC, dI) (tyA ct) b_Mod_measureOf 1 (some .int) R_Mod A [] := ⟨hx, hb, hr, hml, hown, hlocks, hts, hK, hN, hA, hnx⟩
  have h := hF
  rw [F_Mod_measureOf] at h
  refine lv_iload_n hx hb d_Mod_measureOf_0 rfl (lv_at hl 0 rfl) ?_
  by_cases c1 : x0 = 100
  · have h := ite_t c1 h
    refine lv_lookup (off := 63) (tgt := 64) hx hb d_Mod_measureOf_1 (by decide) (by rw [c1]; rfl) (by decide) ?_
    refine lv_iconst (v := 2) hx hb d_Mod_measureOf_64 (by decide) ?_
    obtain rfl := res1 h
    exact W.iret hx hb hr (fun t ht hW => ⟨rfl, ht.trans hS.1⟩) (bw_nil hS.2) d_Mod_measureOf_65
  · have h := ite_f c1 h
    by_cases c2 : x0 = 104
    · have h := ite_t c2 h
      refine lv_lookup (off := 61) (tgt := 62) hx hb d_Mod_measureOf_1 (by decide) (by rw [c2]; rfl) (by decide) ?_
      refine lv_iconst (v := 1) hx hb d_Mod_measureOf_62 (by decide) ?_
      obtain rfl := res1 h
      exact W.iret hx hb hr (fun t ht hW => ⟨rfl, ht.trans hS.1⟩) (bw_nil hS.2) d_Mod_measureOf_63
    · have h := ite_f c2 h
      by_cases c3 : x0 = 119
      · have h := ite_t c3 h
        refine lv_lookup (off := 59) (tgt := 60) hx hb d_Mod_measureOf_1 (by decide) (by rw [c3]; rfl) (by decide) ?_
        refine lv_iconst (v := 0) hx hb d_Mod_measureOf_60 (by decide) ?_
        obtain rfl := res1 h
        exact W.iret hx hb hr (fun t ht hW => ⟨rfl, ht.trans hS.1⟩) (bw_nil hS.2) d_Mod_measureOf_61
      · have h := ite_f c3 h
        by_cases c4 : x0 = 120
        · have h := ite_t c4 h
          refine lv_lookup (off := 65) (tgt := 66) hx hb d_Mod_measureOf_1 (by decide) (by rw [c4]; rfl) (by decide) ?_
          refine lv_iconst (v := 3) hx hb d_Mod_measureOf_66 (by decide) ?_
          obtain rfl := res1 h
          exact W.iret hx hb hr (fun t ht hW => ⟨rfl, ht.trans hS.1⟩) (bw_nil hS.2) d_Mod_measureOf_67
        · have h := ite_f c4 h
          by_cases c5 : x0 = 121
          · have h := ite_t c5 h
            refine lv_lookup (off := 67) (tgt := 68) hx hb d_Mod_measureOf_1 (by decide) (by rw [c5]; rfl) (by decide) ?_
            refine lv_iconst (v := 4) hx hb d_Mod_measureOf_68 (by decide) ?_
            obtain rfl := res1 h
            exact W.iret hx hb hr (fun t ht hW => ⟨rfl, ht.trans hS.1⟩) (bw_nil hS.2) d_Mod_measureOf_69
          · have h := ite_f c5 h
            by_cases c6 : x0 = 122
            · have h := ite_t c6 h
              refine lv_lookup (off := 69) (tgt := 70) hx hb d_Mod_measureOf_1 (by decide) (by rw [c6]; rfl) (by decide) ?_
              refine lv_iconst (v := 5) hx hb d_Mod_measureOf_70 (by decide) ?_
              obtain rfl := res1 h
              exact W.iret hx hb hr (fun t ht hW => ⟨rfl, ht.trans hS.1⟩) (bw_nil hS.2) d_Mod_measureOf_71
            · have h := ite_f c6 h
              refine lv_lookup (off := 71) (tgt := 72) hx hb d_Mod_measureOf_1 (by decide) (by show Op.lookupswitch.offset [(100, 63), (104, 61), (119, 59), (120, 65), (121, 67), (122, 69)] 71 _ = 71; rw [lv_osw c1 (by decide), lv_osw c2 (by decide), lv_osw c3 (by decide), lv_osw c4 (by decide), lv_osw c5 (by decide), lv_osw c6 (by decide)]; rfl) (by decide) ?_
              refine lv_iconst (v := -1) hx hb d_Mod_measureOf_72 (by decide) ?_
              obtain rfl := res1 h
              exact W.iret hx hb hr (fun t ht hW => ⟨rfl, ht.trans hS.1⟩) (bw_nil hS.2) d_Mod_measureOf_73
def F_Mod_emit (x1 : Int32) (x2 : Int32) (o0 : Ob) : Option (Ob) :=
  chk (inb (1 : Int32) 2) (chk (inb ((500 : Int32) + (g32 o0 7 (Int32.toNatClampNeg (1 : Int32)))) 1000) (some (s32 (s32 (s32 o0 5 (Int32.toNatClampNeg ((500 : Int32) + (g32 o0 7 (Int32.toNatClampNeg (1 : Int32))))) x1) 6 (Int32.toNatClampNeg ((500 : Int32) + (g32 o0 7 (Int32.toNatClampNeg (1 : Int32))))) x2) 7 (Int32.toNatClampNeg (1 : Int32)) ((g32 o0 7 (Int32.toNatClampNeg (1 : Int32))) + (1 : Int32)))))
abbrev ws_Mod_emit : List Cond := Cond.code y_Mod_emit b_Mod_emit 3 (none : Option Jvm.ClassFile.FieldType) :: wsAll
abbrev rm_Mod_emit : Room := { frames := 0, cells := 0, slots := 0, locals := 0 }
set_option maxHeartbeats 4000000 in
set_option maxRecDepth 100000 in
theorem c_Mod_emit (l : Launch) (ct dC : Nat → ClassId) (dI : Nat → Nat → Nat) (a0 : Nat → Nat)  (sz : Nat) (x1 : Int32) (x2 : Int32) (o0 : Ob) (n0 : Ob) (hF : F_Mod_emit x1 x2 o0 = some n0) : Met l y_Mod_emit ws_Mod_emit rm_Mod_emit (bw_Pc [.ref (a0 0), .int x1, .int x2] (dC, dI) vwCl (tyA ct) [wMod ct a0 o0] sz nx) (bw_Q (dC, dI) vwCl none [wMod ct a0 n0] (bw_A [adMod a0] sz)) 0 0 (bw_A [adMod a0] sz) := by
  refine Met.ofW (cc := b_Mod_emit) (maxL := 3) (ret := (none : Option Jvm.ClassFile.FieldType)) (by decide) rfl ?_
  intro p e s m args below meth c s₁ B hml hv
  obtain ⟨rfl, hsz, hP, hK, hN0, hnx⟩ := hv
  have hx := B.exec
  have hb := B.bytes
  have hr := B.returns
  have hts : ∀ w ∈ wsAll, w.before [.ref (a0 0), .int x1, .int x2].toArray s = true := fun w h9 => atoms_spec (ws := ws_Mod_emit) B.pre w (List.mem_cons_of_mem _ h9)
  have hown : s.vm.findClass R_Mod = some m.cls := findClass_of_methodNamed B.named
  have hlocks := B.notSynchronized
  subst hsz
  have hN : bw_N (bw_A [adMod a0] s.heap.size) [adMod a0] := hN0.self s.heap.size
  generalize hAe : bw_A [adMod a0] s.heap.size = A at hN ⊢
  have hA : ∀ q : Nat, s.heap.size ≤ q → A q := fun q h => by rw [← hAe]; exact Or.inr h
  have hS : va_S A s.heap s.heap [] := va_S.rf
  have hl := lv_entry ([.ref (a0 0), .int x1, .int x2]) (n := 3) (Nat.le_of_ble_eq_true rfl)
  rw [lg_entry_eq]
  generalize (lg_sl ([.ref (a0 0), .int x1, .int x2]) ++ List.replicate (3 - (lg_sl ([.ref (a0 0), .int x1, .int x2])).length) Slot.unset).toArray = ls at hl ⊢
  have hl : lv_has ls 3 [(0, .ref (a0 0)), (1, .int x1), (2, .int x2)] := hl
  have C0 : cx wsAll vwCl nx p s m [.ref (a0 0), .int x1, .int x2].toArray meth c (dC, dI) (tyA ct) b_Mod_emit 3 (none : Option Jvm.ClassFile.FieldType) R_Mod A [adMod a0] := ⟨hx, hb, hr, hml, hown, hlocks, hts, hK, hN, hA, hnx⟩
  have h := hF
  rw [F_Mod_emit] at h
  refine lv_aload_n hx hb d_Mod_emit_0 rfl (lv_at hl 0 rfl) ?_
  refine va_get (D := (dC, dI)) (ci := 6) (v := .ref (a0 2)) (C := R_Mod) (T := T_Mod) (N := 36) hx hb hts in_Mod hown hK (hP 0 _ rfl) 0 rfl rfl 5 (by decide) (hts _ fl_Mod_13) (fun _ h9 => h9) rfl d_Mod_emit_1 ?_
  refine lv_sipush (v := 500) hx hb d_Mod_emit_4 (by decide) ?_
  refine lv_aload_n hx hb d_Mod_emit_7 rfl (lv_at hl 0 rfl) ?_
  refine va_get (D := (dC, dI)) (ci := 6) (v := .ref (a0 4)) (C := R_Mod) (T := T_Mod) (N := 36) hx hb hts in_Mod hown hK (hP 0 _ rfl) 0 rfl rfl 7 (by decide) (hts _ fl_Mod_19) (fun _ h9 => h9) rfl d_Mod_emit_8 ?_
  refine lv_iconst (v := 1) hx hb d_Mod_emit_11 (by decide) ?_
  obtain ⟨hi1, h⟩ := chk_some h
  refine va_iald (f := g32 o0 7) hx hb hK (hP 0 _ rfl) 4 0 rfl rfl (inb_in hi1) d_Mod_emit_12 ?_
  refine lv_iadd hx hb d_Mod_emit_13 ?_
  refine lv_iload_n hx hb d_Mod_emit_14 rfl (lv_at hl 1 rfl) ?_
  obtain ⟨hi2, h⟩ := chk_some h
  refine st_Mod_5 hx hb hK hP hN hS 0 rfl (inb_in hi2) d_Mod_emit_15 (fun H locs hP hS => ?_)
  have hP : bw_P (dC, dI) vwCl [wMod ct a0 (s32 o0 5 (Int32.toNatClampNeg ((500 : Int32) + (g32 o0 7 (Int32.toNatClampNeg (1 : Int32))))) x1)] H := hP
  refine lv_aload_n hx hb d_Mod_emit_16 rfl (lv_at hl 0 rfl) ?_
  refine va_get (D := (dC, dI)) (ci := 6) (v := .ref (a0 3)) (C := R_Mod) (T := T_Mod) (N := 36) hx hb hts in_Mod hown hK (hP 0 _ rfl) 0 rfl rfl 6 (by decide) (hts _ fl_Mod_16) (fun _ h9 => h9) rfl d_Mod_emit_17 ?_
  refine lv_sipush (v := 500) hx hb d_Mod_emit_20 (by decide) ?_
  refine lv_aload_n hx hb d_Mod_emit_23 rfl (lv_at hl 0 rfl) ?_
  refine va_get (D := (dC, dI)) (ci := 6) (v := .ref (a0 4)) (C := R_Mod) (T := T_Mod) (N := 36) hx hb hts in_Mod hown hK (hP 0 _ rfl) 0 rfl rfl 7 (by decide) (hts _ fl_Mod_19) (fun _ h9 => h9) rfl d_Mod_emit_24 ?_
  refine lv_iconst (v := 1) hx hb d_Mod_emit_27 (by decide) ?_
  refine va_iald (f := g32 o0 7) hx hb hK (hP 0 _ rfl) 4 0 rfl rfl (inb_in hi1) d_Mod_emit_28 ?_
  refine lv_iadd hx hb d_Mod_emit_29 ?_
  refine lv_iload_n hx hb d_Mod_emit_30 rfl (lv_at hl 2 rfl) ?_
  refine st_Mod_6 hx hb hK hP hN hS 0 rfl (inb_in hi2) d_Mod_emit_31 (fun H locs hP hS => ?_)
  have hP : bw_P (dC, dI) vwCl [wMod ct a0 (s32 (s32 o0 5 (Int32.toNatClampNeg ((500 : Int32) + (g32 o0 7 (Int32.toNatClampNeg (1 : Int32))))) x1) 6 (Int32.toNatClampNeg ((500 : Int32) + (g32 o0 7 (Int32.toNatClampNeg (1 : Int32))))) x2)] H := hP
  refine lv_aload_n hx hb d_Mod_emit_32 rfl (lv_at hl 0 rfl) ?_
  refine va_get (D := (dC, dI)) (ci := 6) (v := .ref (a0 4)) (C := R_Mod) (T := T_Mod) (N := 36) hx hb hts in_Mod hown hK (hP 0 _ rfl) 0 rfl rfl 7 (by decide) (hts _ fl_Mod_19) (fun _ h9 => h9) rfl d_Mod_emit_33 ?_
  refine lv_iconst (v := 1) hx hb d_Mod_emit_36 (by decide) ?_
  refine lv_dup2_11 hx hb d_Mod_emit_37 rfl rfl ?_
  refine va_iald (f := g32 o0 7) hx hb hK (hP 0 _ rfl) 4 0 rfl rfl (inb_in hi1) d_Mod_emit_38 ?_
  refine lv_iconst (v := 1) hx hb d_Mod_emit_39 (by decide) ?_
  refine lv_iadd hx hb d_Mod_emit_40 ?_
  refine st_Mod_7 hx hb hK hP hN hS 0 rfl (inb_in hi1) d_Mod_emit_41 (fun H locs hP hS => ?_)
  have hP : bw_P (dC, dI) vwCl [wMod ct a0 (s32 (s32 (s32 o0 5 (Int32.toNatClampNeg ((500 : Int32) + (g32 o0 7 (Int32.toNatClampNeg (1 : Int32))))) x1) 6 (Int32.toNatClampNeg ((500 : Int32) + (g32 o0 7 (Int32.toNatClampNeg (1 : Int32))))) x2) 7 (Int32.toNatClampNeg (1 : Int32)) ((g32 o0 7 (Int32.toNatClampNeg (1 : Int32))) + (1 : Int32)))] H := hP
  obtain rfl := res1 h
  exact W.vret hx hb hr (fun t ht hW => ⟨rfl, by rw [ht]; exact hP, hS.F ht⟩) hS.2.2 d_Mod_emit_42
def F_Mod_isWaiting (x1 : Int32) (x2 : Int32) (o0 : Ob) : Option (Bool) :=
  if (g32 o0 14 0) ≤ 0 then (some false) else (chk (inb ((g32 o0 14 0) - (1 : Int32)) 420) (if (g32 o0 13 (Int32.toNatClampNeg ((g32 o0 14 0) - (1 : Int32)))) < x1 then (some false) else (if x2 < (g32 o0 13 (Int32.toNatClampNeg ((g32 o0 14 0) - (1 : Int32)))) then (some false) else (some true))))
abbrev ws_Mod_isWaiting : List Cond := Cond.code y_Mod_isWaiting b_Mod_isWaiting 3 (some .boolean) :: wsAll
abbrev rm_Mod_isWaiting : Room := { frames := 0, cells := 0, slots := 0, locals := 0 }
set_option maxHeartbeats 4000000 in
set_option maxRecDepth 100000 in
theorem c_Mod_isWaiting (l : Launch) (ct dC : Nat → ClassId) (dI : Nat → Nat → Nat) (a0 : Nat → Nat)  (sz : Nat) (x1 : Int32) (x2 : Int32) (o0 : Ob) (r : Bool) (hF : F_Mod_isWaiting x1 x2 o0 = some r) : Met l y_Mod_isWaiting ws_Mod_isWaiting rm_Mod_isWaiting (bw_Pc [.ref (a0 0), .int x1, .int x2] (dC, dI) vwCl (tyA ct) [wMod ct a0 o0] sz nx) (bw_QR (some (.int (b2i r)))) 0 0 (fun _ => False) := by
  refine Met.ofW (cc := b_Mod_isWaiting) (maxL := 3) (ret := (some .boolean)) (by decide) rfl ?_
  intro p e s m args below meth c s₁ B hml hv
  obtain ⟨rfl, hsz, hP, hK, hN0, hnx⟩ := hv
  have hx := B.exec
  have hb := B.bytes
  have hr := B.returns
  have hts : ∀ w ∈ wsAll, w.before [.ref (a0 0), .int x1, .int x2].toArray s = true := fun w h9 => atoms_spec (ws := ws_Mod_isWaiting) B.pre w (List.mem_cons_of_mem _ h9)
  have hown : s.vm.findClass R_Mod = some m.cls := findClass_of_methodNamed B.named
  have hlocks := B.notSynchronized
  subst hsz
  have hN : bw_N (fun _ => True) [adMod a0] := hN0
  generalize hAe : (fun _ : Nat => True) = A at hN
  have hA : ∀ q : Nat, s.heap.size ≤ q → A q := fun q _ => by rw [← hAe]; trivial
  have hS : s.heap = s.heap ∧ ([] : List Loc) = [] := ⟨rfl, rfl⟩
  have hl := lv_entry ([.ref (a0 0), .int x1, .int x2]) (n := 3) (Nat.le_of_ble_eq_true rfl)
  rw [lg_entry_eq]
  generalize (lg_sl ([.ref (a0 0), .int x1, .int x2]) ++ List.replicate (3 - (lg_sl ([.ref (a0 0), .int x1, .int x2])).length) Slot.unset).toArray = ls at hl ⊢
  have hl : lv_has ls 3 [(0, .ref (a0 0)), (1, .int x1), (2, .int x2)] := hl
  have C0 : cx wsAll vwCl nx p s m [.ref (a0 0), .int x1, .int x2].toArray meth c (dC, dI) (tyA ct) b_Mod_isWaiting 3 (some .boolean) R_Mod A [adMod a0] := ⟨hx, hb, hr, hml, hown, hlocks, hts, hK, hN, hA, hnx⟩
  have h := hF
  rw [F_Mod_isWaiting] at h
  refine lv_aload_n hx hb d_Mod_isWaiting_0 rfl (lv_at hl 0 rfl) ?_
  refine va_get (D := (dC, dI)) (ci := 6) (v := .int (g32 o0 14 0)) (C := R_Mod) (T := T_Mod) (N := 36) hx hb hts in_Mod hown hK (hP 0 _ rfl) 0 rfl rfl 14 (by decide) (hts _ fl_Mod_97) (fun _ h9 => h9) rfl d_Mod_isWaiting_1 ?_
  refine lv_if_le (tgt := 41) hx hb d_Mod_isWaiting_4 (by decide) (fun c1 => ?_) (fun c1 => ?_)
  · have h := ite_t c1 h
    refine lv_iconst (v := 0) hx hb d_Mod_isWaiting_41 (by decide) ?_
    obtain rfl := res1 h
    exact W.zret hx hb hr rfl (fun t ht hW => ⟨rfl, ht.trans hS.1⟩) (bw_nil hS.2) d_Mod_isWaiting_42
  · have h := ite_f c1 h
    refine lv_aload_n hx hb d_Mod_isWaiting_7 rfl (lv_at hl 0 rfl) ?_
    refine va_get (D := (dC, dI)) (ci := 6) (v := .ref (a0 8)) (C := R_Mod) (T := T_Mod) (N := 36) hx hb hts in_Mod hown hK (hP 0 _ rfl) 0 rfl rfl 13 (by decide) (hts _ fl_Mod_31) (fun _ h9 => h9) rfl d_Mod_isWaiting_8 ?_
    refine lv_aload_n hx hb d_Mod_isWaiting_11 rfl (lv_at hl 0 rfl) ?_
    refine va_get (D := (dC, dI)) (ci := 6) (v := .int (g32 o0 14 0)) (C := R_Mod) (T := T_Mod) (N := 36) hx hb hts in_Mod hown hK (hP 0 _ rfl) 0 rfl rfl 14 (by decide) (hts _ fl_Mod_97) (fun _ h9 => h9) rfl d_Mod_isWaiting_12 ?_
    refine lv_iconst (v := 1) hx hb d_Mod_isWaiting_15 (by decide) ?_
    refine lv_isub hx hb d_Mod_isWaiting_16 ?_
    obtain ⟨hi2, h⟩ := chk_some h
    refine va_iald (f := g32 o0 13) hx hb hK (hP 0 _ rfl) 8 0 rfl rfl (inb_in hi2) d_Mod_isWaiting_17 ?_
    refine lv_iload_n hx hb d_Mod_isWaiting_18 rfl (lv_at hl 1 rfl) ?_
    refine lv_icmp_lt (tgt := 41) hx hb d_Mod_isWaiting_19 (by decide) (fun c3 => ?_) (fun c3 => ?_)
    · have h := ite_t c3 h
      refine lv_iconst (v := 0) hx hb d_Mod_isWaiting_41 (by decide) ?_
      obtain rfl := res1 h
      exact W.zret hx hb hr rfl (fun t ht hW => ⟨rfl, ht.trans hS.1⟩) (bw_nil hS.2) d_Mod_isWaiting_42
    · have h := ite_f c3 h
      refine lv_aload_n hx hb d_Mod_isWaiting_22 rfl (lv_at hl 0 rfl) ?_
      refine va_get (D := (dC, dI)) (ci := 6) (v := .ref (a0 8)) (C := R_Mod) (T := T_Mod) (N := 36) hx hb hts in_Mod hown hK (hP 0 _ rfl) 0 rfl rfl 13 (by decide) (hts _ fl_Mod_31) (fun _ h9 => h9) rfl d_Mod_isWaiting_23 ?_
      refine lv_aload_n hx hb d_Mod_isWaiting_26 rfl (lv_at hl 0 rfl) ?_
      refine va_get (D := (dC, dI)) (ci := 6) (v := .int (g32 o0 14 0)) (C := R_Mod) (T := T_Mod) (N := 36) hx hb hts in_Mod hown hK (hP 0 _ rfl) 0 rfl rfl 14 (by decide) (hts _ fl_Mod_97) (fun _ h9 => h9) rfl d_Mod_isWaiting_27 ?_
      refine lv_iconst (v := 1) hx hb d_Mod_isWaiting_30 (by decide) ?_
      refine lv_isub hx hb d_Mod_isWaiting_31 ?_
      refine va_iald (f := g32 o0 13) hx hb hK (hP 0 _ rfl) 8 0 rfl rfl (inb_in hi2) d_Mod_isWaiting_32 ?_
      refine lv_iload_n hx hb d_Mod_isWaiting_33 rfl (lv_at hl 2 rfl) ?_
      refine lv_icmp_gt (tgt := 41) hx hb d_Mod_isWaiting_34 (by decide) (fun c5 => ?_) (fun c5 => ?_)
      · have h := ite_t c5 h
        refine lv_iconst (v := 0) hx hb d_Mod_isWaiting_41 (by decide) ?_
        obtain rfl := res1 h
        exact W.zret hx hb hr rfl (fun t ht hW => ⟨rfl, ht.trans hS.1⟩) (bw_nil hS.2) d_Mod_isWaiting_42
      · have h := ite_f c5 h
        refine lv_iconst (v := 1) hx hb d_Mod_isWaiting_37 (by decide) ?_
        refine lv_goto (tgt := 42) hx hb d_Mod_isWaiting_38 (by decide) ?_
        obtain rfl := res1 h
        exact W.zret hx hb hr rfl (fun t ht hW => ⟨rfl, ht.trans hS.1⟩) (bw_nil hS.2) d_Mod_isWaiting_42
def F_Mod_push (x1 : Int32) (o0 : Ob) : Option (Ob) :=
  chk (inb (g32 o0 14 0) 420) (some (s32 (s32 (s32 o0 13 (Int32.toNatClampNeg (g32 o0 14 0)) x1) 14 0 ((g32 o0 14 0) + (1 : Int32))) 3 0 ((g32 o0 3 0) + (1 : Int32))))
abbrev ws_Mod_push : List Cond := Cond.code y_Mod_push b_Mod_push 2 (none : Option Jvm.ClassFile.FieldType) :: wsAll
abbrev rm_Mod_push : Room := { frames := 0, cells := 0, slots := 0, locals := 0 }
set_option maxHeartbeats 4000000 in
set_option maxRecDepth 100000 in
theorem c_Mod_push (l : Launch) (ct dC : Nat → ClassId) (dI : Nat → Nat → Nat) (a0 : Nat → Nat)  (sz : Nat) (x1 : Int32) (o0 : Ob) (n0 : Ob) (hF : F_Mod_push x1 o0 = some n0) : Met l y_Mod_push ws_Mod_push rm_Mod_push (bw_Pc [.ref (a0 0), .int x1] (dC, dI) vwCl (tyA ct) [wMod ct a0 o0] sz nx) (bw_Q (dC, dI) vwCl none [wMod ct a0 n0] (bw_A [adMod a0] sz)) 0 0 (bw_A [adMod a0] sz) := by
  refine Met.ofW (cc := b_Mod_push) (maxL := 2) (ret := (none : Option Jvm.ClassFile.FieldType)) (by decide) rfl ?_
  intro p e s m args below meth c s₁ B hml hv
  obtain ⟨rfl, hsz, hP, hK, hN0, hnx⟩ := hv
  have hx := B.exec
  have hb := B.bytes
  have hr := B.returns
  have hts : ∀ w ∈ wsAll, w.before [.ref (a0 0), .int x1].toArray s = true := fun w h9 => atoms_spec (ws := ws_Mod_push) B.pre w (List.mem_cons_of_mem _ h9)
  have hown : s.vm.findClass R_Mod = some m.cls := findClass_of_methodNamed B.named
  have hlocks := B.notSynchronized
  subst hsz
  have hN : bw_N (bw_A [adMod a0] s.heap.size) [adMod a0] := hN0.self s.heap.size
  generalize hAe : bw_A [adMod a0] s.heap.size = A at hN ⊢
  have hA : ∀ q : Nat, s.heap.size ≤ q → A q := fun q h => by rw [← hAe]; exact Or.inr h
  have hS : va_S A s.heap s.heap [] := va_S.rf
  have hl := lv_entry ([.ref (a0 0), .int x1]) (n := 2) (Nat.le_of_ble_eq_true rfl)
  rw [lg_entry_eq]
  generalize (lg_sl ([.ref (a0 0), .int x1]) ++ List.replicate (2 - (lg_sl ([.ref (a0 0), .int x1])).length) Slot.unset).toArray = ls at hl ⊢
  have hl : lv_has ls 2 [(0, .ref (a0 0)), (1, .int x1)] := hl
  have C0 : cx wsAll vwCl nx p s m [.ref (a0 0), .int x1].toArray meth c (dC, dI) (tyA ct) b_Mod_push 2 (none : Option Jvm.ClassFile.FieldType) R_Mod A [adMod a0] := ⟨hx, hb, hr, hml, hown, hlocks, hts, hK, hN, hA, hnx⟩
  have h := hF
  rw [F_Mod_push] at h
  refine lv_aload_n hx hb d_Mod_push_0 rfl (lv_at hl 0 rfl) ?_
  refine va_get (D := (dC, dI)) (ci := 6) (v := .ref (a0 8)) (C := R_Mod) (T := T_Mod) (N := 36) hx hb hts in_Mod hown hK (hP 0 _ rfl) 0 rfl rfl 13 (by decide) (hts _ fl_Mod_31) (fun _ h9 => h9) rfl d_Mod_push_1 ?_
  refine lv_aload_n hx hb d_Mod_push_4 rfl (lv_at hl 0 rfl) ?_
  refine va_get (D := (dC, dI)) (ci := 6) (v := .int (g32 o0 14 0)) (C := R_Mod) (T := T_Mod) (N := 36) hx hb hts in_Mod hown hK (hP 0 _ rfl) 0 rfl rfl 14 (by decide) (hts _ fl_Mod_97) (fun _ h9 => h9) rfl d_Mod_push_5 ?_
  refine lv_iload_n hx hb d_Mod_push_8 rfl (lv_at hl 1 rfl) ?_
  obtain ⟨hi1, h⟩ := chk_some h
  refine st_Mod_13 hx hb hK hP hN hS 0 rfl (inb_in hi1) d_Mod_push_9 (fun H locs hP hS => ?_)
  have hP : bw_P (dC, dI) vwCl [wMod ct a0 (s32 o0 13 (Int32.toNatClampNeg (g32 o0 14 0)) x1)] H := hP
  refine lv_aload_n hx hb d_Mod_push_10 rfl (lv_at hl 0 rfl) ?_
  refine lv_dup hx hb d_Mod_push_11 rfl ?_
  refine va_get (D := (dC, dI)) (ci := 6) (v := .int (g32 o0 14 0)) (C := R_Mod) (T := T_Mod) (N := 36) hx hb hts in_Mod hown hK (hP 0 _ rfl) 0 rfl rfl 14 (by decide) (hts _ fl_Mod_97) (fun _ h9 => h9) rfl d_Mod_push_12 ?_
  refine lv_iconst (v := 1) hx hb d_Mod_push_15 (by decide) ?_
  refine lv_iadd hx hb d_Mod_push_16 ?_
  refine pt_Mod_14 hx hb hts hown hK hP hN hS 0 rfl (hts _ fl_Mod_97) d_Mod_push_17 (fun H locs hP hS => ?_)
  have hP : bw_P (dC, dI) vwCl [wMod ct a0 (s32 (s32 o0 13 (Int32.toNatClampNeg (g32 o0 14 0)) x1) 14 0 ((g32 o0 14 0) + (1 : Int32)))] H := hP
  refine lv_aload_n hx hb d_Mod_push_20 rfl (lv_at hl 0 rfl) ?_
  refine lv_dup hx hb d_Mod_push_21 rfl ?_
  refine va_get (D := (dC, dI)) (ci := 6) (v := .int (g32 o0 3 0)) (C := R_Mod) (T := T_Mod) (N := 36) hx hb hts in_Mod hown hK (hP 0 _ rfl) 0 rfl rfl 3 (by decide) (hts _ fl_Mod_91) (fun _ h9 => h9) rfl d_Mod_push_22 ?_
  refine lv_iconst (v := 1) hx hb d_Mod_push_25 (by decide) ?_
  refine lv_iadd hx hb d_Mod_push_26 ?_
  refine pt_Mod_3 hx hb hts hown hK hP hN hS 0 rfl (hts _ fl_Mod_91) d_Mod_push_27 (fun H locs hP hS => ?_)
  have hP : bw_P (dC, dI) vwCl [wMod ct a0 (s32 (s32 (s32 o0 13 (Int32.toNatClampNeg (g32 o0 14 0)) x1) 14 0 ((g32 o0 14 0) + (1 : Int32))) 3 0 ((g32 o0 3 0) + (1 : Int32)))] H := hP
  obtain rfl := res1 h
  exact W.vret hx hb hr (fun t ht hW => ⟨rfl, by rw [ht]; exact hP, hS.F ht⟩) hS.2.2 d_Mod_push_30
theorem g_Mod_100 : GoodIn wsAll (wsV R_Mod 100 R_Mod y_Mod_emit ws_Mod_emit) := gd_V ml_Mod_100 im_Mod_emit se_Mod_emit ini_Mod cd_Mod_emit
def F_Mod_pop  (o0 : Ob) : Option (Ob) :=
  chk (inb ((g32 o0 14 0) - (1 : Int32)) 420) (bind1 (F_Mod_emit (g32 o0 13 (Int32.toNatClampNeg ((g32 o0 14 0) - (1 : Int32)))) (0 : Int32) (s32 o0 14 0 ((g32 o0 14 0) - (1 : Int32)))) (fun o_3 => some o_3))
abbrev ws_Mod_pop : List Cond := Cond.code y_Mod_pop b_Mod_pop 1 (none : Option Jvm.ClassFile.FieldType) :: wsAll
abbrev rm_Mod_pop : Room := { frames := 1, cells := 0, slots := 0, locals := 22 }
set_option maxHeartbeats 4000000 in
set_option maxRecDepth 100000 in
theorem c_Mod_pop (l : Launch) (ct dC : Nat → ClassId) (dI : Nat → Nat → Nat) (a0 : Nat → Nat)  (sz : Nat)  (o0 : Ob) (n0 : Ob) (hF : F_Mod_pop o0 = some n0) : Met l y_Mod_pop ws_Mod_pop rm_Mod_pop (bw_Pc [.ref (a0 0)] (dC, dI) vwCl (tyA ct) [wMod ct a0 o0] sz nx) (bw_Q (dC, dI) vwCl none [wMod ct a0 n0] (bw_A [adMod a0] sz)) 0 0 (bw_A [adMod a0] sz) := by
  refine Met.ofW (cc := b_Mod_pop) (maxL := 1) (ret := (none : Option Jvm.ClassFile.FieldType)) (by decide) rfl ?_
  intro p e s m args below meth c s₁ B hml hv
  obtain ⟨rfl, hsz, hP, hK, hN0, hnx⟩ := hv
  have hx := B.exec
  have hb := B.bytes
  have hr := B.returns
  have hts : ∀ w ∈ wsAll, w.before [.ref (a0 0)].toArray s = true := fun w h9 => atoms_spec (ws := ws_Mod_pop) B.pre w (List.mem_cons_of_mem _ h9)
  have hown : s.vm.findClass R_Mod = some m.cls := findClass_of_methodNamed B.named
  have hlocks := B.notSynchronized
  subst hsz
  have hN : bw_N (bw_A [adMod a0] s.heap.size) [adMod a0] := hN0.self s.heap.size
  generalize hAe : bw_A [adMod a0] s.heap.size = A at hN ⊢
  have hA : ∀ q : Nat, s.heap.size ≤ q → A q := fun q h => by rw [← hAe]; exact Or.inr h
  have hS : va_S A s.heap s.heap [] := va_S.rf
  have hl := lv_entry ([.ref (a0 0)]) (n := 1) (Nat.le_of_ble_eq_true rfl)
  rw [lg_entry_eq]
  generalize (lg_sl ([.ref (a0 0)]) ++ List.replicate (1 - (lg_sl ([.ref (a0 0)])).length) Slot.unset).toArray = ls at hl ⊢
  have hl : lv_has ls 1 [(0, .ref (a0 0))] := hl
  have C0 : cx wsAll vwCl nx p s m [.ref (a0 0)].toArray meth c (dC, dI) (tyA ct) b_Mod_pop 1 (none : Option Jvm.ClassFile.FieldType) R_Mod A [adMod a0] := ⟨hx, hb, hr, hml, hown, hlocks, hts, hK, hN, hA, hnx⟩
  have h := hF
  rw [F_Mod_pop] at h
  refine lv_aload_n hx hb d_Mod_pop_0 rfl (lv_at hl 0 rfl) ?_
  refine lv_dup hx hb d_Mod_pop_1 rfl ?_
  refine va_get (D := (dC, dI)) (ci := 6) (v := .int (g32 o0 14 0)) (C := R_Mod) (T := T_Mod) (N := 36) hx hb hts in_Mod hown hK (hP 0 _ rfl) 0 rfl rfl 14 (by decide) (hts _ fl_Mod_97) (fun _ h9 => h9) rfl d_Mod_pop_2 ?_
  refine lv_iconst (v := 1) hx hb d_Mod_pop_5 (by decide) ?_
  refine lv_isub hx hb d_Mod_pop_6 ?_
  refine pt_Mod_14 hx hb hts hown hK hP hN hS 0 rfl (hts _ fl_Mod_97) d_Mod_pop_7 (fun H locs hP hS => ?_)
  have hP : bw_P (dC, dI) vwCl [wMod ct a0 (s32 o0 14 0 ((g32 o0 14 0) - (1 : Int32)))] H := hP
  refine lv_aload_n hx hb d_Mod_pop_10 rfl (lv_at hl 0 rfl) ?_
  refine lv_aload_n hx hb d_Mod_pop_11 rfl (lv_at hl 0 rfl) ?_
  refine va_get (D := (dC, dI)) (ci := 6) (v := .ref (a0 8)) (C := R_Mod) (T := T_Mod) (N := 36) hx hb hts in_Mod hown hK (hP 0 _ rfl) 0 rfl rfl 13 (by decide) (hts _ fl_Mod_31) (fun _ h9 => h9) rfl d_Mod_pop_12 ?_
  refine lv_aload_n hx hb d_Mod_pop_15 rfl (lv_at hl 0 rfl) ?_
  refine va_get (D := (dC, dI)) (ci := 6) (v := .int ((g32 o0 14 0) - (1 : Int32))) (C := R_Mod) (T := T_Mod) (N := 36) hx hb hts in_Mod hown hK (hP 0 _ rfl) 0 rfl rfl 14 (by decide) (hts _ fl_Mod_97) (fun _ h9 => h9) rfl d_Mod_pop_16 ?_
  obtain ⟨hi1, h⟩ := chk_some h
  refine va_iald (f := g32 o0 13) hx hb hK (hP 0 _ rfl) 8 0 rfl rfl (inb_in hi1) d_Mod_pop_19 ?_
  refine lv_iconst (v := 0) hx hb d_Mod_pop_20 (by decide) ?_
  obtain ⟨o_3, hG2, h⟩ := bind1_some h
  refine bw_call (Lc := [wMod ct a0 (s32 o0 14 0 ((g32 o0 14 0) - (1 : Int32)))]) (Lc' := [wMod ct a0 o_3]) (L' := [wMod ct a0 o_3]) [0] (va_runV (As := [.int (g32 o0 13 (Int32.toNatClampNeg ((g32 o0 14 0) - (1 : Int32)))), .int (0 : Int32)]) (rest := []) ⟨hx, hb, hml, hown, hts⟩ (c_Mod_emit l ct dC dI a0 _ (g32 o0 13 (Int32.toNatClampNeg ((g32 o0 14 0) - (1 : Int32)))) (0 : Int32) (s32 o0 14 0 ((g32 o0 14 0) - (1 : Int32))) o_3 hG2) (cwV 2 hts g_Mod_100 rfl rfl rfl (by decide +kernel) ⟨Nat.le_of_ble_eq_true rfl, Nat.le_of_ble_eq_true rfl⟩) ⟨bw_blind nx_call, va_recv hK (hP 0 _ rfl) (ci := 6) (q0 := 0) rfl rfl, fun U hU hW => ⟨rfl, by rw [hU], by rw [hU]; exact hP.sub [0] rfl, va_K.moved hW.alike hK, (hN.sub [0] (by decide) rfl).weaken (fun _ _ => trivial), nx_warm hW hnx⟩⟩ rfl rfl hl.1 rfl (Nat.le_of_ble_eq_true rfl) d_Mod_pop_21 ⟨Nat.le_of_ble_eq_true rfl, Nat.le_of_ble_eq_true rfl⟩) hP hN hS hA rfl rfl rfl (fun H locs hP hS => ?_)
  obtain rfl := res1 h
  exact W.vret hx hb hr (fun t ht hW => ⟨rfl, by rw [ht]; exact hP, hS.F ht⟩) hS.2.2 d_Mod_pop_24
theorem g_Mod_104 : GoodIn wsAll (wsV R_Mod 104 R_Mod y_Mod_isWaiting ws_Mod_isWaiting) := gd_V ml_Mod_104 im_Mod_isWaiting se_Mod_isWaiting ini_Mod cd_Mod_isWaiting
theorem g_Mod_108 : GoodIn wsAll (wsV R_Mod 108 R_Mod y_Mod_pop ws_Mod_pop) := gd_V ml_Mod_108 im_Mod_pop se_Mod_pop ini_Mod cd_Mod_pop
def F_Mod_endFactor_0  : Nat → Ob → Option (Ob)
  | 0, _ => none
  | n + 1, o0 =>
    bind1 (F_Mod_isWaiting (4 : Int32) (4 : Int32) o0) (fun v2 => if (b2i v2) = 0 then (some o0) else (bind1 (F_Mod_pop o0) (fun o_5 => F_Mod_endFactor_0 n o_5)))
def F_Mod_endFactor  (o0 : Ob) : Option (Ob) :=
  F_Mod_endFactor_0 fuel o0
abbrev ws_Mod_endFactor : List Cond := Cond.code y_Mod_endFactor b_Mod_endFactor 1 (none : Option Jvm.ClassFile.FieldType) :: wsAll
abbrev rm_Mod_endFactor : Room := { frames := 2, cells := 0, slots := 0, locals := 42 }
set_option maxHeartbeats 4000000 in
set_option maxRecDepth 100000 in
theorem k_Mod_endFactor_0 {p : Program} {l : Launch} {e : Env} {s : State} {m : MethodId} {args : Array Value} {below : List Frame} {meth : Method} {c : Code} {A : Nat → Prop} {ct dC : Nat → ClassId} {dI : Nat → Nat → Nat} {a0 : Nat → Nat}  {n0 : Ob}   (C0 : cx wsAll vwCl nx p s m args meth c (dC, dI) (tyA ct) b_Mod_endFactor 1 (none : Option Jvm.ClassFile.FieldType) R_Mod A [adMod a0])  : ∀ (n : Nat)  (o0 : Ob) (H : Heap) (locs : List Loc) (ls : Array Slot), bw_P (dC, dI) vwCl [wMod ct a0 o0] H → va_S A s.heap H locs → lv_has ls 1 [(0, .ref (a0 0))] → F_Mod_endFactor_0 n o0 = some n0 → W p l e (headSpec ws_Mod_endFactor rm_Mod_endFactor).room s m args below meth c H locs 0 0 (MQ below (bw_Q (dC, dI) vwCl none [wMod ct a0 n0] A) args s 0 0 A) (F0 m 0 ls []) := by
  obtain ⟨hx, hb, hr, hml, hown, hlocks, hts, hK, hN, hA, hnx⟩ := id C0
  intro n
  induction n with
  | zero =>
    intro o0 H locs ls hP hS hl h
    cases h
  | succ n ih =>
    intro o0 H locs ls hP hS hl h
    rw [F_Mod_endFactor_0] at h
    refine lv_aload_n hx hb d_Mod_endFactor_0 rfl (lv_at hl 0 rfl) ?_
    refine lv_iconst (v := 4) hx hb d_Mod_endFactor_1 (by decide) ?_
    refine lv_iconst (v := 4) hx hb d_Mod_endFactor_2 (by decide) ?_
    obtain ⟨v2, hG1, h⟩ := bind1_some h
    refine bw_callR (va_runV (As := [.int (4 : Int32), .int (4 : Int32)]) (rest := []) ⟨hx, hb, hml, hown, hts⟩ (c_Mod_isWaiting l ct dC dI a0 _ (4 : Int32) (4 : Int32) o0 v2 hG1) (cwV 2 hts g_Mod_104 rfl rfl rfl (by decide +kernel) ⟨Nat.le_of_ble_eq_true rfl, Nat.le_of_ble_eq_true rfl⟩) ⟨bw_blind nx_call, va_recv hK (hP 0 _ rfl) (ci := 6) (q0 := 0) rfl rfl, fun U hU hW => ⟨rfl, by rw [hU], by rw [hU]; exact hP.sub [0] rfl, va_K.moved hW.alike hK, (hN.sub [0] (by decide) rfl).weaken (fun _ _ => trivial), nx_warm hW hnx⟩⟩ rfl rfl hl.1 rfl (Nat.le_of_ble_eq_true rfl) d_Mod_endFactor_3 ⟨Nat.le_of_ble_eq_true rfl, Nat.le_of_ble_eq_true rfl⟩) ?_
    refine lv_if_eq (tgt := 16) hx hb d_Mod_endFactor_6 (by decide) (fun c3 => ?_) (fun c3 => ?_)
    · have h := ite_t c3 h
      obtain rfl := res1 h
      exact W.vret hx hb hr (fun t ht hW => ⟨rfl, by rw [ht]; exact hP, hS.F ht⟩) hS.2.2 d_Mod_endFactor_16
    · have h := ite_f c3 h
      refine lv_aload_n hx hb d_Mod_endFactor_9 rfl (lv_at hl 0 rfl) ?_
      obtain ⟨o_5, hG4, h⟩ := bind1_some h
      refine bw_call (Lc := [wMod ct a0 o0]) (Lc' := [wMod ct a0 o_5]) (L' := [wMod ct a0 o_5]) [0] (va_runV (As := []) (rest := []) ⟨hx, hb, hml, hown, hts⟩ (c_Mod_pop l ct dC dI a0 _ o0 o_5 hG4) (cwV 0 hts g_Mod_108 rfl rfl rfl (by decide +kernel) ⟨Nat.le_of_ble_eq_true rfl, Nat.le_of_ble_eq_true rfl⟩) ⟨bw_blind nx_call, va_recv hK (hP 0 _ rfl) (ci := 6) (q0 := 0) rfl rfl, fun U hU hW => ⟨rfl, by rw [hU], by rw [hU]; exact hP.sub [0] rfl, va_K.moved hW.alike hK, (hN.sub [0] (by decide) rfl).weaken (fun _ _ => trivial), nx_warm hW hnx⟩⟩ rfl rfl hl.1 rfl (Nat.le_of_ble_eq_true rfl) d_Mod_endFactor_10 ⟨Nat.le_of_ble_eq_true rfl, Nat.le_of_ble_eq_true rfl⟩) hP hN hS hA rfl rfl rfl (fun H locs hP hS => ?_)
      refine lv_goto (tgt := 0) hx hb d_Mod_endFactor_13 (by decide) ?_
      exact ih o_5 _ _ _ hP hS (lv_sub hl [0] rfl) h
set_option maxHeartbeats 4000000 in
set_option maxRecDepth 100000 in
theorem c_Mod_endFactor (l : Launch) (ct dC : Nat → ClassId) (dI : Nat → Nat → Nat) (a0 : Nat → Nat)  (sz : Nat)  (o0 : Ob) (n0 : Ob) (hF : F_Mod_endFactor o0 = some n0) : Met l y_Mod_endFactor ws_Mod_endFactor rm_Mod_endFactor (bw_Pc [.ref (a0 0)] (dC, dI) vwCl (tyA ct) [wMod ct a0 o0] sz nx) (bw_Q (dC, dI) vwCl none [wMod ct a0 n0] (bw_A [adMod a0] sz)) 0 0 (bw_A [adMod a0] sz) := by
  refine Met.ofW (cc := b_Mod_endFactor) (maxL := 1) (ret := (none : Option Jvm.ClassFile.FieldType)) (by decide) rfl ?_
  intro p e s m args below meth c s₁ B hml hv
  obtain ⟨rfl, hsz, hP, hK, hN0, hnx⟩ := hv
  have hx := B.exec
  have hb := B.bytes
  have hr := B.returns
  have hts : ∀ w ∈ wsAll, w.before [.ref (a0 0)].toArray s = true := fun w h9 => atoms_spec (ws := ws_Mod_endFactor) B.pre w (List.mem_cons_of_mem _ h9)
  have hown : s.vm.findClass R_Mod = some m.cls := findClass_of_methodNamed B.named
  have hlocks := B.notSynchronized
  subst hsz
  have hN : bw_N (bw_A [adMod a0] s.heap.size) [adMod a0] := hN0.self s.heap.size
  generalize hAe : bw_A [adMod a0] s.heap.size = A at hN ⊢
  have hA : ∀ q : Nat, s.heap.size ≤ q → A q := fun q h => by rw [← hAe]; exact Or.inr h
  have hS : va_S A s.heap s.heap [] := va_S.rf
  have hl := lv_entry ([.ref (a0 0)]) (n := 1) (Nat.le_of_ble_eq_true rfl)
  rw [lg_entry_eq]
  generalize (lg_sl ([.ref (a0 0)]) ++ List.replicate (1 - (lg_sl ([.ref (a0 0)])).length) Slot.unset).toArray = ls at hl ⊢
  have hl : lv_has ls 1 [(0, .ref (a0 0))] := hl
  have C0 : cx wsAll vwCl nx p s m [.ref (a0 0)].toArray meth c (dC, dI) (tyA ct) b_Mod_endFactor 1 (none : Option Jvm.ClassFile.FieldType) R_Mod A [adMod a0] := ⟨hx, hb, hr, hml, hown, hlocks, hts, hK, hN, hA, hnx⟩
  have h := hF
  rw [F_Mod_endFactor] at h
  exact k_Mod_endFactor_0 C0 fuel o0 _ _ _ hP hS (lv_sub hl [0] rfl) h
theorem g_Mod_119 : GoodIn wsAll (wsV R_Mod 119 R_Mod y_Mod_failAt ws_Mod_failAt) := gd_V ml_Mod_119 im_Mod_failAt se_Mod_failAt ini_Mod cd_Mod_failAt
theorem g_Mod_111 : GoodIn wsAll (wsV R_Mod 111 R_Mod y_Mod_here ws_Mod_here) := gd_V ml_Mod_111 im_Mod_here se_Mod_here ini_Mod cd_Mod_here
theorem g_Mod_115 : GoodIn wsAll (wsS R_Mod 115 y_Mod_isDigit ws_Mod_isDigit) := gd_S ml_Mod_115 st_Mod_isDigit ini_Mod cd_Mod_isDigit
def F_Mod_digits_4  : Nat → Int32 → Int32 → Int32 → Ob → Option (Int32 × Ob)
  | 0, _, _, _, _ => none
  | n + 1, x1, x2, x3, o0 =>
    if x1 ≤ x3 then (if x3 = 0 then (bind1 (F_Mod_failAt (g32 o0 3 0) o0) (fun o_4 => some (x2, o_4))) else (some (x2, o0))) else (bind1 (F_Mod_here o0) (fun v6 => bind1 (F_Mod_isDigit v6) (fun v8 => if (b2i v8) = 0 then (if x3 = 0 then (bind1 (F_Mod_failAt (g32 o0 3 0) o0) (fun o_12 => some (x2, o_12))) else (some (x2, o0))) else (bind1 (F_Mod_here o0) (fun v14 => F_Mod_digits_4 n x1 ((((10 : Int32) * x2) + v14) - (48 : Int32)) (x3 + (1 : Int32)) (s32 o0 3 0 ((g32 o0 3 0) + (1 : Int32))))))))
def F_Mod_digits (x1 : Int32) (o0 : Ob) : Option (Int32 × Ob) :=
  F_Mod_digits_4 fuel x1 (0 : Int32) (0 : Int32) o0
abbrev ws_Mod_digits : List Cond := Cond.code y_Mod_digits b_Mod_digits 4 (some .int) :: wsAll
abbrev rm_Mod_digits : Room := { frames := 1, cells := 0, slots := 0, locals := 21 }
set_option maxHeartbeats 4000000 in
set_option maxRecDepth 100000 in
theorem k_Mod_digits_4 {p : Program} {l : Launch} {e : Env} {s : State} {m : MethodId} {args : Array Value} {below : List Frame} {meth : Method} {c : Code} {A : Nat → Prop} {ct dC : Nat → ClassId} {dI : Nat → Nat → Nat} {a0 : Nat → Nat}  {r : Int32} {n0 : Ob}   (C0 : cx wsAll vwCl nx p s m args meth c (dC, dI) (tyA ct) b_Mod_digits 4 (some .int) R_Mod A [adMod a0])  : ∀ (n : Nat) (x1 : Int32) (x2 : Int32) (x3 : Int32) (o0 : Ob) (H : Heap) (locs : List Loc) (ls : Array Slot), bw_P (dC, dI) vwCl [wMod ct a0 o0] H → va_S A s.heap H locs → lv_has ls 4 [(0, .ref (a0 0)), (1, .int x1), (2, .int x2), (3, .int x3)] → F_Mod_digits_4 n x1 x2 x3 o0 = some (r, n0) → W p l e (headSpec ws_Mod_digits rm_Mod_digits).room s m args below meth c H locs 0 0 (MQ below (bw_Q (dC, dI) vwCl (some (.int r)) [wMod ct a0 n0] A) args s 0 0 A) (F0 m 4 ls []) := by
  obtain ⟨hx, hb, hr, hml, hown, hlocks, hts, hK, hN, hA, hnx⟩ := id C0
  intro n
  induction n with
  | zero =>
    intro x1 x2 x3 o0 H locs ls hP hS hl h
    cases h
  | succ n ih =>
    intro x1 x2 x3 o0 H locs ls hP hS hl h
    rw [F_Mod_digits_4] at h
    refine lv_iload_n hx hb d_Mod_digits_4 rfl (lv_at hl 3 rfl) ?_
    refine lv_iload_n hx hb d_Mod_digits_5 rfl (lv_at hl 1 rfl) ?_
    refine lv_icmp_ge (tgt := 48) hx hb d_Mod_digits_6 (by decide) (fun c1 => ?_) (fun c1 => ?_)
    · have h := ite_t c1 h
      refine lv_iload_n hx hb d_Mod_digits_48 rfl (lv_at hl 3 rfl) ?_
      refine lv_if_ne (tgt := 60) hx hb d_Mod_digits_49 (by decide) (fun c2 => ?_) (fun c2 => ?_)
      · have h := ite_f c2 h
        refine lv_iload_n hx hb d_Mod_digits_60 rfl (lv_at hl 2 rfl) ?_
        obtain ⟨rfl, rfl⟩ := res2 h
        exact W.iret hx hb hr (fun t ht hW => ⟨rfl, by rw [ht]; exact hP, hS.F ht⟩) hS.2.2 d_Mod_digits_61
      · have h := ite_t c2 h
        refine lv_aload_n hx hb d_Mod_digits_52 rfl (lv_at hl 0 rfl) ?_
        refine lv_aload_n hx hb d_Mod_digits_53 rfl (lv_at hl 0 rfl) ?_
        refine va_get (D := (dC, dI)) (ci := 6) (v := .int (g32 o0 3 0)) (C := R_Mod) (T := T_Mod) (N := 36) hx hb hts in_Mod hown hK (hP 0 _ rfl) 0 rfl rfl 3 (by decide) (hts _ fl_Mod_91) (fun _ h9 => h9) rfl d_Mod_digits_54 ?_
        obtain ⟨o_4, hG3, h⟩ := bind1_some h
        refine bw_call (Lc := [wMod ct a0 o0]) (Lc' := [wMod ct a0 o_4]) (L' := [wMod ct a0 o_4]) [0] (va_runV (As := [.int (g32 o0 3 0)]) (rest := []) ⟨hx, hb, hml, hown, hts⟩ (c_Mod_failAt l ct dC dI a0 _ (g32 o0 3 0) o0 o_4 hG3) (cwV 1 hts g_Mod_119 rfl rfl rfl (by decide +kernel) ⟨Nat.le_of_ble_eq_true rfl, Nat.le_of_ble_eq_true rfl⟩) ⟨bw_blind nx_call, va_recv hK (hP 0 _ rfl) (ci := 6) (q0 := 0) rfl rfl, fun U hU hW => ⟨rfl, by rw [hU], by rw [hU]; exact hP.sub [0] rfl, va_K.moved hW.alike hK, (hN.sub [0] (by decide) rfl).weaken (fun _ _ => trivial), nx_warm hW hnx⟩⟩ rfl rfl hl.1 rfl (Nat.le_of_ble_eq_true rfl) d_Mod_digits_57 ⟨Nat.le_of_ble_eq_true rfl, Nat.le_of_ble_eq_true rfl⟩) hP hN hS hA rfl rfl rfl (fun H locs hP hS => ?_)
        refine lv_iload_n hx hb d_Mod_digits_60 rfl (lv_at hl 2 rfl) ?_
        obtain ⟨rfl, rfl⟩ := res2 h
        exact W.iret hx hb hr (fun t ht hW => ⟨rfl, by rw [ht]; exact hP, hS.F ht⟩) hS.2.2 d_Mod_digits_61
    · have h := ite_f c1 h
      refine lv_aload_n hx hb d_Mod_digits_9 rfl (lv_at hl 0 rfl) ?_
      obtain ⟨v6, hG5, h⟩ := bind1_some h
      refine bw_callR (va_runV (As := []) (rest := []) ⟨hx, hb, hml, hown, hts⟩ (c_Mod_here l ct dC dI a0 _ o0 v6 hG5) (cwV 0 hts g_Mod_111 rfl rfl rfl (by decide +kernel) ⟨Nat.le_of_ble_eq_true rfl, Nat.le_of_ble_eq_true rfl⟩) ⟨bw_blind nx_call, va_recv hK (hP 0 _ rfl) (ci := 6) (q0 := 0) rfl rfl, fun U hU hW => ⟨rfl, by rw [hU], by rw [hU]; exact hP.sub [0] rfl, va_K.moved hW.alike hK, (hN.sub [0] (by decide) rfl).weaken (fun _ _ => trivial), nx_warm hW hnx⟩⟩ rfl rfl hl.1 rfl (Nat.le_of_ble_eq_true rfl) d_Mod_digits_10 ⟨Nat.le_of_ble_eq_true rfl, Nat.le_of_ble_eq_true rfl⟩) ?_
      obtain ⟨v8, hG7, h⟩ := bind1_some h
      refine bw_callR (va_runS (As := [.int v6]) (rest := []) ⟨hx, hb, hml, hown, hts⟩ (c_Mod_isDigit l ct dC dI _ v6 v8 hG7) (cwS 1 hts g_Mod_115 rfl rfl rfl (by decide +kernel) ⟨Nat.le_of_ble_eq_true rfl, Nat.le_of_ble_eq_true rfl⟩) ⟨bw_blind nx_call, fun U hU hW => ⟨rfl, by rw [hU], by rw [hU]; exact hP.sub [] rfl, va_K.moved hW.alike hK, (hN.sub [] (by decide) rfl).weaken (fun _ _ => trivial), nx_warm hW hnx⟩⟩ rfl rfl hl.1 rfl (Nat.le_of_ble_eq_true rfl) d_Mod_digits_13 ⟨Nat.le_of_ble_eq_true rfl, Nat.le_of_ble_eq_true rfl⟩) ?_
      refine lv_if_eq (tgt := 48) hx hb d_Mod_digits_16 (by decide) (fun c9 => ?_) (fun c9 => ?_)
      · have h := ite_t c9 h
        refine lv_iload_n hx hb d_Mod_digits_48 rfl (lv_at hl 3 rfl) ?_
        refine lv_if_ne (tgt := 60) hx hb d_Mod_digits_49 (by decide) (fun c10 => ?_) (fun c10 => ?_)
        · have h := ite_f c10 h
          refine lv_iload_n hx hb d_Mod_digits_60 rfl (lv_at hl 2 rfl) ?_
          obtain ⟨rfl, rfl⟩ := res2 h
          exact W.iret hx hb hr (fun t ht hW => ⟨rfl, by rw [ht]; exact hP, hS.F ht⟩) hS.2.2 d_Mod_digits_61
        · have h := ite_t c10 h
          refine lv_aload_n hx hb d_Mod_digits_52 rfl (lv_at hl 0 rfl) ?_
          refine lv_aload_n hx hb d_Mod_digits_53 rfl (lv_at hl 0 rfl) ?_
          refine va_get (D := (dC, dI)) (ci := 6) (v := .int (g32 o0 3 0)) (C := R_Mod) (T := T_Mod) (N := 36) hx hb hts in_Mod hown hK (hP 0 _ rfl) 0 rfl rfl 3 (by decide) (hts _ fl_Mod_91) (fun _ h9 => h9) rfl d_Mod_digits_54 ?_
          obtain ⟨o_12, hG11, h⟩ := bind1_some h
          refine bw_call (Lc := [wMod ct a0 o0]) (Lc' := [wMod ct a0 o_12]) (L' := [wMod ct a0 o_12]) [0] (va_runV (As := [.int (g32 o0 3 0)]) (rest := []) ⟨hx, hb, hml, hown, hts⟩ (c_Mod_failAt l ct dC dI a0 _ (g32 o0 3 0) o0 o_12 hG11) (cwV 1 hts g_Mod_119 rfl rfl rfl (by decide +kernel) ⟨Nat.le_of_ble_eq_true rfl, Nat.le_of_ble_eq_true rfl⟩) ⟨bw_blind nx_call, va_recv hK (hP 0 _ rfl) (ci := 6) (q0 := 0) rfl rfl, fun U hU hW => ⟨rfl, by rw [hU], by rw [hU]; exact hP.sub [0] rfl, va_K.moved hW.alike hK, (hN.sub [0] (by decide) rfl).weaken (fun _ _ => trivial), nx_warm hW hnx⟩⟩ rfl rfl hl.1 rfl (Nat.le_of_ble_eq_true rfl) d_Mod_digits_57 ⟨Nat.le_of_ble_eq_true rfl, Nat.le_of_ble_eq_true rfl⟩) hP hN hS hA rfl rfl rfl (fun H locs hP hS => ?_)
          refine lv_iload_n hx hb d_Mod_digits_60 rfl (lv_at hl 2 rfl) ?_
          obtain ⟨rfl, rfl⟩ := res2 h
          exact W.iret hx hb hr (fun t ht hW => ⟨rfl, by rw [ht]; exact hP, hS.F ht⟩) hS.2.2 d_Mod_digits_61
      · have h := ite_f c9 h
        refine lv_bipush (v := 10) hx hb d_Mod_digits_19 (by decide) ?_
        refine lv_iload_n hx hb d_Mod_digits_21 rfl (lv_at hl 2 rfl) ?_
        refine lv_imul hx hb d_Mod_digits_22 ?_
        refine lv_aload_n hx hb d_Mod_digits_23 rfl (lv_at hl 0 rfl) ?_
        obtain ⟨v14, hG13, h⟩ := bind1_some h
        refine bw_callR (va_runV (As := []) (rest := [.int ((10 : Int32) * x2)]) ⟨hx, hb, hml, hown, hts⟩ (c_Mod_here l ct dC dI a0 _ o0 v14 hG13) (cwV 0 hts g_Mod_111 rfl rfl rfl (by decide +kernel) ⟨Nat.le_of_ble_eq_true rfl, Nat.le_of_ble_eq_true rfl⟩) ⟨bw_blind nx_call, va_recv hK (hP 0 _ rfl) (ci := 6) (q0 := 0) rfl rfl, fun U hU hW => ⟨rfl, by rw [hU], by rw [hU]; exact hP.sub [0] rfl, va_K.moved hW.alike hK, (hN.sub [0] (by decide) rfl).weaken (fun _ _ => trivial), nx_warm hW hnx⟩⟩ rfl rfl hl.1 rfl (Nat.le_of_ble_eq_true rfl) d_Mod_digits_24 ⟨Nat.le_of_ble_eq_true rfl, Nat.le_of_ble_eq_true rfl⟩) ?_
        refine lv_iadd hx hb d_Mod_digits_27 ?_
        refine lv_bipush (v := 48) hx hb d_Mod_digits_28 (by decide) ?_
        refine lv_isub hx hb d_Mod_digits_30 ?_
        refine lv_istore_n (lv' := [(2, .int ((((10 : Int32) * x2) + v14) - (48 : Int32))), (0, .ref (a0 0)), (1, .int x1), (3, .int x3)]) hx hb d_Mod_digits_31 rfl hl (by decide) rfl (fun ls hl => ?_)
        refine lv_iinc (v := (x3 + (1 : Int32))) (lv' := [(3, .int (x3 + (1 : Int32))), (2, .int ((((10 : Int32) * x2) + v14) - (48 : Int32))), (0, .ref (a0 0)), (1, .int x1)]) hx hb d_Mod_digits_32 hl (k := 3) rfl rfl (by decide) rfl (fun ls hl => ?_)
        refine lv_aload_n hx hb d_Mod_digits_35 rfl (lv_at hl 2 rfl) ?_
        refine lv_dup hx hb d_Mod_digits_36 rfl ?_
        refine va_get (D := (dC, dI)) (ci := 6) (v := .int (g32 o0 3 0)) (C := R_Mod) (T := T_Mod) (N := 36) hx hb hts in_Mod hown hK (hP 0 _ rfl) 0 rfl rfl 3 (by decide) (hts _ fl_Mod_91) (fun _ h9 => h9) rfl d_Mod_digits_37 ?_
        refine lv_iconst (v := 1) hx hb d_Mod_digits_40 (by decide) ?_
        refine lv_iadd hx hb d_Mod_digits_41 ?_
        refine pt_Mod_3 hx hb hts hown hK hP hN hS 0 rfl (hts _ fl_Mod_91) d_Mod_digits_42 (fun H locs hP hS => ?_)
        have hP : bw_P (dC, dI) vwCl [wMod ct a0 (s32 o0 3 0 ((g32 o0 3 0) + (1 : Int32)))] H := hP
        refine lv_goto (tgt := 4) hx hb d_Mod_digits_45 (by decide) ?_
        exact ih x1 ((((10 : Int32) * x2) + v14) - (48 : Int32)) (x3 + (1 : Int32)) (s32 o0 3 0 ((g32 o0 3 0) + (1 : Int32))) _ _ _ hP hS (lv_sub hl [2, 3, 1, 0] rfl) h
set_option maxHeartbeats 4000000 in
set_option maxRecDepth 100000 in
theorem c_Mod_digits (l : Launch) (ct dC : Nat → ClassId) (dI : Nat → Nat → Nat) (a0 : Nat → Nat)  (sz : Nat) (x1 : Int32) (o0 : Ob) (r : Int32) (n0 : Ob) (hF : F_Mod_digits x1 o0 = some (r, n0)) : Met l y_Mod_digits ws_Mod_digits rm_Mod_digits (bw_Pc [.ref (a0 0), .int x1] (dC, dI) vwCl (tyA ct) [wMod ct a0 o0] sz nx) (bw_Q (dC, dI) vwCl (some (.int r)) [wMod ct a0 n0] (bw_A [adMod a0] sz)) 0 0 (bw_A [adMod a0] sz) := by
  refine Met.ofW (cc := b_Mod_digits) (maxL := 4) (ret := (some .int)) (by decide) rfl ?_
  intro p e s m args below meth c s₁ B hml hv
  obtain ⟨rfl, hsz, hP, hK, hN0, hnx⟩ := hv
  have hx := B.exec
  have hb := B.bytes
  have hr := B.returns
  have hts : ∀ w ∈ wsAll, w.before [.ref (a0 0), .int x1].toArray s = true := fun w h9 => atoms_spec (ws := ws_Mod_digits) B.pre w (List.mem_cons_of_mem _ h9)
  have hown : s.vm.findClass R_Mod = some m.cls := findClass_of_methodNamed B.named
  have hlocks := B.notSynchronized
  subst hsz
  have hN : bw_N (bw_A [adMod a0] s.heap.size) [adMod a0] := hN0.self s.heap.size
  generalize hAe : bw_A [adMod a0] s.heap.size = A at hN ⊢
  have hA : ∀ q : Nat, s.heap.size ≤ q → A q := fun q h => by rw [← hAe]; exact Or.inr h
  have hS : va_S A s.heap s.heap [] := va_S.rf
  have hl := lv_entry ([.ref (a0 0), .int x1]) (n := 4) (Nat.le_of_ble_eq_true rfl)
  rw [lg_entry_eq]
  generalize (lg_sl ([.ref (a0 0), .int x1]) ++ List.replicate (4 - (lg_sl ([.ref (a0 0), .int x1])).length) Slot.unset).toArray = ls at hl ⊢
  have hl : lv_has ls 4 [(0, .ref (a0 0)), (1, .int x1)] := hl
  have C0 : cx wsAll vwCl nx p s m [.ref (a0 0), .int x1].toArray meth c (dC, dI) (tyA ct) b_Mod_digits 4 (some .int) R_Mod A [adMod a0] := ⟨hx, hb, hr, hml, hown, hlocks, hts, hK, hN, hA, hnx⟩
  have h := hF
  rw [F_Mod_digits] at h
  refine lv_iconst (v := 0) hx hb d_Mod_digits_0 (by decide) ?_
  refine lv_istore_n (lv' := [(2, .int (0 : Int32)), (0, .ref (a0 0)), (1, .int x1)]) hx hb d_Mod_digits_1 rfl hl (by decide) rfl (fun ls hl => ?_)
  refine lv_iconst (v := 0) hx hb d_Mod_digits_2 (by decide) ?_
  refine lv_istore_n (lv' := [(3, .int (0 : Int32)), (2, .int (0 : Int32)), (0, .ref (a0 0)), (1, .int x1)]) hx hb d_Mod_digits_3 rfl hl (by decide) rfl (fun ls hl => ?_)
  exact k_Mod_digits_4 C0 fuel x1 (0 : Int32) (0 : Int32) o0 _ _ _ hP hS (lv_sub hl [2, 3, 1, 0] rfl) h
theorem g_Mod_123 : GoodIn wsAll (wsV R_Mod 123 R_Mod y_Mod_digits ws_Mod_digits) := gd_V ml_Mod_123 im_Mod_digits se_Mod_digits ini_Mod cd_Mod_digits
theorem g_Mod_127 : GoodIn wsAll (wsV R_Mod 127 R_Mod y_Mod_endFactor ws_Mod_endFactor) := gd_V ml_Mod_127 im_Mod_endFactor se_Mod_endFactor ini_Mod cd_Mod_endFactor
def F_Mod_readNumber  (o0 : Ob) : Option (Ob) :=
  bind2 (F_Mod_digits (5 : Int32) o0) (fun v2 o_3 => bind1 (F_Mod_here o_3) (fun v5 => if v5 = (46 : Int32) then (bind2 (F_Mod_digits (3 : Int32) (s32 o_3 3 0 ((g32 o_3 3 0) + (1 : Int32)))) (fun v12 o_13 => if ((g32 o_13 3 0) - ((g32 o_3 3 0) + (1 : Int32))) = (1 : Int32) then (bind1 (F_Mod_emit (1 : Int32) (((1000 : Int32) * v2) + ((100 : Int32) * v12)) o_13) (fun o_25 => bind1 (F_Mod_endFactor o_25) (fun o_27 => some o_27))) else (if ((g32 o_13 3 0) - ((g32 o_3 3 0) + (1 : Int32))) = (2 : Int32) then (bind1 (F_Mod_emit (1 : Int32) (((1000 : Int32) * v2) + ((10 : Int32) * v12)) o_13) (fun o_21 => bind1 (F_Mod_endFactor o_21) (fun o_23 => some o_23))) else (bind1 (F_Mod_emit (1 : Int32) (((1000 : Int32) * v2) + v12) o_13) (fun o_17 => bind1 (F_Mod_endFactor o_17) (fun o_19 => some o_19)))))) else (bind1 (F_Mod_emit (1 : Int32) ((1000 : Int32) * v2) o_3) (fun o_8 => bind1 (F_Mod_endFactor o_8) (fun o_10 => some o_10)))))
abbrev ws_Mod_readNumber : List Cond := Cond.code y_Mod_readNumber b_Mod_readNumber 4 (none : Option Jvm.ClassFile.FieldType) :: wsAll
abbrev rm_Mod_readNumber : Room := { frames := 3, cells := 0, slots := 0, locals := 62 }
set_option maxHeartbeats 4000000 in
set_option maxRecDepth 100000 in
theorem c_Mod_readNumber (l : Launch) (ct dC : Nat → ClassId) (dI : Nat → Nat → Nat) (a0 : Nat → Nat)  (sz : Nat)  (o0 : Ob) (n0 : Ob) (hF : F_Mod_readNumber o0 = some n0) : Met l y_Mod_readNumber ws_Mod_readNumber rm_Mod_readNumber (bw_Pc [.ref (a0 0)] (dC, dI) vwCl (tyA ct) [wMod ct a0 o0] sz nx) (bw_Q (dC, dI) vwCl none [wMod ct a0 n0] (bw_A [adMod a0] sz)) 0 0 (bw_A [adMod a0] sz) := by
  refine Met.ofW (cc := b_Mod_readNumber) (maxL := 4) (ret := (none : Option Jvm.ClassFile.FieldType)) (by decide) rfl ?_
  intro p e s m args below meth c s₁ B hml hv
  obtain ⟨rfl, hsz, hP, hK, hN0, hnx⟩ := hv
  have hx := B.exec
  have hb := B.bytes
  have hr := B.returns
  have hts : ∀ w ∈ wsAll, w.before [.ref (a0 0)].toArray s = true := fun w h9 => atoms_spec (ws := ws_Mod_readNumber) B.pre w (List.mem_cons_of_mem _ h9)
  have hown : s.vm.findClass R_Mod = some m.cls := findClass_of_methodNamed B.named
  have hlocks := B.notSynchronized
  subst hsz
  have hN : bw_N (bw_A [adMod a0] s.heap.size) [adMod a0] := hN0.self s.heap.size
  generalize hAe : bw_A [adMod a0] s.heap.size = A at hN ⊢
  have hA : ∀ q : Nat, s.heap.size ≤ q → A q := fun q h => by rw [← hAe]; exact Or.inr h
  have hS : va_S A s.heap s.heap [] := va_S.rf
  have hl := lv_entry ([.ref (a0 0)]) (n := 4) (Nat.le_of_ble_eq_true rfl)
  rw [lg_entry_eq]
  generalize (lg_sl ([.ref (a0 0)]) ++ List.replicate (4 - (lg_sl ([.ref (a0 0)])).length) Slot.unset).toArray = ls at hl ⊢
  have hl : lv_has ls 4 [(0, .ref (a0 0))] := hl
  have C0 : cx wsAll vwCl nx p s m [.ref (a0 0)].toArray meth c (dC, dI) (tyA ct) b_Mod_readNumber 4 (none : Option Jvm.ClassFile.FieldType) R_Mod A [adMod a0] := ⟨hx, hb, hr, hml, hown, hlocks, hts, hK, hN, hA, hnx⟩
  have h := hF
  rw [F_Mod_readNumber] at h
  refine lv_sipush (v := 1000) hx hb d_Mod_readNumber_0 (by decide) ?_
  refine lv_aload_n hx hb d_Mod_readNumber_3 rfl (lv_at hl 0 rfl) ?_
  refine lv_iconst (v := 5) hx hb d_Mod_readNumber_4 (by decide) ?_
  obtain ⟨v2, o_3, hG1, h⟩ := bind2_some h
  refine bw_call (Lc := [wMod ct a0 o0]) (Lc' := [wMod ct a0 o_3]) (L' := [wMod ct a0 o_3]) [0] (va_runV (As := [.int (5 : Int32)]) (rest := [.int (1000 : Int32)]) ⟨hx, hb, hml, hown, hts⟩ (c_Mod_digits l ct dC dI a0 _ (5 : Int32) o0 v2 o_3 hG1) (cwV 1 hts g_Mod_123 rfl rfl rfl (by decide +kernel) ⟨Nat.le_of_ble_eq_true rfl, Nat.le_of_ble_eq_true rfl⟩) ⟨bw_blind nx_call, va_recv hK (hP 0 _ rfl) (ci := 6) (q0 := 0) rfl rfl, fun U hU hW => ⟨rfl, by rw [hU], by rw [hU]; exact hP.sub [0] rfl, va_K.moved hW.alike hK, (hN.sub [0] (by decide) rfl).weaken (fun _ _ => trivial), nx_warm hW hnx⟩⟩ rfl rfl hl.1 rfl (Nat.le_of_ble_eq_true rfl) d_Mod_readNumber_5 ⟨Nat.le_of_ble_eq_true rfl, Nat.le_of_ble_eq_true rfl⟩) hP hN hS hA rfl rfl rfl (fun H locs hP hS => ?_)
  refine lv_imul hx hb d_Mod_readNumber_8 ?_
  refine lv_istore_n (lv' := [(1, .int ((1000 : Int32) * v2)), (0, .ref (a0 0))]) hx hb d_Mod_readNumber_9 rfl hl (by decide) rfl (fun ls hl => ?_)
  refine lv_aload_n hx hb d_Mod_readNumber_10 rfl (lv_at hl 1 rfl) ?_
  obtain ⟨v5, hG4, h⟩ := bind1_some h
  refine bw_callR (va_runV (As := []) (rest := []) ⟨hx, hb, hml, hown, hts⟩ (c_Mod_here l ct dC dI a0 _ o_3 v5 hG4) (cwV 0 hts g_Mod_111 rfl rfl rfl (by decide +kernel) ⟨Nat.le_of_ble_eq_true rfl, Nat.le_of_ble_eq_true rfl⟩) ⟨bw_blind nx_call, va_recv hK (hP 0 _ rfl) (ci := 6) (q0 := 0) rfl rfl, fun U hU hW => ⟨rfl, by rw [hU], by rw [hU]; exact hP.sub [0] rfl, va_K.moved hW.alike hK, (hN.sub [0] (by decide) rfl).weaken (fun _ _ => trivial), nx_warm hW hnx⟩⟩ rfl rfl hl.1 rfl (Nat.le_of_ble_eq_true rfl) d_Mod_readNumber_11 ⟨Nat.le_of_ble_eq_true rfl, Nat.le_of_ble_eq_true rfl⟩) ?_
  refine lv_bipush (v := 46) hx hb d_Mod_readNumber_14 (by decide) ?_
  refine lv_icmp_ne (tgt := 78) hx hb d_Mod_readNumber_16 (by decide) (fun c6 => ?_) (fun c6 => ?_)
  · have h := ite_f c6 h
    refine lv_aload_n hx hb d_Mod_readNumber_78 rfl (lv_at hl 1 rfl) ?_
    refine lv_iconst (v := 1) hx hb d_Mod_readNumber_79 (by decide) ?_
    refine lv_iload_n hx hb d_Mod_readNumber_80 rfl (lv_at hl 0 rfl) ?_
    obtain ⟨o_8, hG7, h⟩ := bind1_some h
    refine bw_call (Lc := [wMod ct a0 o_3]) (Lc' := [wMod ct a0 o_8]) (L' := [wMod ct a0 o_8]) [0] (va_runV (As := [.int (1 : Int32), .int ((1000 : Int32) * v2)]) (rest := []) ⟨hx, hb, hml, hown, hts⟩ (c_Mod_emit l ct dC dI a0 _ (1 : Int32) ((1000 : Int32) * v2) o_3 o_8 hG7) (cwV 2 hts g_Mod_100 rfl rfl rfl (by decide +kernel) ⟨Nat.le_of_ble_eq_true rfl, Nat.le_of_ble_eq_true rfl⟩) ⟨bw_blind nx_call, va_recv hK (hP 0 _ rfl) (ci := 6) (q0 := 0) rfl rfl, fun U hU hW => ⟨rfl, by rw [hU], by rw [hU]; exact hP.sub [0] rfl, va_K.moved hW.alike hK, (hN.sub [0] (by decide) rfl).weaken (fun _ _ => trivial), nx_warm hW hnx⟩⟩ rfl rfl hl.1 rfl (Nat.le_of_ble_eq_true rfl) d_Mod_readNumber_81 ⟨Nat.le_of_ble_eq_true rfl, Nat.le_of_ble_eq_true rfl⟩) hP hN hS hA rfl rfl rfl (fun H locs hP hS => ?_)
    refine lv_aload_n hx hb d_Mod_readNumber_84 rfl (lv_at hl 1 rfl) ?_
    obtain ⟨o_10, hG9, h⟩ := bind1_some h
    refine bw_call (Lc := [wMod ct a0 o_8]) (Lc' := [wMod ct a0 o_10]) (L' := [wMod ct a0 o_10]) [0] (va_runV (As := []) (rest := []) ⟨hx, hb, hml, hown, hts⟩ (c_Mod_endFactor l ct dC dI a0 _ o_8 o_10 hG9) (cwV 0 hts g_Mod_127 rfl rfl rfl (by decide +kernel) ⟨Nat.le_of_ble_eq_true rfl, Nat.le_of_ble_eq_true rfl⟩) ⟨bw_blind nx_call, va_recv hK (hP 0 _ rfl) (ci := 6) (q0 := 0) rfl rfl, fun U hU hW => ⟨rfl, by rw [hU], by rw [hU]; exact hP.sub [0] rfl, va_K.moved hW.alike hK, (hN.sub [0] (by decide) rfl).weaken (fun _ _ => trivial), nx_warm hW hnx⟩⟩ rfl rfl hl.1 rfl (Nat.le_of_ble_eq_true rfl) d_Mod_readNumber_85 ⟨Nat.le_of_ble_eq_true rfl, Nat.le_of_ble_eq_true rfl⟩) hP hN hS hA rfl rfl rfl (fun H locs hP hS => ?_)
    obtain rfl := res1 h
    exact W.vret hx hb hr (fun t ht hW => ⟨rfl, by rw [ht]; exact hP, hS.F ht⟩) hS.2.2 d_Mod_readNumber_88
  · have h := ite_t c6 h
    refine lv_aload_n hx hb d_Mod_readNumber_19 rfl (lv_at hl 1 rfl) ?_
    refine lv_dup hx hb d_Mod_readNumber_20 rfl ?_
    refine va_get (D := (dC, dI)) (ci := 6) (v := .int (g32 o_3 3 0)) (C := R_Mod) (T := T_Mod) (N := 36) hx hb hts in_Mod hown hK (hP 0 _ rfl) 0 rfl rfl 3 (by decide) (hts _ fl_Mod_91) (fun _ h9 => h9) rfl d_Mod_readNumber_21 ?_
    refine lv_iconst (v := 1) hx hb d_Mod_readNumber_24 (by decide) ?_
    refine lv_iadd hx hb d_Mod_readNumber_25 ?_
    refine pt_Mod_3 hx hb hts hown hK hP hN hS 0 rfl (hts _ fl_Mod_91) d_Mod_readNumber_26 (fun H locs hP hS => ?_)
    have hP : bw_P (dC, dI) vwCl [wMod ct a0 (s32 o_3 3 0 ((g32 o_3 3 0) + (1 : Int32)))] H := hP
    refine lv_aload_n hx hb d_Mod_readNumber_29 rfl (lv_at hl 1 rfl) ?_
    refine va_get (D := (dC, dI)) (ci := 6) (v := .int ((g32 o_3 3 0) + (1 : Int32))) (C := R_Mod) (T := T_Mod) (N := 36) hx hb hts in_Mod hown hK (hP 0 _ rfl) 0 rfl rfl 3 (by decide) (hts _ fl_Mod_91) (fun _ h9 => h9) rfl d_Mod_readNumber_30 ?_
    refine lv_istore_n (lv' := [(2, .int ((g32 o_3 3 0) + (1 : Int32))), (1, .int ((1000 : Int32) * v2)), (0, .ref (a0 0))]) hx hb d_Mod_readNumber_33 rfl hl (by decide) rfl (fun ls hl => ?_)
    refine lv_aload_n hx hb d_Mod_readNumber_34 rfl (lv_at hl 2 rfl) ?_
    refine lv_iconst (v := 3) hx hb d_Mod_readNumber_35 (by decide) ?_
    obtain ⟨v12, o_13, hG11, h⟩ := bind2_some h
    refine bw_call (Lc := [wMod ct a0 (s32 o_3 3 0 ((g32 o_3 3 0) + (1 : Int32)))]) (Lc' := [wMod ct a0 o_13]) (L' := [wMod ct a0 o_13]) [0] (va_runV (As := [.int (3 : Int32)]) (rest := []) ⟨hx, hb, hml, hown, hts⟩ (c_Mod_digits l ct dC dI a0 _ (3 : Int32) (s32 o_3 3 0 ((g32 o_3 3 0) + (1 : Int32))) v12 o_13 hG11) (cwV 1 hts g_Mod_123 rfl rfl rfl (by decide +kernel) ⟨Nat.le_of_ble_eq_true rfl, Nat.le_of_ble_eq_true rfl⟩) ⟨bw_blind nx_call, va_recv hK (hP 0 _ rfl) (ci := 6) (q0 := 0) rfl rfl, fun U hU hW => ⟨rfl, by rw [hU], by rw [hU]; exact hP.sub [0] rfl, va_K.moved hW.alike hK, (hN.sub [0] (by decide) rfl).weaken (fun _ _ => trivial), nx_warm hW hnx⟩⟩ rfl rfl hl.1 rfl (Nat.le_of_ble_eq_true rfl) d_Mod_readNumber_36 ⟨Nat.le_of_ble_eq_true rfl, Nat.le_of_ble_eq_true rfl⟩) hP hN hS hA rfl rfl rfl (fun H locs hP hS => ?_)
    refine lv_istore_n (lv' := [(3, .int v12), (2, .int ((g32 o_3 3 0) + (1 : Int32))), (1, .int ((1000 : Int32) * v2)), (0, .ref (a0 0))]) hx hb d_Mod_readNumber_39 rfl hl (by decide) rfl (fun ls hl => ?_)
    refine lv_iload_n hx hb d_Mod_readNumber_40 rfl (lv_at hl 2 rfl) ?_
    refine lv_aload_n hx hb d_Mod_readNumber_41 rfl (lv_at hl 3 rfl) ?_
    refine va_get (D := (dC, dI)) (ci := 6) (v := .int (g32 o_13 3 0)) (C := R_Mod) (T := T_Mod) (N := 36) hx hb hts in_Mod hown hK (hP 0 _ rfl) 0 rfl rfl 3 (by decide) (hts _ fl_Mod_91) (fun _ h9 => h9) rfl d_Mod_readNumber_42 ?_
    refine lv_iload_n hx hb d_Mod_readNumber_45 rfl (lv_at hl 1 rfl) ?_
    refine lv_isub hx hb d_Mod_readNumber_46 ?_
    refine lv_iconst (v := 1) hx hb d_Mod_readNumber_47 (by decide) ?_
    refine lv_icmp_ne (tgt := 58) hx hb d_Mod_readNumber_48 (by decide) (fun c14 => ?_) (fun c14 => ?_)
    · have h := ite_f c14 h
      refine lv_aload_n hx hb d_Mod_readNumber_58 rfl (lv_at hl 3 rfl) ?_
      refine va_get (D := (dC, dI)) (ci := 6) (v := .int (g32 o_13 3 0)) (C := R_Mod) (T := T_Mod) (N := 36) hx hb hts in_Mod hown hK (hP 0 _ rfl) 0 rfl rfl 3 (by decide) (hts _ fl_Mod_91) (fun _ h9 => h9) rfl d_Mod_readNumber_59 ?_
      refine lv_iload_n hx hb d_Mod_readNumber_62 rfl (lv_at hl 1 rfl) ?_
      refine lv_isub hx hb d_Mod_readNumber_63 ?_
      refine lv_iconst (v := 2) hx hb d_Mod_readNumber_64 (by decide) ?_
      refine lv_icmp_ne (tgt := 75) hx hb d_Mod_readNumber_65 (by decide) (fun c15 => ?_) (fun c15 => ?_)
      · have h := ite_f c15 h
        refine lv_iload_n hx hb d_Mod_readNumber_75 rfl (lv_at hl 0 rfl) ?_
        refine lv_iadd hx hb d_Mod_readNumber_76 ?_
        refine lv_istore_n (lv' := [(1, .int (((1000 : Int32) * v2) + v12)), (3, .int v12), (2, .int ((g32 o_3 3 0) + (1 : Int32))), (0, .ref (a0 0))]) hx hb d_Mod_readNumber_77 rfl hl (by decide) rfl (fun ls hl => ?_)
        refine lv_aload_n hx hb d_Mod_readNumber_78 rfl (lv_at hl 3 rfl) ?_
        refine lv_iconst (v := 1) hx hb d_Mod_readNumber_79 (by decide) ?_
        refine lv_iload_n hx hb d_Mod_readNumber_80 rfl (lv_at hl 0 rfl) ?_
        obtain ⟨o_17, hG16, h⟩ := bind1_some h
        refine bw_call (Lc := [wMod ct a0 o_13]) (Lc' := [wMod ct a0 o_17]) (L' := [wMod ct a0 o_17]) [0] (va_runV (As := [.int (1 : Int32), .int (((1000 : Int32) * v2) + v12)]) (rest := []) ⟨hx, hb, hml, hown, hts⟩ (c_Mod_emit l ct dC dI a0 _ (1 : Int32) (((1000 : Int32) * v2) + v12) o_13 o_17 hG16) (cwV 2 hts g_Mod_100 rfl rfl rfl (by decide +kernel) ⟨Nat.le_of_ble_eq_true rfl, Nat.le_of_ble_eq_true rfl⟩) ⟨bw_blind nx_call, va_recv hK (hP 0 _ rfl) (ci := 6) (q0 := 0) rfl rfl, fun U hU hW => ⟨rfl, by rw [hU], by rw [hU]; exact hP.sub [0] rfl, va_K.moved hW.alike hK, (hN.sub [0] (by decide) rfl).weaken (fun _ _ => trivial), nx_warm hW hnx⟩⟩ rfl rfl hl.1 rfl (Nat.le_of_ble_eq_true rfl) d_Mod_readNumber_81 ⟨Nat.le_of_ble_eq_true rfl, Nat.le_of_ble_eq_true rfl⟩) hP hN hS hA rfl rfl rfl (fun H locs hP hS => ?_)
        refine lv_aload_n hx hb d_Mod_readNumber_84 rfl (lv_at hl 3 rfl) ?_
        obtain ⟨o_19, hG18, h⟩ := bind1_some h
        refine bw_call (Lc := [wMod ct a0 o_17]) (Lc' := [wMod ct a0 o_19]) (L' := [wMod ct a0 o_19]) [0] (va_runV (As := []) (rest := []) ⟨hx, hb, hml, hown, hts⟩ (c_Mod_endFactor l ct dC dI a0 _ o_17 o_19 hG18) (cwV 0 hts g_Mod_127 rfl rfl rfl (by decide +kernel) ⟨Nat.le_of_ble_eq_true rfl, Nat.le_of_ble_eq_true rfl⟩) ⟨bw_blind nx_call, va_recv hK (hP 0 _ rfl) (ci := 6) (q0 := 0) rfl rfl, fun U hU hW => ⟨rfl, by rw [hU], by rw [hU]; exact hP.sub [0] rfl, va_K.moved hW.alike hK, (hN.sub [0] (by decide) rfl).weaken (fun _ _ => trivial), nx_warm hW hnx⟩⟩ rfl rfl hl.1 rfl (Nat.le_of_ble_eq_true rfl) d_Mod_readNumber_85 ⟨Nat.le_of_ble_eq_true rfl, Nat.le_of_ble_eq_true rfl⟩) hP hN hS hA rfl rfl rfl (fun H locs hP hS => ?_)
        obtain rfl := res1 h
        exact W.vret hx hb hr (fun t ht hW => ⟨rfl, by rw [ht]; exact hP, hS.F ht⟩) hS.2.2 d_Mod_readNumber_88
      · have h := ite_t c15 h
        refine lv_bipush (v := 10) hx hb d_Mod_readNumber_68 (by decide) ?_
        refine lv_iload_n hx hb d_Mod_readNumber_70 rfl (lv_at hl 0 rfl) ?_
        refine lv_imul hx hb d_Mod_readNumber_71 ?_
        refine lv_goto (tgt := 76) hx hb d_Mod_readNumber_72 (by decide) ?_
        refine lv_iadd hx hb d_Mod_readNumber_76 ?_
        refine lv_istore_n (lv' := [(1, .int (((1000 : Int32) * v2) + ((10 : Int32) * v12))), (3, .int v12), (2, .int ((g32 o_3 3 0) + (1 : Int32))), (0, .ref (a0 0))]) hx hb d_Mod_readNumber_77 rfl hl (by decide) rfl (fun ls hl => ?_)
        refine lv_aload_n hx hb d_Mod_readNumber_78 rfl (lv_at hl 3 rfl) ?_
        refine lv_iconst (v := 1) hx hb d_Mod_readNumber_79 (by decide) ?_
        refine lv_iload_n hx hb d_Mod_readNumber_80 rfl (lv_at hl 0 rfl) ?_
        obtain ⟨o_21, hG20, h⟩ := bind1_some h
        refine bw_call (Lc := [wMod ct a0 o_13]) (Lc' := [wMod ct a0 o_21]) (L' := [wMod ct a0 o_21]) [0] (va_runV (As := [.int (1 : Int32), .int (((1000 : Int32) * v2) + ((10 : Int32) * v12))]) (rest := []) ⟨hx, hb, hml, hown, hts⟩ (c_Mod_emit l ct dC dI a0 _ (1 : Int32) (((1000 : Int32) * v2) + ((10 : Int32) * v12)) o_13 o_21 hG20) (cwV 2 hts g_Mod_100 rfl rfl rfl (by decide +kernel) ⟨Nat.le_of_ble_eq_true rfl, Nat.le_of_ble_eq_true rfl⟩) ⟨bw_blind nx_call, va_recv hK (hP 0 _ rfl) (ci := 6) (q0 := 0) rfl rfl, fun U hU hW => ⟨rfl, by rw [hU], by rw [hU]; exact hP.sub [0] rfl, va_K.moved hW.alike hK, (hN.sub [0] (by decide) rfl).weaken (fun _ _ => trivial), nx_warm hW hnx⟩⟩ rfl rfl hl.1 rfl (Nat.le_of_ble_eq_true rfl) d_Mod_readNumber_81 ⟨Nat.le_of_ble_eq_true rfl, Nat.le_of_ble_eq_true rfl⟩) hP hN hS hA rfl rfl rfl (fun H locs hP hS => ?_)
        refine lv_aload_n hx hb d_Mod_readNumber_84 rfl (lv_at hl 3 rfl) ?_
        obtain ⟨o_23, hG22, h⟩ := bind1_some h
        refine bw_call (Lc := [wMod ct a0 o_21]) (Lc' := [wMod ct a0 o_23]) (L' := [wMod ct a0 o_23]) [0] (va_runV (As := []) (rest := []) ⟨hx, hb, hml, hown, hts⟩ (c_Mod_endFactor l ct dC dI a0 _ o_21 o_23 hG22) (cwV 0 hts g_Mod_127 rfl rfl rfl (by decide +kernel) ⟨Nat.le_of_ble_eq_true rfl, Nat.le_of_ble_eq_true rfl⟩) ⟨bw_blind nx_call, va_recv hK (hP 0 _ rfl) (ci := 6) (q0 := 0) rfl rfl, fun U hU hW => ⟨rfl, by rw [hU], by rw [hU]; exact hP.sub [0] rfl, va_K.moved hW.alike hK, (hN.sub [0] (by decide) rfl).weaken (fun _ _ => trivial), nx_warm hW hnx⟩⟩ rfl rfl hl.1 rfl (Nat.le_of_ble_eq_true rfl) d_Mod_readNumber_85 ⟨Nat.le_of_ble_eq_true rfl, Nat.le_of_ble_eq_true rfl⟩) hP hN hS hA rfl rfl rfl (fun H locs hP hS => ?_)
        obtain rfl := res1 h
        exact W.vret hx hb hr (fun t ht hW => ⟨rfl, by rw [ht]; exact hP, hS.F ht⟩) hS.2.2 d_Mod_readNumber_88
    · have h := ite_t c14 h
      refine lv_bipush (v := 100) hx hb d_Mod_readNumber_51 (by decide) ?_
      refine lv_iload_n hx hb d_Mod_readNumber_53 rfl (lv_at hl 0 rfl) ?_
      refine lv_imul hx hb d_Mod_readNumber_54 ?_
      refine lv_goto (tgt := 76) hx hb d_Mod_readNumber_55 (by decide) ?_
      refine lv_iadd hx hb d_Mod_readNumber_76 ?_
      refine lv_istore_n (lv' := [(1, .int (((1000 : Int32) * v2) + ((100 : Int32) * v12))), (3, .int v12), (2, .int ((g32 o_3 3 0) + (1 : Int32))), (0, .ref (a0 0))]) hx hb d_Mod_readNumber_77 rfl hl (by decide) rfl (fun ls hl => ?_)
      refine lv_aload_n hx hb d_Mod_readNumber_78 rfl (lv_at hl 3 rfl) ?_
      refine lv_iconst (v := 1) hx hb d_Mod_readNumber_79 (by decide) ?_
      refine lv_iload_n hx hb d_Mod_readNumber_80 rfl (lv_at hl 0 rfl) ?_
      obtain ⟨o_25, hG24, h⟩ := bind1_some h
      refine bw_call (Lc := [wMod ct a0 o_13]) (Lc' := [wMod ct a0 o_25]) (L' := [wMod ct a0 o_25]) [0] (va_runV (As := [.int (1 : Int32), .int (((1000 : Int32) * v2) + ((100 : Int32) * v12))]) (rest := []) ⟨hx, hb, hml, hown, hts⟩ (c_Mod_emit l ct dC dI a0 _ (1 : Int32) (((1000 : Int32) * v2) + ((100 : Int32) * v12)) o_13 o_25 hG24) (cwV 2 hts g_Mod_100 rfl rfl rfl (by decide +kernel) ⟨Nat.le_of_ble_eq_true rfl, Nat.le_of_ble_eq_true rfl⟩) ⟨bw_blind nx_call, va_recv hK (hP 0 _ rfl) (ci := 6) (q0 := 0) rfl rfl, fun U hU hW => ⟨rfl, by rw [hU], by rw [hU]; exact hP.sub [0] rfl, va_K.moved hW.alike hK, (hN.sub [0] (by decide) rfl).weaken (fun _ _ => trivial), nx_warm hW hnx⟩⟩ rfl rfl hl.1 rfl (Nat.le_of_ble_eq_true rfl) d_Mod_readNumber_81 ⟨Nat.le_of_ble_eq_true rfl, Nat.le_of_ble_eq_true rfl⟩) hP hN hS hA rfl rfl rfl (fun H locs hP hS => ?_)
      refine lv_aload_n hx hb d_Mod_readNumber_84 rfl (lv_at hl 3 rfl) ?_
      obtain ⟨o_27, hG26, h⟩ := bind1_some h
      refine bw_call (Lc := [wMod ct a0 o_25]) (Lc' := [wMod ct a0 o_27]) (L' := [wMod ct a0 o_27]) [0] (va_runV (As := []) (rest := []) ⟨hx, hb, hml, hown, hts⟩ (c_Mod_endFactor l ct dC dI a0 _ o_25 o_27 hG26) (cwV 0 hts g_Mod_127 rfl rfl rfl (by decide +kernel) ⟨Nat.le_of_ble_eq_true rfl, Nat.le_of_ble_eq_true rfl⟩) ⟨bw_blind nx_call, va_recv hK (hP 0 _ rfl) (ci := 6) (q0 := 0) rfl rfl, fun U hU hW => ⟨rfl, by rw [hU], by rw [hU]; exact hP.sub [0] rfl, va_K.moved hW.alike hK, (hN.sub [0] (by decide) rfl).weaken (fun _ _ => trivial), nx_warm hW hnx⟩⟩ rfl rfl hl.1 rfl (Nat.le_of_ble_eq_true rfl) d_Mod_readNumber_85 ⟨Nat.le_of_ble_eq_true rfl, Nat.le_of_ble_eq_true rfl⟩) hP hN hS hA rfl rfl rfl (fun H locs hP hS => ?_)
      obtain rfl := res1 h
      exact W.vret hx hb hr (fun t ht hW => ⟨rfl, by rw [ht]; exact hP, hS.F ht⟩) hS.2.2 d_Mod_readNumber_88
