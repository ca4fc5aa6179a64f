/-! 21.mod1 -/
abbrev b_Mod_readCell : ByteArray := prog_8_method_15_code
def y_Mod_readCell : MethodName := ⟨R_Mod, "readCell", "(I)V"⟩
abbrev b_Mod_readFactor : ByteArray := prog_8_method_16_code
def y_Mod_readFactor : MethodName := ⟨R_Mod, "readFactor", "(II)Z"⟩
abbrev b_Mod_operator : ByteArray := prog_8_method_17_code
def y_Mod_operator : MethodName := ⟨R_Mod, "operator", "(II)V"⟩
abbrev b_Mod_readExpression : ByteArray := prog_8_method_18_code
def y_Mod_readExpression : MethodName := ⟨R_Mod, "readExpression", "()V"⟩
abbrev b_Mod_isCompare : ByteArray := prog_8_method_19_code
def y_Mod_isCompare : MethodName := ⟨R_Mod, "isCompare", "(I)Z"⟩
abbrev b_Mod_readMark : ByteArray := prog_8_method_20_code
def y_Mod_readMark : MethodName := ⟨R_Mod, "readMark", "(I)V"⟩
abbrev b_Mod_readCompare : ByteArray := prog_8_method_21_code
def y_Mod_readCompare : MethodName := ⟨R_Mod, "readCompare", "()V"⟩
abbrev b_Mod_readChoice : ByteArray := prog_8_method_22_code
def y_Mod_readChoice : MethodName := ⟨R_Mod, "readChoice", "()V"⟩
abbrev b_Mod_isDefined : ByteArray := prog_8_method_23_code
def y_Mod_isDefined : MethodName := ⟨R_Mod, "isDefined", "(I)Z"⟩
abbrev b_Mod_readStatement : ByteArray := prog_8_method_24_code
def y_Mod_readStatement : MethodName := ⟨R_Mod, "readStatement", "()V"⟩
abbrev b_Mod_closeNeeds : ByteArray := prog_8_method_27_code
def y_Mod_closeNeeds : MethodName := ⟨R_Mod, "closeNeeds", "()V"⟩
abbrev b_Mod_accept : ByteArray := prog_8_method_25_code
def y_Mod_accept : MethodName := ⟨R_Mod, "accept", "()V"⟩
theorem cd_Mod_measureOf : Cond.code ⟨"PartFormulasModel", "measureOf", "(I)I"⟩ prog_8_method_7_code 1 (some .int) ∈ wsAll := wa_of 1085 (by decide +kernel) (by decide +kernel)
theorem ml_Mod_130 : Cond.methodLink "PartFormulasModel" 130 ⟨"PartFormulasModel", "measureOf", "(I)I"⟩ ∈ wsAll := wa_of 1083 (by decide +kernel) (by decide +kernel)
theorem st_Mod_measureOf : Cond.static ⟨"PartFormulasModel", "measureOf", "(I)I"⟩ ∈ wsAll := wa_of 1084 (by decide +kernel) (by decide +kernel)
theorem cd_Mod_readCell : Cond.code ⟨"PartFormulasModel", "readCell", "(I)V"⟩ prog_8_method_15_code 3 (none : Option Jvm.ClassFile.FieldType) ∈ wsAll := wa_of 1082 (by decide +kernel) (by decide +kernel)
theorem ml_Mod_136 : Cond.methodLink "PartFormulasModel" 136 ⟨"PartFormulasModel", "readCell", "(I)V"⟩ ∈ wsAll := wa_of 1079 (by decide +kernel) (by decide +kernel)
theorem im_Mod_readCell : Cond.instanceMethod ⟨"PartFormulasModel", "readCell", "(I)V"⟩ ∈ wsAll := wa_of 1081 (by decide +kernel) (by decide +kernel)
theorem se_Mod_readCell : Cond.selects "PartFormulasModel" ⟨"PartFormulasModel", "readCell", "(I)V"⟩ ⟨"PartFormulasModel", "readCell", "(I)V"⟩ ∈ wsAll := wa_of 42 (by decide +kernel) (by decide +kernel)
theorem cd_Mod_readNumber : Cond.code ⟨"PartFormulasModel", "readNumber", "()V"⟩ prog_8_method_14_code 4 (none : Option Jvm.ClassFile.FieldType) ∈ wsAll := wa_of 1054 (by decide +kernel) (by decide +kernel)
theorem ml_Mod_133 : Cond.methodLink "PartFormulasModel" 133 ⟨"PartFormulasModel", "readNumber", "()V"⟩ ∈ wsAll := wa_of 1051 (by decide +kernel) (by decide +kernel)
theorem im_Mod_readNumber : Cond.instanceMethod ⟨"PartFormulasModel", "readNumber", "()V"⟩ ∈ wsAll := wa_of 1053 (by decide +kernel) (by decide +kernel)
theorem se_Mod_readNumber : Cond.selects "PartFormulasModel" ⟨"PartFormulasModel", "readNumber", "()V"⟩ ⟨"PartFormulasModel", "readNumber", "()V"⟩ ∈ wsAll := wa_of 35 (by decide +kernel) (by decide +kernel)
theorem cd_Mod_push : Cond.code ⟨"PartFormulasModel", "push", "(I)V"⟩ prog_8_method_10_code 2 (none : Option Jvm.ClassFile.FieldType) ∈ wsAll := wa_of 1089 (by decide +kernel) (by decide +kernel)
theorem ml_Mod_139 : Cond.methodLink "PartFormulasModel" 139 ⟨"PartFormulasModel", "push", "(I)V"⟩ ∈ wsAll := wa_of 1086 (by decide +kernel) (by decide +kernel)
theorem im_Mod_push : Cond.instanceMethod ⟨"PartFormulasModel", "push", "(I)V"⟩ ∈ wsAll := wa_of 1088 (by decide +kernel) (by decide +kernel)
theorem se_Mod_push : Cond.selects "PartFormulasModel" ⟨"PartFormulasModel", "push", "(I)V"⟩ ⟨"PartFormulasModel", "push", "(I)V"⟩ ∈ wsAll := wa_of 43 (by decide +kernel) (by decide +kernel)
theorem cd_Mod_readFactor : Cond.code ⟨"PartFormulasModel", "readFactor", "(II)Z"⟩ prog_8_method_16_code 3 (some .boolean) ∈ wsAll := wa_of 1047 (by decide +kernel) (by decide +kernel)
theorem ml_Mod_142 : Cond.methodLink "PartFormulasModel" 142 ⟨"PartFormulasModel", "readFactor", "(II)Z"⟩ ∈ wsAll := wa_of 1044 (by decide +kernel) (by decide +kernel)
theorem im_Mod_readFactor : Cond.instanceMethod ⟨"PartFormulasModel", "readFactor", "(II)Z"⟩ ∈ wsAll := wa_of 1046 (by decide +kernel) (by decide +kernel)
theorem se_Mod_readFactor : Cond.selects "PartFormulasModel" ⟨"PartFormulasModel", "readFactor", "(II)Z"⟩ ⟨"PartFormulasModel", "readFactor", "(II)Z"⟩ ∈ wsAll := wa_of 34 (by decide +kernel) (by decide +kernel)
theorem cd_Mod_operator : Cond.code ⟨"PartFormulasModel", "operator", "(II)V"⟩ prog_8_method_17_code 3 (none : Option Jvm.ClassFile.FieldType) ∈ wsAll := wa_of 1093 (by decide +kernel) (by decide +kernel)
theorem ml_Mod_145 : Cond.methodLink "PartFormulasModel" 145 ⟨"PartFormulasModel", "operator", "(II)V"⟩ ∈ wsAll := wa_of 1090 (by decide +kernel) (by decide +kernel)
theorem im_Mod_operator : Cond.instanceMethod ⟨"PartFormulasModel", "operator", "(II)V"⟩ ∈ wsAll := wa_of 1092 (by decide +kernel) (by decide +kernel)
theorem se_Mod_operator : Cond.selects "PartFormulasModel" ⟨"PartFormulasModel", "operator", "(II)V"⟩ ⟨"PartFormulasModel", "operator", "(II)V"⟩ ∈ wsAll := wa_of 44 (by decide +kernel) (by decide +kernel)
theorem cd_Mod_isCompare : Cond.code ⟨"PartFormulasModel", "isCompare", "(I)Z"⟩ prog_8_method_19_code 1 (some .boolean) ∈ wsAll := wa_of 1100 (by decide +kernel) (by decide +kernel)
theorem ml_Mod_148 : Cond.methodLink "PartFormulasModel" 148 ⟨"PartFormulasModel", "isCompare", "(I)Z"⟩ ∈ wsAll := wa_of 1098 (by decide +kernel) (by decide +kernel)
theorem st_Mod_isCompare : Cond.static ⟨"PartFormulasModel", "isCompare", "(I)Z"⟩ ∈ wsAll := wa_of 1099 (by decide +kernel) (by decide +kernel)
theorem cd_Mod_readExpression : Cond.code ⟨"PartFormulasModel", "readExpression", "()V"⟩ prog_8_method_18_code 5 (none : Option Jvm.ClassFile.FieldType) ∈ wsAll := wa_of 1043 (by decide +kernel) (by decide +kernel)
theorem ml_Mod_151 : Cond.methodLink "PartFormulasModel" 151 ⟨"PartFormulasModel", "readExpression", "()V"⟩ ∈ wsAll := wa_of 1040 (by decide +kernel) (by decide +kernel)
theorem im_Mod_readExpression : Cond.instanceMethod ⟨"PartFormulasModel", "readExpression", "()V"⟩ ∈ wsAll := wa_of 1042 (by decide +kernel) (by decide +kernel)
theorem se_Mod_readExpression : Cond.selects "PartFormulasModel" ⟨"PartFormulasModel", "readExpression", "()V"⟩ ⟨"PartFormulasModel", "readExpression", "()V"⟩ ∈ wsAll := wa_of 33 (by decide +kernel) (by decide +kernel)
theorem cd_Mod_readCompare : Cond.code ⟨"PartFormulasModel", "readCompare", "()V"⟩ prog_8_method_21_code 2 (none : Option Jvm.ClassFile.FieldType) ∈ wsAll := wa_of 1097 (by decide +kernel) (by decide +kernel)
theorem ml_Mod_154 : Cond.methodLink "PartFormulasModel" 154 ⟨"PartFormulasModel", "readCompare", "()V"⟩ ∈ wsAll := wa_of 1094 (by decide +kernel) (by decide +kernel)
theorem im_Mod_readCompare : Cond.instanceMethod ⟨"PartFormulasModel", "readCompare", "()V"⟩ ∈ wsAll := wa_of 1096 (by decide +kernel) (by decide +kernel)
theorem se_Mod_readCompare : Cond.selects "PartFormulasModel" ⟨"PartFormulasModel", "readCompare", "()V"⟩ ⟨"PartFormulasModel", "readCompare", "()V"⟩ ∈ wsAll := wa_of 45 (by decide +kernel) (by decide +kernel)
theorem cd_Mod_readMark : Cond.code ⟨"PartFormulasModel", "readMark", "(I)V"⟩ prog_8_method_20_code 2 (none : Option Jvm.ClassFile.FieldType) ∈ wsAll := wa_of 1108 (by decide +kernel) (by decide +kernel)
theorem ml_Mod_157 : Cond.methodLink "PartFormulasModel" 157 ⟨"PartFormulasModel", "readMark", "(I)V"⟩ ∈ wsAll := wa_of 1105 (by decide +kernel) (by decide +kernel)
theorem im_Mod_readMark : Cond.instanceMethod ⟨"PartFormulasModel", "readMark", "(I)V"⟩ ∈ wsAll := wa_of 1107 (by decide +kernel) (by decide +kernel)
theorem se_Mod_readMark : Cond.selects "PartFormulasModel" ⟨"PartFormulasModel", "readMark", "(I)V"⟩ ⟨"PartFormulasModel", "readMark", "(I)V"⟩ ∈ wsAll := wa_of 47 (by decide +kernel) (by decide +kernel)
theorem fl_Mod_22 : Cond.fieldLink "PartFormulasModel" 22 "PartFormulasModel" "statements" "[I" ∈ wsAll := wa_of 923 (by decide +kernel) (by decide +kernel)
theorem fl_Mod_28 : Cond.fieldLink "PartFormulasModel" 28 "PartFormulasModel" "defines" "[I" ∈ wsAll := wa_of 925 (by decide +kernel) (by decide +kernel)
theorem fl_Mod_25 : Cond.fieldLink "PartFormulasModel" 25 "PartFormulasModel" "begins" "[I" ∈ wsAll := wa_of 924 (by decide +kernel) (by decide +kernel)
theorem cd_Mod_isDefined : Cond.code ⟨"PartFormulasModel", "isDefined", "(I)Z"⟩ prog_8_method_23_code 4 (some .boolean) ∈ wsAll := wa_of 1104 (by decide +kernel) (by decide +kernel)
theorem ml_Mod_160 : Cond.methodLink "PartFormulasModel" 160 ⟨"PartFormulasModel", "isDefined", "(I)Z"⟩ ∈ wsAll := wa_of 1101 (by decide +kernel) (by decide +kernel)
theorem im_Mod_isDefined : Cond.instanceMethod ⟨"PartFormulasModel", "isDefined", "(I)Z"⟩ ∈ wsAll := wa_of 1103 (by decide +kernel) (by decide +kernel)
theorem se_Mod_isDefined : Cond.selects "PartFormulasModel" ⟨"PartFormulasModel", "isDefined", "(I)Z"⟩ ⟨"PartFormulasModel", "isDefined", "(I)Z"⟩ ∈ wsAll := wa_of 46 (by decide +kernel) (by decide +kernel)
theorem cd_Mod_readChoice : Cond.code ⟨"PartFormulasModel", "readChoice", "()V"⟩ prog_8_method_22_code 2 (none : Option Jvm.ClassFile.FieldType) ∈ wsAll := wa_of 1112 (by decide +kernel) (by decide +kernel)
theorem ml_Mod_163 : Cond.methodLink "PartFormulasModel" 163 ⟨"PartFormulasModel", "readChoice", "()V"⟩ ∈ wsAll := wa_of 1109 (by decide +kernel) (by decide +kernel)
theorem im_Mod_readChoice : Cond.instanceMethod ⟨"PartFormulasModel", "readChoice", "()V"⟩ ∈ wsAll := wa_of 1111 (by decide +kernel) (by decide +kernel)
theorem se_Mod_readChoice : Cond.selects "PartFormulasModel" ⟨"PartFormulasModel", "readChoice", "()V"⟩ ⟨"PartFormulasModel", "readChoice", "()V"⟩ ∈ wsAll := wa_of 48 (by decide +kernel) (by decide +kernel)
theorem fl_Mod_44 : Cond.fieldLink "PartFormulasModel" 44 "PartFormulasModel" "needed" "[Z" ∈ wsAll := wa_of 933 (by decide +kernel) (by decide +kernel)
theorem fl_Mod_166 : Cond.fieldLink "PartFormulasModel" 166 "PartFormulasModel" "isRead" "Z" ∈ wsAll := wa_of 926 (by decide +kernel) (by decide +kernel)
theorem fl_Mod_170 : Cond.fieldLink "PartFormulasModel" 170 "PartFormulasModel" "worked" "Z" ∈ wsAll := wa_of 927 (by decide +kernel) (by decide +kernel)
theorem fl_Mod_41 : Cond.fieldLink "PartFormulasModel" 41 "PartFormulasModel" "lines" "[I" ∈ wsAll := wa_of 932 (by decide +kernel) (by decide +kernel)
theorem cd_Mod_closeNeeds : Cond.code ⟨"PartFormulasModel", "closeNeeds", "()V"⟩ prog_8_method_27_code 4 (none : Option Jvm.ClassFile.FieldType) ∈ wsAll := wa_of 1120 (by decide +kernel) (by decide +kernel)
theorem ml_Mod_173 : Cond.methodLink "PartFormulasModel" 173 ⟨"PartFormulasModel", "closeNeeds", "()V"⟩ ∈ wsAll := wa_of 1117 (by decide +kernel) (by decide +kernel)
theorem im_Mod_closeNeeds : Cond.instanceMethod ⟨"PartFormulasModel", "closeNeeds", "()V"⟩ ∈ wsAll := wa_of 1119 (by decide +kernel) (by decide +kernel)
theorem se_Mod_closeNeeds : Cond.selects "PartFormulasModel" ⟨"PartFormulasModel", "closeNeeds", "()V"⟩ ⟨"PartFormulasModel", "closeNeeds", "()V"⟩ ∈ wsAll := wa_of 50 (by decide +kernel) (by decide +kernel)
theorem d_Mod_accept_0 : decode b_Mod_accept 0 = .ok (.iconst 0, 1) := by decide +kernel
theorem d_Mod_accept_1 : decode b_Mod_accept 1 = .ok (.istore_n 1, 1) := by decide +kernel
theorem d_Mod_accept_2 : decode b_Mod_accept 2 = .ok (.iload_n 1, 1) := by decide +kernel
theorem d_Mod_accept_3 : decode b_Mod_accept 3 = .ok (.sipush 500, 3) := by decide +kernel
theorem d_Mod_accept_6 : decode b_Mod_accept 6 = .ok (.if_icmp .ge 41, 3) := by decide +kernel
theorem d_Mod_accept_9 : decode b_Mod_accept 9 = .ok (.aload_n 0, 1) := by decide +kernel
theorem d_Mod_accept_10 : decode b_Mod_accept 10 = .ok (.getfield 13, 3) := by decide +kernel
theorem d_Mod_accept_13 : decode b_Mod_accept 13 = .ok (.iload_n 1, 1) := by decide +kernel
theorem d_Mod_accept_14 : decode b_Mod_accept 14 = .ok (.aload_n 0, 1) := by decide +kernel
theorem d_Mod_accept_15 : decode b_Mod_accept 15 = .ok (.getfield 13, 3) := by decide +kernel
theorem d_Mod_accept_18 : decode b_Mod_accept 18 = .ok (.sipush 500, 3) := by decide +kernel
theorem d_Mod_accept_21 : decode b_Mod_accept 21 = .ok (.iload_n 1, 1) := by decide +kernel
theorem d_Mod_accept_22 : decode b_Mod_accept 22 = .ok (.iadd, 1) := by decide +kernel
theorem d_Mod_accept_23 : decode b_Mod_accept 23 = .ok (.iaload, 1) := by decide +kernel
theorem d_Mod_accept_24 : decode b_Mod_accept 24 = .ok (.iastore, 1) := by decide +kernel
theorem d_Mod_accept_25 : decode b_Mod_accept 25 = .ok (.aload_n 0, 1) := by decide +kernel
theorem d_Mod_accept_26 : decode b_Mod_accept 26 = .ok (.getfield 16, 3) := by decide +kernel
theorem d_Mod_accept_29 : decode b_Mod_accept 29 = .ok (.iload_n 1, 1) := by decide +kernel
theorem d_Mod_accept_30 : decode b_Mod_accept 30 = .ok (.aload_n 0, 1) := by decide +kernel
theorem d_Mod_accept_31 : decode b_Mod_accept 31 = .ok (.getfield 16, 3) := by decide +kernel
theorem d_Mod_accept_34 : decode b_Mod_accept 34 = .ok (.sipush 500, 3) := by decide +kernel
theorem d_Mod_accept_37 : decode b_Mod_accept 37 = .ok (.iload_n 1, 1) := by decide +kernel
theorem d_Mod_accept_38 : decode b_Mod_accept 38 = .ok (.iadd, 1) := by decide +kernel
theorem d_Mod_accept_39 : decode b_Mod_accept 39 = .ok (.iaload, 1) := by decide +kernel
theorem d_Mod_accept_40 : decode b_Mod_accept 40 = .ok (.iastore, 1) := by decide +kernel
theorem d_Mod_accept_41 : decode b_Mod_accept 41 = .ok (.iinc 1 1, 3) := by decide +kernel
theorem d_Mod_accept_44 : decode b_Mod_accept 44 = .ok (.goto (-42), 3) := by decide +kernel
theorem d_Mod_accept_47 : decode b_Mod_accept 47 = .ok (.iconst 0, 1) := by decide +kernel
theorem d_Mod_accept_48 : decode b_Mod_accept 48 = .ok (.istore_n 1, 1) := by decide +kernel
theorem d_Mod_accept_49 : decode b_Mod_accept 49 = .ok (.iload_n 1, 1) := by decide +kernel
theorem d_Mod_accept_50 : decode b_Mod_accept 50 = .ok (.bipush 25, 2) := by decide +kernel
theorem d_Mod_accept_52 : decode b_Mod_accept 52 = .ok (.if_icmp .ge 39, 3) := by decide +kernel
theorem d_Mod_accept_55 : decode b_Mod_accept 55 = .ok (.aload_n 0, 1) := by decide +kernel
theorem d_Mod_accept_56 : decode b_Mod_accept 56 = .ok (.getfield 25, 3) := by decide +kernel
theorem d_Mod_accept_59 : decode b_Mod_accept 59 = .ok (.iload_n 1, 1) := by decide +kernel
theorem d_Mod_accept_60 : decode b_Mod_accept 60 = .ok (.aload_n 0, 1) := by decide +kernel
theorem d_Mod_accept_61 : decode b_Mod_accept 61 = .ok (.getfield 25, 3) := by decide +kernel
theorem d_Mod_accept_64 : decode b_Mod_accept 64 = .ok (.bipush 25, 2) := by decide +kernel
theorem d_Mod_accept_66 : decode b_Mod_accept 66 = .ok (.iload_n 1, 1) := by decide +kernel
theorem d_Mod_accept_67 : decode b_Mod_accept 67 = .ok (.iadd, 1) := by decide +kernel
theorem d_Mod_accept_68 : decode b_Mod_accept 68 = .ok (.iaload, 1) := by decide +kernel
theorem d_Mod_accept_69 : decode b_Mod_accept 69 = .ok (.iastore, 1) := by decide +kernel
theorem d_Mod_accept_70 : decode b_Mod_accept 70 = .ok (.aload_n 0, 1) := by decide +kernel
theorem d_Mod_accept_71 : decode b_Mod_accept 71 = .ok (.getfield 28, 3) := by decide +kernel
theorem d_Mod_accept_74 : decode b_Mod_accept 74 = .ok (.iload_n 1, 1) := by decide +kernel
theorem d_Mod_accept_75 : decode b_Mod_accept 75 = .ok (.aload_n 0, 1) := by decide +kernel
theorem d_Mod_accept_76 : decode b_Mod_accept 76 = .ok (.getfield 28, 3) := by decide +kernel
theorem d_Mod_accept_79 : decode b_Mod_accept 79 = .ok (.bipush 25, 2) := by decide +kernel
theorem d_Mod_accept_81 : decode b_Mod_accept 81 = .ok (.iload_n 1, 1) := by decide +kernel
theorem d_Mod_accept_82 : decode b_Mod_accept 82 = .ok (.iadd, 1) := by decide +kernel
theorem d_Mod_accept_83 : decode b_Mod_accept 83 = .ok (.iaload, 1) := by decide +kernel
theorem d_Mod_accept_84 : decode b_Mod_accept 84 = .ok (.iastore, 1) := by decide +kernel
theorem d_Mod_accept_85 : decode b_Mod_accept 85 = .ok (.iinc 1 1, 3) := by decide +kernel
theorem d_Mod_accept_88 : decode b_Mod_accept 88 = .ok (.goto (-39), 3) := by decide +kernel
theorem d_Mod_accept_91 : decode b_Mod_accept 91 = .ok (.aload_n 0, 1) := by decide +kernel
theorem d_Mod_accept_92 : decode b_Mod_accept 92 = .ok (.getfield 19, 3) := by decide +kernel
theorem d_Mod_accept_95 : decode b_Mod_accept 95 = .ok (.iconst 0, 1) := by decide +kernel
theorem d_Mod_accept_96 : decode b_Mod_accept 96 = .ok (.aload_n 0, 1) := by decide +kernel
theorem d_Mod_accept_97 : decode b_Mod_accept 97 = .ok (.getfield 19, 3) := by decide +kernel
theorem d_Mod_accept_100 : decode b_Mod_accept 100 = .ok (.iconst 1, 1) := by decide +kernel
theorem d_Mod_accept_101 : decode b_Mod_accept 101 = .ok (.iaload, 1) := by decide +kernel
theorem d_Mod_accept_102 : decode b_Mod_accept 102 = .ok (.iastore, 1) := by decide +kernel
theorem d_Mod_accept_103 : decode b_Mod_accept 103 = .ok (.aload_n 0, 1) := by decide +kernel
theorem d_Mod_accept_104 : decode b_Mod_accept 104 = .ok (.getfield 22, 3) := by decide +kernel
theorem d_Mod_accept_107 : decode b_Mod_accept 107 = .ok (.iconst 0, 1) := by decide +kernel
theorem d_Mod_accept_108 : decode b_Mod_accept 108 = .ok (.aload_n 0, 1) := by decide +kernel
theorem d_Mod_accept_109 : decode b_Mod_accept 109 = .ok (.getfield 22, 3) := by decide +kernel
theorem d_Mod_accept_112 : decode b_Mod_accept 112 = .ok (.iconst 1, 1) := by decide +kernel
theorem d_Mod_accept_113 : decode b_Mod_accept 113 = .ok (.iaload, 1) := by decide +kernel
theorem d_Mod_accept_114 : decode b_Mod_accept 114 = .ok (.iastore, 1) := by decide +kernel
theorem d_Mod_accept_115 : decode b_Mod_accept 115 = .ok (.aload_n 0, 1) := by decide +kernel
theorem d_Mod_accept_116 : decode b_Mod_accept 116 = .ok (.iconst 1, 1) := by decide +kernel
theorem d_Mod_accept_117 : decode b_Mod_accept 117 = .ok (.putfield 166, 3) := by decide +kernel
theorem d_Mod_accept_120 : decode b_Mod_accept 120 = .ok (.aload_n 0, 1) := by decide +kernel
theorem d_Mod_accept_121 : decode b_Mod_accept 121 = .ok (.iconst 0, 1) := by decide +kernel
theorem d_Mod_accept_122 : decode b_Mod_accept 122 = .ok (.putfield 170, 3) := by decide +kernel
theorem d_Mod_accept_125 : decode b_Mod_accept 125 = .ok (.iconst 0, 1) := by decide +kernel
theorem d_Mod_accept_126 : decode b_Mod_accept 126 = .ok (.istore_n 1, 1) := by decide +kernel
theorem d_Mod_accept_127 : decode b_Mod_accept 127 = .ok (.iload_n 1, 1) := by decide +kernel
theorem d_Mod_accept_128 : decode b_Mod_accept 128 = .ok (.bipush 60, 2) := by decide +kernel
theorem d_Mod_accept_130 : decode b_Mod_accept 130 = .ok (.if_icmp .ge 16, 3) := by decide +kernel
theorem d_Mod_accept_133 : decode b_Mod_accept 133 = .ok (.aload_n 0, 1) := by decide +kernel
theorem d_Mod_accept_134 : decode b_Mod_accept 134 = .ok (.getfield 41, 3) := by decide +kernel
theorem d_Mod_accept_137 : decode b_Mod_accept 137 = .ok (.iload_n 1, 1) := by decide +kernel
theorem d_Mod_accept_138 : decode b_Mod_accept 138 = .ok (.iconst (-1), 1) := by decide +kernel
theorem d_Mod_accept_139 : decode b_Mod_accept 139 = .ok (.iastore, 1) := by decide +kernel
theorem d_Mod_accept_140 : decode b_Mod_accept 140 = .ok (.iinc 1 1, 3) := by decide +kernel
theorem d_Mod_accept_143 : decode b_Mod_accept 143 = .ok (.goto (-16), 3) := by decide +kernel
theorem d_Mod_accept_146 : decode b_Mod_accept 146 = .ok (.iconst 0, 1) := by decide +kernel
theorem d_Mod_accept_147 : decode b_Mod_accept 147 = .ok (.istore_n 1, 1) := by decide +kernel
theorem d_Mod_accept_148 : decode b_Mod_accept 148 = .ok (.iload_n 1, 1) := by decide +kernel
theorem d_Mod_accept_149 : decode b_Mod_accept 149 = .ok (.aload_n 0, 1) := by decide +kernel
theorem d_Mod_accept_150 : decode b_Mod_accept 150 = .ok (.getfield 22, 3) := by decide +kernel
theorem d_Mod_accept_153 : decode b_Mod_accept 153 = .ok (.iconst 0, 1) := by decide +kernel
theorem d_Mod_accept_154 : decode b_Mod_accept 154 = .ok (.iaload, 1) := by decide +kernel
theorem d_Mod_accept_155 : decode b_Mod_accept 155 = .ok (.if_icmp .ge 30, 3) := by decide +kernel
theorem d_Mod_accept_158 : decode b_Mod_accept 158 = .ok (.aload_n 0, 1) := by decide +kernel
theorem d_Mod_accept_159 : decode b_Mod_accept 159 = .ok (.getfield 28, 3) := by decide +kernel
theorem d_Mod_accept_162 : decode b_Mod_accept 162 = .ok (.iload_n 1, 1) := by decide +kernel
theorem d_Mod_accept_163 : decode b_Mod_accept 163 = .ok (.iaload, 1) := by decide +kernel
theorem d_Mod_accept_164 : decode b_Mod_accept 164 = .ok (.ifCond .lt 15, 3) := by decide +kernel
theorem d_Mod_accept_167 : decode b_Mod_accept 167 = .ok (.aload_n 0, 1) := by decide +kernel
theorem d_Mod_accept_168 : decode b_Mod_accept 168 = .ok (.getfield 41, 3) := by decide +kernel
theorem d_Mod_accept_171 : decode b_Mod_accept 171 = .ok (.aload_n 0, 1) := by decide +kernel
theorem d_Mod_accept_172 : decode b_Mod_accept 172 = .ok (.getfield 28, 3) := by decide +kernel
theorem d_Mod_accept_175 : decode b_Mod_accept 175 = .ok (.iload_n 1, 1) := by decide +kernel
theorem d_Mod_accept_176 : decode b_Mod_accept 176 = .ok (.iaload, 1) := by decide +kernel
theorem d_Mod_accept_177 : decode b_Mod_accept 177 = .ok (.iload_n 1, 1) := by decide +kernel
theorem d_Mod_accept_178 : decode b_Mod_accept 178 = .ok (.iastore, 1) := by decide +kernel
theorem d_Mod_accept_179 : decode b_Mod_accept 179 = .ok (.iinc 1 1, 3) := by decide +kernel
theorem d_Mod_accept_182 : decode b_Mod_accept 182 = .ok (.goto (-34), 3) := by decide +kernel
theorem d_Mod_accept_185 : decode b_Mod_accept 185 = .ok (.aload_n 0, 1) := by decide +kernel
theorem d_Mod_accept_186 : decode b_Mod_accept 186 = .ok (.invokevirtual 173, 3) := by decide +kernel
theorem d_Mod_accept_189 : decode b_Mod_accept 189 = .ok (.return_, 1) := by decide +kernel
theorem d_Mod_closeNeeds_0 : decode b_Mod_closeNeeds 0 = .ok (.iconst 0, 1) := by decide +kernel
theorem d_Mod_closeNeeds_1 : decode b_Mod_closeNeeds 1 = .ok (.istore_n 1, 1) := by decide +kernel
theorem d_Mod_closeNeeds_2 : decode b_Mod_closeNeeds 2 = .ok (.iload_n 1, 1) := by decide +kernel
theorem d_Mod_closeNeeds_3 : decode b_Mod_closeNeeds 3 = .ok (.sipush 3600, 3) := by decide +kernel
theorem d_Mod_closeNeeds_6 : decode b_Mod_closeNeeds 6 = .ok (.if_icmp .ge 16, 3) := by decide +kernel
theorem d_Mod_closeNeeds_9 : decode b_Mod_closeNeeds 9 = .ok (.aload_n 0, 1) := by decide +kernel
theorem d_Mod_closeNeeds_10 : decode b_Mod_closeNeeds 10 = .ok (.getfield 44, 3) := by decide +kernel
theorem d_Mod_closeNeeds_13 : decode b_Mod_closeNeeds 13 = .ok (.iload_n 1, 1) := by decide +kernel
theorem d_Mod_closeNeeds_14 : decode b_Mod_closeNeeds 14 = .ok (.iconst 0, 1) := by decide +kernel
theorem d_Mod_closeNeeds_15 : decode b_Mod_closeNeeds 15 = .ok (.bastore, 1) := by decide +kernel
theorem d_Mod_closeNeeds_16 : decode b_Mod_closeNeeds 16 = .ok (.iinc 1 1, 3) := by decide +kernel
theorem d_Mod_closeNeeds_19 : decode b_Mod_closeNeeds 19 = .ok (.goto (-17), 3) := by decide +kernel
theorem d_Mod_closeNeeds_22 : decode b_Mod_closeNeeds 22 = .ok (.iconst 0, 1) := by decide +kernel
theorem d_Mod_closeNeeds_23 : decode b_Mod_closeNeeds 23 = .ok (.istore_n 1, 1) := by decide +kernel
theorem d_Mod_closeNeeds_24 : decode b_Mod_closeNeeds 24 = .ok (.iload_n 1, 1) := by decide +kernel
theorem d_Mod_closeNeeds_25 : decode b_Mod_closeNeeds 25 = .ok (.aload_n 0, 1) := by decide +kernel
theorem d_Mod_closeNeeds_26 : decode b_Mod_closeNeeds 26 = .ok (.getfield 22, 3) := by decide +kernel
theorem d_Mod_closeNeeds_29 : decode b_Mod_closeNeeds 29 = .ok (.iconst 0, 1) := by decide +kernel
theorem d_Mod_closeNeeds_30 : decode b_Mod_closeNeeds 30 = .ok (.iaload, 1) := by decide +kernel
theorem d_Mod_closeNeeds_31 : decode b_Mod_closeNeeds 31 = .ok (.if_icmp .ge 75, 3) := by decide +kernel
theorem d_Mod_closeNeeds_34 : decode b_Mod_closeNeeds 34 = .ok (.aload_n 0, 1) := by decide +kernel
theorem d_Mod_closeNeeds_35 : decode b_Mod_closeNeeds 35 = .ok (.getfield 25, 3) := by decide +kernel
theorem d_Mod_closeNeeds_38 : decode b_Mod_closeNeeds 38 = .ok (.iload_n 1, 1) := by decide +kernel
theorem d_Mod_closeNeeds_39 : decode b_Mod_closeNeeds 39 = .ok (.iaload, 1) := by decide +kernel
theorem d_Mod_closeNeeds_40 : decode b_Mod_closeNeeds 40 = .ok (.istore_n 2, 1) := by decide +kernel
theorem d_Mod_closeNeeds_41 : decode b_Mod_closeNeeds 41 = .ok (.iload_n 2, 1) := by decide +kernel
theorem d_Mod_closeNeeds_42 : decode b_Mod_closeNeeds 42 = .ok (.aload_n 0, 1) := by decide +kernel
theorem d_Mod_closeNeeds_43 : decode b_Mod_closeNeeds 43 = .ok (.getfield 25, 3) := by decide +kernel
theorem d_Mod_closeNeeds_46 : decode b_Mod_closeNeeds 46 = .ok (.iload_n 1, 1) := by decide +kernel
theorem d_Mod_closeNeeds_47 : decode b_Mod_closeNeeds 47 = .ok (.iconst 1, 1) := by decide +kernel
theorem d_Mod_closeNeeds_48 : decode b_Mod_closeNeeds 48 = .ok (.iadd, 1) := by decide +kernel
theorem d_Mod_closeNeeds_49 : decode b_Mod_closeNeeds 49 = .ok (.iaload, 1) := by decide +kernel
theorem d_Mod_closeNeeds_50 : decode b_Mod_closeNeeds 50 = .ok (.if_icmp .ge 50, 3) := by decide +kernel
theorem d_Mod_closeNeeds_53 : decode b_Mod_closeNeeds 53 = .ok (.aload_n 0, 1) := by decide +kernel
theorem d_Mod_closeNeeds_54 : decode b_Mod_closeNeeds 54 = .ok (.getfield 28, 3) := by decide +kernel
theorem d_Mod_closeNeeds_57 : decode b_Mod_closeNeeds 57 = .ok (.iload_n 1, 1) := by decide +kernel
theorem d_Mod_closeNeeds_58 : decode b_Mod_closeNeeds 58 = .ok (.iaload, 1) := by decide +kernel
theorem d_Mod_closeNeeds_59 : decode b_Mod_closeNeeds 59 = .ok (.ifCond .lt 41, 3) := by decide +kernel
theorem d_Mod_closeNeeds_62 : decode b_Mod_closeNeeds 62 = .ok (.aload_n 0, 1) := by decide +kernel
theorem d_Mod_closeNeeds_63 : decode b_Mod_closeNeeds 63 = .ok (.getfield 13, 3) := by decide +kernel
theorem d_Mod_closeNeeds_66 : decode b_Mod_closeNeeds 66 = .ok (.iload_n 2, 1) := by decide +kernel
theorem d_Mod_closeNeeds_67 : decode b_Mod_closeNeeds 67 = .ok (.iaload, 1) := by decide +kernel
theorem d_Mod_closeNeeds_68 : decode b_Mod_closeNeeds 68 = .ok (.iconst 3, 1) := by decide +kernel
theorem d_Mod_closeNeeds_69 : decode b_Mod_closeNeeds 69 = .ok (.if_icmp .ne 25, 3) := by decide +kernel
theorem d_Mod_closeNeeds_72 : decode b_Mod_closeNeeds 72 = .ok (.aload_n 0, 1) := by decide +kernel
theorem d_Mod_closeNeeds_73 : decode b_Mod_closeNeeds 73 = .ok (.getfield 44, 3) := by decide +kernel
theorem d_Mod_closeNeeds_76 : decode b_Mod_closeNeeds 76 = .ok (.bipush 60, 2) := by decide +kernel
theorem d_Mod_closeNeeds_78 : decode b_Mod_closeNeeds 78 = .ok (.aload_n 0, 1) := by decide +kernel
theorem d_Mod_closeNeeds_79 : decode b_Mod_closeNeeds 79 = .ok (.getfield 28, 3) := by decide +kernel
theorem d_Mod_closeNeeds_82 : decode b_Mod_closeNeeds 82 = .ok (.iload_n 1, 1) := by decide +kernel
theorem d_Mod_closeNeeds_83 : decode b_Mod_closeNeeds 83 = .ok (.iaload, 1) := by decide +kernel
theorem d_Mod_closeNeeds_84 : decode b_Mod_closeNeeds 84 = .ok (.imul, 1) := by decide +kernel
theorem d_Mod_closeNeeds_85 : decode b_Mod_closeNeeds 85 = .ok (.aload_n 0, 1) := by decide +kernel
theorem d_Mod_closeNeeds_86 : decode b_Mod_closeNeeds 86 = .ok (.getfield 16, 3) := by decide +kernel
theorem d_Mod_closeNeeds_89 : decode b_Mod_closeNeeds 89 = .ok (.iload_n 2, 1) := by decide +kernel
theorem d_Mod_closeNeeds_90 : decode b_Mod_closeNeeds 90 = .ok (.iaload, 1) := by decide +kernel
theorem d_Mod_closeNeeds_91 : decode b_Mod_closeNeeds 91 = .ok (.iadd, 1) := by decide +kernel
theorem d_Mod_closeNeeds_92 : decode b_Mod_closeNeeds 92 = .ok (.iconst 1, 1) := by decide +kernel
theorem d_Mod_closeNeeds_93 : decode b_Mod_closeNeeds 93 = .ok (.bastore, 1) := by decide +kernel
theorem d_Mod_closeNeeds_94 : decode b_Mod_closeNeeds 94 = .ok (.iinc 2 1, 3) := by decide +kernel
theorem d_Mod_closeNeeds_97 : decode b_Mod_closeNeeds 97 = .ok (.goto (-56), 3) := by decide +kernel
theorem d_Mod_closeNeeds_100 : decode b_Mod_closeNeeds 100 = .ok (.iinc 1 1, 3) := by decide +kernel
theorem d_Mod_closeNeeds_103 : decode b_Mod_closeNeeds 103 = .ok (.goto (-79), 3) := by decide +kernel
theorem d_Mod_closeNeeds_106 : decode b_Mod_closeNeeds 106 = .ok (.iconst 0, 1) := by decide +kernel
theorem d_Mod_closeNeeds_107 : decode b_Mod_closeNeeds 107 = .ok (.istore_n 1, 1) := by decide +kernel
theorem d_Mod_closeNeeds_108 : decode b_Mod_closeNeeds 108 = .ok (.iload_n 1, 1) := by decide +kernel
theorem d_Mod_closeNeeds_109 : decode b_Mod_closeNeeds 109 = .ok (.bipush 60, 2) := by decide +kernel
theorem d_Mod_closeNeeds_111 : decode b_Mod_closeNeeds 111 = .ok (.if_icmp .ge 95, 3) := by decide +kernel
theorem d_Mod_closeNeeds_114 : decode b_Mod_closeNeeds 114 = .ok (.iconst 0, 1) := by decide +kernel
theorem d_Mod_closeNeeds_115 : decode b_Mod_closeNeeds 115 = .ok (.istore_n 2, 1) := by decide +kernel
theorem d_Mod_closeNeeds_116 : decode b_Mod_closeNeeds 116 = .ok (.iload_n 2, 1) := by decide +kernel
theorem d_Mod_closeNeeds_117 : decode b_Mod_closeNeeds 117 = .ok (.bipush 60, 2) := by decide +kernel
theorem d_Mod_closeNeeds_119 : decode b_Mod_closeNeeds 119 = .ok (.if_icmp .ge 81, 3) := by decide +kernel
theorem d_Mod_closeNeeds_122 : decode b_Mod_closeNeeds 122 = .ok (.iconst 0, 1) := by decide +kernel
theorem d_Mod_closeNeeds_123 : decode b_Mod_closeNeeds 123 = .ok (.istore_n 3, 1) := by decide +kernel
theorem d_Mod_closeNeeds_124 : decode b_Mod_closeNeeds 124 = .ok (.iload_n 3, 1) := by decide +kernel
theorem d_Mod_closeNeeds_125 : decode b_Mod_closeNeeds 125 = .ok (.bipush 60, 2) := by decide +kernel
theorem d_Mod_closeNeeds_127 : decode b_Mod_closeNeeds 127 = .ok (.if_icmp .ge 67, 3) := by decide +kernel
theorem d_Mod_closeNeeds_130 : decode b_Mod_closeNeeds 130 = .ok (.aload_n 0, 1) := by decide +kernel
theorem d_Mod_closeNeeds_131 : decode b_Mod_closeNeeds 131 = .ok (.getfield 44, 3) := by decide +kernel
theorem d_Mod_closeNeeds_134 : decode b_Mod_closeNeeds 134 = .ok (.bipush 60, 2) := by decide +kernel
theorem d_Mod_closeNeeds_136 : decode b_Mod_closeNeeds 136 = .ok (.iload_n 2, 1) := by decide +kernel
theorem d_Mod_closeNeeds_137 : decode b_Mod_closeNeeds 137 = .ok (.imul, 1) := by decide +kernel
theorem d_Mod_closeNeeds_138 : decode b_Mod_closeNeeds 138 = .ok (.iload_n 3, 1) := by decide +kernel
theorem d_Mod_closeNeeds_139 : decode b_Mod_closeNeeds 139 = .ok (.iadd, 1) := by decide +kernel
theorem d_Mod_closeNeeds_140 : decode b_Mod_closeNeeds 140 = .ok (.aload_n 0, 1) := by decide +kernel
theorem d_Mod_closeNeeds_141 : decode b_Mod_closeNeeds 141 = .ok (.getfield 44, 3) := by decide +kernel
theorem d_Mod_closeNeeds_144 : decode b_Mod_closeNeeds 144 = .ok (.bipush 60, 2) := by decide +kernel
theorem d_Mod_closeNeeds_146 : decode b_Mod_closeNeeds 146 = .ok (.iload_n 2, 1) := by decide +kernel
theorem d_Mod_closeNeeds_147 : decode b_Mod_closeNeeds 147 = .ok (.imul, 1) := by decide +kernel
theorem d_Mod_closeNeeds_148 : decode b_Mod_closeNeeds 148 = .ok (.iload_n 3, 1) := by decide +kernel
theorem d_Mod_closeNeeds_149 : decode b_Mod_closeNeeds 149 = .ok (.iadd, 1) := by decide +kernel
theorem d_Mod_closeNeeds_150 : decode b_Mod_closeNeeds 150 = .ok (.baload, 1) := by decide +kernel
theorem d_Mod_closeNeeds_151 : decode b_Mod_closeNeeds 151 = .ok (.ifCond .ne 31, 3) := by decide +kernel
theorem d_Mod_closeNeeds_154 : decode b_Mod_closeNeeds 154 = .ok (.aload_n 0, 1) := by decide +kernel
theorem d_Mod_closeNeeds_155 : decode b_Mod_closeNeeds 155 = .ok (.getfield 44, 3) := by decide +kernel
theorem d_Mod_closeNeeds_158 : decode b_Mod_closeNeeds 158 = .ok (.bipush 60, 2) := by decide +kernel
theorem d_Mod_closeNeeds_160 : decode b_Mod_closeNeeds 160 = .ok (.iload_n 2, 1) := by decide +kernel
theorem d_Mod_closeNeeds_161 : decode b_Mod_closeNeeds 161 = .ok (.imul, 1) := by decide +kernel
theorem d_Mod_closeNeeds_162 : decode b_Mod_closeNeeds 162 = .ok (.iload_n 1, 1) := by decide +kernel
theorem d_Mod_closeNeeds_163 : decode b_Mod_closeNeeds 163 = .ok (.iadd, 1) := by decide +kernel
theorem d_Mod_closeNeeds_164 : decode b_Mod_closeNeeds 164 = .ok (.baload, 1) := by decide +kernel
theorem d_Mod_closeNeeds_165 : decode b_Mod_closeNeeds 165 = .ok (.ifCond .eq 21, 3) := by decide +kernel
theorem d_Mod_closeNeeds_168 : decode b_Mod_closeNeeds 168 = .ok (.aload_n 0, 1) := by decide +kernel
theorem d_Mod_closeNeeds_169 : decode b_Mod_closeNeeds 169 = .ok (.getfield 44, 3) := by decide +kernel
theorem d_Mod_closeNeeds_172 : decode b_Mod_closeNeeds 172 = .ok (.bipush 60, 2) := by decide +kernel
theorem d_Mod_closeNeeds_174 : decode b_Mod_closeNeeds 174 = .ok (.iload_n 1, 1) := by decide +kernel
theorem d_Mod_closeNeeds_175 : decode b_Mod_closeNeeds 175 = .ok (.imul, 1) := by decide +kernel
theorem d_Mod_closeNeeds_176 : decode b_Mod_closeNeeds 176 = .ok (.iload_n 3, 1) := by decide +kernel
theorem d_Mod_closeNeeds_177 : decode b_Mod_closeNeeds 177 = .ok (.iadd, 1) := by decide +kernel
theorem d_Mod_closeNeeds_178 : decode b_Mod_closeNeeds 178 = .ok (.baload, 1) := by decide +kernel
theorem d_Mod_closeNeeds_179 : decode b_Mod_closeNeeds 179 = .ok (.ifCond .eq 7, 3) := by decide +kernel
theorem d_Mod_closeNeeds_182 : decode b_Mod_closeNeeds 182 = .ok (.iconst 1, 1) := by decide +kernel
theorem d_Mod_closeNeeds_183 : decode b_Mod_closeNeeds 183 = .ok (.goto 4, 3) := by decide +kernel
theorem d_Mod_closeNeeds_186 : decode b_Mod_closeNeeds 186 = .ok (.iconst 0, 1) := by decide +kernel
theorem d_Mod_closeNeeds_187 : decode b_Mod_closeNeeds 187 = .ok (.bastore, 1) := by decide +kernel
theorem d_Mod_closeNeeds_188 : decode b_Mod_closeNeeds 188 = .ok (.iinc 3 1, 3) := by decide +kernel
theorem d_Mod_closeNeeds_191 : decode b_Mod_closeNeeds 191 = .ok (.goto (-67), 3) := by decide +kernel
theorem d_Mod_closeNeeds_194 : decode b_Mod_closeNeeds 194 = .ok (.iinc 2 1, 3) := by decide +kernel
theorem d_Mod_closeNeeds_197 : decode b_Mod_closeNeeds 197 = .ok (.goto (-81), 3) := by decide +kernel
theorem d_Mod_closeNeeds_200 : decode b_Mod_closeNeeds 200 = .ok (.iinc 1 1, 3) := by decide +kernel
theorem d_Mod_closeNeeds_203 : decode b_Mod_closeNeeds 203 = .ok (.goto (-95), 3) := by decide +kernel
theorem d_Mod_closeNeeds_206 : decode b_Mod_closeNeeds 206 = .ok (.return_, 1) := by decide +kernel
theorem d_Mod_isCompare_0 : decode b_Mod_isCompare 0 = .ok (.iload_n 0, 1) := by decide +kernel
theorem d_Mod_isCompare_1 : decode b_Mod_isCompare 1 = .ok (.bipush 60, 2) := by decide +kernel
theorem d_Mod_isCompare_3 : decode b_Mod_isCompare 3 = .ok (.if_icmp .eq 15, 3) := by decide +kernel
theorem d_Mod_isCompare_6 : decode b_Mod_isCompare 6 = .ok (.iload_n 0, 1) := by decide +kernel
theorem d_Mod_isCompare_7 : decode b_Mod_isCompare 7 = .ok (.bipush 62, 2) := by decide +kernel
theorem d_Mod_isCompare_9 : decode b_Mod_isCompare 9 = .ok (.if_icmp .eq 9, 3) := by decide +kernel
theorem d_Mod_isCompare_12 : decode b_Mod_isCompare 12 = .ok (.iload_n 0, 1) := by decide +kernel
theorem d_Mod_isCompare_13 : decode b_Mod_isCompare 13 = .ok (.bipush 61, 2) := by decide +kernel
theorem d_Mod_isCompare_15 : decode b_Mod_isCompare 15 = .ok (.if_icmp .ne 7, 3) := by decide +kernel
theorem d_Mod_isCompare_18 : decode b_Mod_isCompare 18 = .ok (.iconst 1, 1) := by decide +kernel
theorem d_Mod_isCompare_19 : decode b_Mod_isCompare 19 = .ok (.goto 4, 3) := by decide +kernel
theorem d_Mod_isCompare_22 : decode b_Mod_isCompare 22 = .ok (.iconst 0, 1) := by decide +kernel
theorem d_Mod_isCompare_23 : decode b_Mod_isCompare 23 = .ok (.ireturn, 1) := by decide +kernel
theorem d_Mod_isDefined_0 : decode b_Mod_isDefined 0 = .ok (.iconst 0, 1) := by decide +kernel
theorem d_Mod_isDefined_1 : decode b_Mod_isDefined 1 = .ok (.istore_n 2, 1) := by decide +kernel
theorem d_Mod_isDefined_2 : decode b_Mod_isDefined 2 = .ok (.iconst 0, 1) := by decide +kernel
theorem d_Mod_isDefined_3 : decode b_Mod_isDefined 3 = .ok (.istore_n 3, 1) := by decide +kernel
theorem d_Mod_isDefined_4 : decode b_Mod_isDefined 4 = .ok (.iload_n 3, 1) := by decide +kernel
theorem d_Mod_isDefined_5 : decode b_Mod_isDefined 5 = .ok (.aload_n 0, 1) := by decide +kernel
theorem d_Mod_isDefined_6 : decode b_Mod_isDefined 6 = .ok (.getfield 22, 3) := by decide +kernel
theorem d_Mod_isDefined_9 : decode b_Mod_isDefined 9 = .ok (.iconst 1, 1) := by decide +kernel
theorem d_Mod_isDefined_10 : decode b_Mod_isDefined 10 = .ok (.iaload, 1) := by decide +kernel
theorem d_Mod_isDefined_11 : decode b_Mod_isDefined 11 = .ok (.if_icmp .ge 32, 3) := by decide +kernel
theorem d_Mod_isDefined_14 : decode b_Mod_isDefined 14 = .ok (.iload_n 2, 1) := by decide +kernel
theorem d_Mod_isDefined_15 : decode b_Mod_isDefined 15 = .ok (.ifCond .ne 16, 3) := by decide +kernel
theorem d_Mod_isDefined_18 : decode b_Mod_isDefined 18 = .ok (.aload_n 0, 1) := by decide +kernel
theorem d_Mod_isDefined_19 : decode b_Mod_isDefined 19 = .ok (.getfield 28, 3) := by decide +kernel
theorem d_Mod_isDefined_22 : decode b_Mod_isDefined 22 = .ok (.bipush 25, 2) := by decide +kernel
theorem d_Mod_isDefined_24 : decode b_Mod_isDefined 24 = .ok (.iload_n 3, 1) := by decide +kernel
theorem d_Mod_isDefined_25 : decode b_Mod_isDefined 25 = .ok (.iadd, 1) := by decide +kernel
theorem d_Mod_isDefined_26 : decode b_Mod_isDefined 26 = .ok (.iaload, 1) := by decide +kernel
theorem d_Mod_isDefined_27 : decode b_Mod_isDefined 27 = .ok (.iload_n 1, 1) := by decide +kernel
theorem d_Mod_isDefined_28 : decode b_Mod_isDefined 28 = .ok (.if_icmp .ne 7, 3) := by decide +kernel
theorem d_Mod_isDefined_31 : decode b_Mod_isDefined 31 = .ok (.iconst 1, 1) := by decide +kernel
theorem d_Mod_isDefined_32 : decode b_Mod_isDefined 32 = .ok (.goto 4, 3) := by decide +kernel
theorem d_Mod_isDefined_35 : decode b_Mod_isDefined 35 = .ok (.iconst 0, 1) := by decide +kernel
theorem d_Mod_isDefined_36 : decode b_Mod_isDefined 36 = .ok (.istore_n 2, 1) := by decide +kernel
theorem d_Mod_isDefined_37 : decode b_Mod_isDefined 37 = .ok (.iinc 3 1, 3) := by decide +kernel
theorem d_Mod_isDefined_40 : decode b_Mod_isDefined 40 = .ok (.goto (-36), 3) := by decide +kernel
theorem d_Mod_isDefined_43 : decode b_Mod_isDefined 43 = .ok (.iload_n 2, 1) := by decide +kernel
theorem d_Mod_isDefined_44 : decode b_Mod_isDefined 44 = .ok (.ireturn, 1) := by decide +kernel
theorem d_Mod_operator_0 : decode b_Mod_operator 0 = .ok (.aload_n 0, 1) := by decide +kernel
theorem d_Mod_operator_1 : decode b_Mod_operator 1 = .ok (.iload_n 2, 1) := by decide +kernel
theorem d_Mod_operator_2 : decode b_Mod_operator 2 = .ok (.bipush 8, 2) := by decide +kernel
theorem d_Mod_operator_4 : decode b_Mod_operator 4 = .ok (.invokevirtual 104, 3) := by decide +kernel
theorem d_Mod_operator_7 : decode b_Mod_operator 7 = .ok (.ifCond .eq 10, 3) := by decide +kernel
theorem d_Mod_operator_10 : decode b_Mod_operator 10 = .ok (.aload_n 0, 1) := by decide +kernel
theorem d_Mod_operator_11 : decode b_Mod_operator 11 = .ok (.invokevirtual 108, 3) := by decide +kernel
theorem d_Mod_operator_14 : decode b_Mod_operator 14 = .ok (.goto (-14), 3) := by decide +kernel
theorem d_Mod_operator_17 : decode b_Mod_operator 17 = .ok (.aload_n 0, 1) := by decide +kernel
theorem d_Mod_operator_18 : decode b_Mod_operator 18 = .ok (.iload_n 1, 1) := by decide +kernel
theorem d_Mod_operator_19 : decode b_Mod_operator 19 = .ok (.invokevirtual 139, 3) := by decide +kernel
theorem d_Mod_operator_22 : decode b_Mod_operator 22 = .ok (.return_, 1) := by decide +kernel
theorem d_Mod_readCell_0 : decode b_Mod_readCell 0 = .ok (.aload_n 0, 1) := by decide +kernel
theorem d_Mod_readCell_1 : decode b_Mod_readCell 1 = .ok (.dup, 1) := by decide +kernel
theorem d_Mod_readCell_2 : decode b_Mod_readCell 2 = .ok (.getfield 91, 3) := by decide +kernel
theorem d_Mod_readCell_5 : decode b_Mod_readCell 5 = .ok (.iconst 1, 1) := by decide +kernel
theorem d_Mod_readCell_6 : decode b_Mod_readCell 6 = .ok (.iadd, 1) := by decide +kernel
theorem d_Mod_readCell_7 : decode b_Mod_readCell 7 = .ok (.putfield 91, 3) := by decide +kernel
theorem d_Mod_readCell_10 : decode b_Mod_readCell 10 = .ok (.aload_n 0, 1) := by decide +kernel
theorem d_Mod_readCell_11 : decode b_Mod_readCell 11 = .ok (.invokevirtual 111, 3) := by decide +kernel
theorem d_Mod_readCell_14 : decode b_Mod_readCell 14 = .ok (.invokestatic 130, 3) := by decide +kernel
theorem d_Mod_readCell_17 : decode b_Mod_readCell 17 = .ok (.istore_n 2, 1) := by decide +kernel
theorem d_Mod_readCell_18 : decode b_Mod_readCell 18 = .ok (.iload_n 2, 1) := by decide +kernel
theorem d_Mod_readCell_19 : decode b_Mod_readCell 19 = .ok (.ifCond .ge 11, 3) := by decide +kernel
theorem d_Mod_readCell_22 : decode b_Mod_readCell 22 = .ok (.aload_n 0, 1) := by decide +kernel
theorem d_Mod_readCell_23 : decode b_Mod_readCell 23 = .ok (.aload_n 0, 1) := by decide +kernel
theorem d_Mod_readCell_24 : decode b_Mod_readCell 24 = .ok (.getfield 91, 3) := by decide +kernel
theorem d_Mod_readCell_27 : decode b_Mod_readCell 27 = .ok (.invokevirtual 119, 3) := by decide +kernel
theorem d_Mod_readCell_30 : decode b_Mod_readCell 30 = .ok (.aload_n 0, 1) := by decide +kernel
theorem d_Mod_readCell_31 : decode b_Mod_readCell 31 = .ok (.dup, 1) := by decide +kernel
theorem d_Mod_readCell_32 : decode b_Mod_readCell 32 = .ok (.getfield 91, 3) := by decide +kernel
theorem d_Mod_readCell_35 : decode b_Mod_readCell 35 = .ok (.iconst 1, 1) := by decide +kernel
theorem d_Mod_readCell_36 : decode b_Mod_readCell 36 = .ok (.iadd, 1) := by decide +kernel
theorem d_Mod_readCell_37 : decode b_Mod_readCell 37 = .ok (.putfield 91, 3) := by decide +kernel
theorem d_Mod_readCell_40 : decode b_Mod_readCell 40 = .ok (.aload_n 0, 1) := by decide +kernel
theorem d_Mod_readCell_41 : decode b_Mod_readCell 41 = .ok (.iconst 3, 1) := by decide +kernel
theorem d_Mod_readCell_42 : decode b_Mod_readCell 42 = .ok (.bipush 6, 2) := by decide +kernel
theorem d_Mod_readCell_44 : decode b_Mod_readCell 44 = .ok (.iload_n 1, 1) := by decide +kernel
theorem d_Mod_readCell_45 : decode b_Mod_readCell 45 = .ok (.bipush 65, 2) := by decide +kernel
theorem d_Mod_readCell_47 : decode b_Mod_readCell 47 = .ok (.isub, 1) := by decide +kernel
theorem d_Mod_readCell_48 : decode b_Mod_readCell 48 = .ok (.imul, 1) := by decide +kernel
theorem d_Mod_readCell_49 : decode b_Mod_readCell 49 = .ok (.iload_n 2, 1) := by decide +kernel
theorem d_Mod_readCell_50 : decode b_Mod_readCell 50 = .ok (.iadd, 1) := by decide +kernel
theorem d_Mod_readCell_51 : decode b_Mod_readCell 51 = .ok (.invokevirtual 100, 3) := by decide +kernel
theorem d_Mod_readCell_54 : decode b_Mod_readCell 54 = .ok (.aload_n 0, 1) := by decide +kernel
theorem d_Mod_readCell_55 : decode b_Mod_readCell 55 = .ok (.invokevirtual 127, 3) := by decide +kernel
theorem d_Mod_readCell_58 : decode b_Mod_readCell 58 = .ok (.return_, 1) := by decide +kernel
theorem d_Mod_readChoice_0 : decode b_Mod_readChoice 0 = .ok (.aload_n 0, 1) := by decide +kernel
theorem d_Mod_readChoice_1 : decode b_Mod_readChoice 1 = .ok (.invokevirtual 151, 3) := by decide +kernel
theorem d_Mod_readChoice_4 : decode b_Mod_readChoice 4 = .ok (.iconst 0, 1) := by decide +kernel
theorem d_Mod_readChoice_5 : decode b_Mod_readChoice 5 = .ok (.istore_n 1, 1) := by decide +kernel
theorem d_Mod_readChoice_6 : decode b_Mod_readChoice 6 = .ok (.aload_n 0, 1) := by decide +kernel
theorem d_Mod_readChoice_7 : decode b_Mod_readChoice 7 = .ok (.getfield 94, 3) := by decide +kernel
theorem d_Mod_readChoice_10 : decode b_Mod_readChoice 10 = .ok (.ifCond .ge 69, 3) := by decide +kernel
theorem d_Mod_readChoice_13 : decode b_Mod_readChoice 13 = .ok (.iload_n 1, 1) := by decide +kernel
theorem d_Mod_readChoice_14 : decode b_Mod_readChoice 14 = .ok (.iconst 4, 1) := by decide +kernel
theorem d_Mod_readChoice_15 : decode b_Mod_readChoice 15 = .ok (.if_icmp .ge 64, 3) := by decide +kernel
theorem d_Mod_readChoice_18 : decode b_Mod_readChoice 18 = .ok (.aload_n 0, 1) := by decide +kernel
theorem d_Mod_readChoice_19 : decode b_Mod_readChoice 19 = .ok (.invokevirtual 111, 3) := by decide +kernel
theorem d_Mod_readChoice_22 : decode b_Mod_readChoice 22 = .ok (.invokestatic 148, 3) := by decide +kernel
theorem d_Mod_readChoice_25 : decode b_Mod_readChoice 25 = .ok (.ifCond .eq 54, 3) := by decide +kernel
theorem d_Mod_readChoice_28 : decode b_Mod_readChoice 28 = .ok (.aload_n 0, 1) := by decide +kernel
theorem d_Mod_readChoice_29 : decode b_Mod_readChoice 29 = .ok (.invokevirtual 154, 3) := by decide +kernel
theorem d_Mod_readChoice_32 : decode b_Mod_readChoice 32 = .ok (.aload_n 0, 1) := by decide +kernel
theorem d_Mod_readChoice_33 : decode b_Mod_readChoice 33 = .ok (.bipush 63, 2) := by decide +kernel
theorem d_Mod_readChoice_35 : decode b_Mod_readChoice 35 = .ok (.invokevirtual 157, 3) := by decide +kernel
theorem d_Mod_readChoice_38 : decode b_Mod_readChoice 38 = .ok (.aload_n 0, 1) := by decide +kernel
theorem d_Mod_readChoice_39 : decode b_Mod_readChoice 39 = .ok (.getfield 94, 3) := by decide +kernel
theorem d_Mod_readChoice_42 : decode b_Mod_readChoice 42 = .ok (.ifCond .ge 7, 3) := by decide +kernel
theorem d_Mod_readChoice_45 : decode b_Mod_readChoice 45 = .ok (.aload_n 0, 1) := by decide +kernel
theorem d_Mod_readChoice_46 : decode b_Mod_readChoice 46 = .ok (.invokevirtual 151, 3) := by decide +kernel
theorem d_Mod_readChoice_49 : decode b_Mod_readChoice 49 = .ok (.aload_n 0, 1) := by decide +kernel
theorem d_Mod_readChoice_50 : decode b_Mod_readChoice 50 = .ok (.bipush 58, 2) := by decide +kernel
theorem d_Mod_readChoice_52 : decode b_Mod_readChoice 52 = .ok (.invokevirtual 157, 3) := by decide +kernel
theorem d_Mod_readChoice_55 : decode b_Mod_readChoice 55 = .ok (.aload_n 0, 1) := by decide +kernel
theorem d_Mod_readChoice_56 : decode b_Mod_readChoice 56 = .ok (.bipush 10, 2) := by decide +kernel
theorem d_Mod_readChoice_58 : decode b_Mod_readChoice 58 = .ok (.iconst 0, 1) := by decide +kernel
theorem d_Mod_readChoice_59 : decode b_Mod_readChoice 59 = .ok (.invokevirtual 100, 3) := by decide +kernel
theorem d_Mod_readChoice_62 : decode b_Mod_readChoice 62 = .ok (.aload_n 0, 1) := by decide +kernel
theorem d_Mod_readChoice_63 : decode b_Mod_readChoice 63 = .ok (.getfield 94, 3) := by decide +kernel
theorem d_Mod_readChoice_66 : decode b_Mod_readChoice 66 = .ok (.ifCond .ge 7, 3) := by decide +kernel
theorem d_Mod_readChoice_69 : decode b_Mod_readChoice 69 = .ok (.aload_n 0, 1) := by decide +kernel
theorem d_Mod_readChoice_70 : decode b_Mod_readChoice 70 = .ok (.invokevirtual 151, 3) := by decide +kernel
theorem d_Mod_readChoice_73 : decode b_Mod_readChoice 73 = .ok (.iinc 1 1, 3) := by decide +kernel
theorem d_Mod_readChoice_76 : decode b_Mod_readChoice 76 = .ok (.goto (-70), 3) := by decide +kernel
theorem d_Mod_readChoice_79 : decode b_Mod_readChoice 79 = .ok (.return_, 1) := by decide +kernel
theorem d_Mod_readCompare_0 : decode b_Mod_readCompare 0 = .ok (.aload_n 0, 1) := by decide +kernel
theorem d_Mod_readCompare_1 : decode b_Mod_readCompare 1 = .ok (.invokevirtual 111, 3) := by decide +kernel
theorem d_Mod_readCompare_4 : decode b_Mod_readCompare 4 = .ok (.istore_n 1, 1) := by decide +kernel
theorem d_Mod_readCompare_5 : decode b_Mod_readCompare 5 = .ok (.aload_n 0, 1) := by decide +kernel
theorem d_Mod_readCompare_6 : decode b_Mod_readCompare 6 = .ok (.getfield 94, 3) := by decide +kernel
theorem d_Mod_readCompare_9 : decode b_Mod_readCompare 9 = .ok (.ifCond .ge 18, 3) := by decide +kernel
theorem d_Mod_readCompare_12 : decode b_Mod_readCompare 12 = .ok (.iload_n 1, 1) := by decide +kernel
theorem d_Mod_readCompare_13 : decode b_Mod_readCompare 13 = .ok (.invokestatic 148, 3) := by decide +kernel
theorem d_Mod_readCompare_16 : decode b_Mod_readCompare 16 = .ok (.ifCond .ne 11, 3) := by decide +kernel
theorem d_Mod_readCompare_19 : decode b_Mod_readCompare 19 = .ok (.aload_n 0, 1) := by decide +kernel
theorem d_Mod_readCompare_20 : decode b_Mod_readCompare 20 = .ok (.aload_n 0, 1) := by decide +kernel
theorem d_Mod_readCompare_21 : decode b_Mod_readCompare 21 = .ok (.getfield 91, 3) := by decide +kernel
theorem d_Mod_readCompare_24 : decode b_Mod_readCompare 24 = .ok (.invokevirtual 119, 3) := by decide +kernel
theorem d_Mod_readCompare_27 : decode b_Mod_readCompare 27 = .ok (.aload_n 0, 1) := by decide +kernel
theorem d_Mod_readCompare_28 : decode b_Mod_readCompare 28 = .ok (.dup, 1) := by decide +kernel
theorem d_Mod_readCompare_29 : decode b_Mod_readCompare 29 = .ok (.getfield 91, 3) := by decide +kernel
theorem d_Mod_readCompare_32 : decode b_Mod_readCompare 32 = .ok (.iconst 1, 1) := by decide +kernel
theorem d_Mod_readCompare_33 : decode b_Mod_readCompare 33 = .ok (.iadd, 1) := by decide +kernel
theorem d_Mod_readCompare_34 : decode b_Mod_readCompare 34 = .ok (.putfield 91, 3) := by decide +kernel
theorem d_Mod_readCompare_37 : decode b_Mod_readCompare 37 = .ok (.aload_n 0, 1) := by decide +kernel
theorem d_Mod_readCompare_38 : decode b_Mod_readCompare 38 = .ok (.getfield 94, 3) := by decide +kernel
theorem d_Mod_readCompare_41 : decode b_Mod_readCompare 41 = .ok (.ifCond .ge 14, 3) := by decide +kernel
theorem d_Mod_readCompare_44 : decode b_Mod_readCompare 44 = .ok (.aload_n 0, 1) := by decide +kernel
theorem d_Mod_readCompare_45 : decode b_Mod_readCompare 45 = .ok (.invokevirtual 151, 3) := by decide +kernel
theorem d_Mod_readCompare_48 : decode b_Mod_readCompare 48 = .ok (.aload_n 0, 1) := by decide +kernel
theorem d_Mod_readCompare_49 : decode b_Mod_readCompare 49 = .ok (.bipush 9, 2) := by decide +kernel
theorem d_Mod_readCompare_51 : decode b_Mod_readCompare 51 = .ok (.iload_n 1, 1) := by decide +kernel
theorem d_Mod_readCompare_52 : decode b_Mod_readCompare 52 = .ok (.invokevirtual 100, 3) := by decide +kernel
theorem d_Mod_readCompare_55 : decode b_Mod_readCompare 55 = .ok (.return_, 1) := by decide +kernel
theorem d_Mod_readExpression_0 : decode b_Mod_readExpression 0 = .ok (.iconst 0, 1) := by decide +kernel
theorem d_Mod_readExpression_1 : decode b_Mod_readExpression 1 = .ok (.istore_n 1, 1) := by decide +kernel
theorem d_Mod_readExpression_2 : decode b_Mod_readExpression 2 = .ok (.iconst 1, 1) := by decide +kernel
theorem d_Mod_readExpression_3 : decode b_Mod_readExpression 3 = .ok (.istore_n 2, 1) := by decide +kernel
theorem d_Mod_readExpression_4 : decode b_Mod_readExpression 4 = .ok (.iconst 0, 1) := by decide +kernel
theorem d_Mod_readExpression_5 : decode b_Mod_readExpression 5 = .ok (.istore_n 3, 1) := by decide +kernel
theorem d_Mod_readExpression_6 : decode b_Mod_readExpression 6 = .ok (.aload_n 0, 1) := by decide +kernel
theorem d_Mod_readExpression_7 : decode b_Mod_readExpression 7 = .ok (.iconst 0, 1) := by decide +kernel
theorem d_Mod_readExpression_8 : decode b_Mod_readExpression 8 = .ok (.putfield 97, 3) := by decide +kernel
theorem d_Mod_readExpression_11 : decode b_Mod_readExpression 11 = .ok (.iload_n 2, 1) := by decide +kernel
theorem d_Mod_readExpression_12 : decode b_Mod_readExpression 12 = .ok (.ifCond .eq 201, 3) := by decide +kernel
theorem d_Mod_readExpression_15 : decode b_Mod_readExpression 15 = .ok (.aload_n 0, 1) := by decide +kernel
theorem d_Mod_readExpression_16 : decode b_Mod_readExpression 16 = .ok (.getfield 94, 3) := by decide +kernel
theorem d_Mod_readExpression_19 : decode b_Mod_readExpression 19 = .ok (.ifCond .ge 194, 3) := by decide +kernel
theorem d_Mod_readExpression_22 : decode b_Mod_readExpression 22 = .ok (.aload_n 0, 1) := by decide +kernel
theorem d_Mod_readExpression_23 : decode b_Mod_readExpression 23 = .ok (.invokevirtual 111, 3) := by decide +kernel
theorem d_Mod_readExpression_26 : decode b_Mod_readExpression 26 = .ok (.istore 4, 2) := by decide +kernel
theorem d_Mod_readExpression_28 : decode b_Mod_readExpression 28 = .ok (.iload_n 1, 1) := by decide +kernel
theorem d_Mod_readExpression_29 : decode b_Mod_readExpression 29 = .ok (.ifCond .ne 29, 3) := by decide +kernel
theorem d_Mod_readExpression_32 : decode b_Mod_readExpression 32 = .ok (.aload_n 0, 1) := by decide +kernel
theorem d_Mod_readExpression_33 : decode b_Mod_readExpression 33 = .ok (.iload 4, 2) := by decide +kernel
theorem d_Mod_readExpression_35 : decode b_Mod_readExpression 35 = .ok (.iload_n 3, 1) := by decide +kernel
theorem d_Mod_readExpression_36 : decode b_Mod_readExpression 36 = .ok (.invokevirtual 142, 3) := by decide +kernel
theorem d_Mod_readExpression_39 : decode b_Mod_readExpression 39 = .ok (.istore_n 1, 1) := by decide +kernel
theorem d_Mod_readExpression_40 : decode b_Mod_readExpression 40 = .ok (.iload 4, 2) := by decide +kernel
theorem d_Mod_readExpression_42 : decode b_Mod_readExpression 42 = .ok (.bipush 40, 2) := by decide +kernel
theorem d_Mod_readExpression_44 : decode b_Mod_readExpression 44 = .ok (.if_icmp .ne 9, 3) := by decide +kernel
theorem d_Mod_readExpression_47 : decode b_Mod_readExpression 47 = .ok (.iload_n 3, 1) := by decide +kernel
theorem d_Mod_readExpression_48 : decode b_Mod_readExpression 48 = .ok (.iconst 1, 1) := by decide +kernel
theorem d_Mod_readExpression_49 : decode b_Mod_readExpression 49 = .ok (.iadd, 1) := by decide +kernel
theorem d_Mod_readExpression_50 : decode b_Mod_readExpression 50 = .ok (.goto 4, 3) := by decide +kernel
theorem d_Mod_readExpression_53 : decode b_Mod_readExpression 53 = .ok (.iload_n 3, 1) := by decide +kernel
theorem d_Mod_readExpression_54 : decode b_Mod_readExpression 54 = .ok (.istore_n 3, 1) := by decide +kernel
theorem d_Mod_readExpression_55 : decode b_Mod_readExpression 55 = .ok (.goto 155, 3) := by decide +kernel
theorem d_Mod_readExpression_58 : decode b_Mod_readExpression 58 = .ok (.iload 4, 2) := by decide +kernel
theorem d_Mod_readExpression_60 : decode b_Mod_readExpression 60 = .ok (.bipush 43, 2) := by decide +kernel
theorem d_Mod_readExpression_62 : decode b_Mod_readExpression 62 = .ok (.if_icmp .eq 10, 3) := by decide +kernel
theorem d_Mod_readExpression_65 : decode b_Mod_readExpression 65 = .ok (.iload 4, 2) := by decide +kernel
theorem d_Mod_readExpression_67 : decode b_Mod_readExpression 67 = .ok (.bipush 45, 2) := by decide +kernel
theorem d_Mod_readExpression_69 : decode b_Mod_readExpression 69 = .ok (.if_icmp .ne 26, 3) := by decide +kernel
theorem d_Mod_readExpression_72 : decode b_Mod_readExpression 72 = .ok (.aload_n 0, 1) := by decide +kernel
theorem d_Mod_readExpression_73 : decode b_Mod_readExpression 73 = .ok (.iload 4, 2) := by decide +kernel
theorem d_Mod_readExpression_75 : decode b_Mod_readExpression 75 = .ok (.bipush 43, 2) := by decide +kernel
theorem d_Mod_readExpression_77 : decode b_Mod_readExpression 77 = .ok (.if_icmp .ne 7, 3) := by decide +kernel
theorem d_Mod_readExpression_80 : decode b_Mod_readExpression 80 = .ok (.iconst 5, 1) := by decide +kernel
theorem d_Mod_readExpression_81 : decode b_Mod_readExpression 81 = .ok (.goto 5, 3) := by decide +kernel
theorem d_Mod_readExpression_84 : decode b_Mod_readExpression 84 = .ok (.bipush 6, 2) := by decide +kernel
theorem d_Mod_readExpression_86 : decode b_Mod_readExpression 86 = .ok (.iconst 5, 1) := by decide +kernel
theorem d_Mod_readExpression_87 : decode b_Mod_readExpression 87 = .ok (.invokevirtual 145, 3) := by decide +kernel
theorem d_Mod_readExpression_90 : decode b_Mod_readExpression 90 = .ok (.iconst 0, 1) := by decide +kernel
theorem d_Mod_readExpression_91 : decode b_Mod_readExpression 91 = .ok (.istore_n 1, 1) := by decide +kernel
theorem d_Mod_readExpression_92 : decode b_Mod_readExpression 92 = .ok (.goto 118, 3) := by decide +kernel
theorem d_Mod_readExpression_95 : decode b_Mod_readExpression 95 = .ok (.iload 4, 2) := by decide +kernel
theorem d_Mod_readExpression_97 : decode b_Mod_readExpression 97 = .ok (.bipush 42, 2) := by decide +kernel
theorem d_Mod_readExpression_99 : decode b_Mod_readExpression 99 = .ok (.if_icmp .eq 10, 3) := by decide +kernel
theorem d_Mod_readExpression_102 : decode b_Mod_readExpression 102 = .ok (.iload 4, 2) := by decide +kernel
theorem d_Mod_readExpression_104 : decode b_Mod_readExpression 104 = .ok (.bipush 47, 2) := by decide +kernel
theorem d_Mod_readExpression_106 : decode b_Mod_readExpression 106 = .ok (.if_icmp .ne 28, 3) := by decide +kernel
theorem d_Mod_readExpression_109 : decode b_Mod_readExpression 109 = .ok (.aload_n 0, 1) := by decide +kernel
theorem d_Mod_readExpression_110 : decode b_Mod_readExpression 110 = .ok (.iload 4, 2) := by decide +kernel
theorem d_Mod_readExpression_112 : decode b_Mod_readExpression 112 = .ok (.bipush 42, 2) := by decide +kernel
theorem d_Mod_readExpression_114 : decode b_Mod_readExpression 114 = .ok (.if_icmp .ne 8, 3) := by decide +kernel
theorem d_Mod_readExpression_117 : decode b_Mod_readExpression 117 = .ok (.bipush 7, 2) := by decide +kernel
theorem d_Mod_readExpression_119 : decode b_Mod_readExpression 119 = .ok (.goto 5, 3) := by decide +kernel
theorem d_Mod_readExpression_122 : decode b_Mod_readExpression 122 = .ok (.bipush 8, 2) := by decide +kernel
theorem d_Mod_readExpression_124 : decode b_Mod_readExpression 124 = .ok (.bipush 7, 2) := by decide +kernel
theorem d_Mod_readExpression_126 : decode b_Mod_readExpression 126 = .ok (.invokevirtual 145, 3) := by decide +kernel
theorem d_Mod_readExpression_129 : decode b_Mod_readExpression 129 = .ok (.iconst 0, 1) := by decide +kernel
theorem d_Mod_readExpression_130 : decode b_Mod_readExpression 130 = .ok (.istore_n 1, 1) := by decide +kernel
theorem d_Mod_readExpression_131 : decode b_Mod_readExpression 131 = .ok (.goto 79, 3) := by decide +kernel
theorem d_Mod_readExpression_134 : decode b_Mod_readExpression 134 = .ok (.iload 4, 2) := by decide +kernel
theorem d_Mod_readExpression_136 : decode b_Mod_readExpression 136 = .ok (.bipush 41, 2) := by decide +kernel
theorem d_Mod_readExpression_138 : decode b_Mod_readExpression 138 = .ok (.if_icmp .ne 55, 3) := by decide +kernel
theorem d_Mod_readExpression_141 : decode b_Mod_readExpression 141 = .ok (.iload_n 3, 1) := by decide +kernel
theorem d_Mod_readExpression_142 : decode b_Mod_readExpression 142 = .ok (.ifCond .le 51, 3) := by decide +kernel
theorem d_Mod_readExpression_145 : decode b_Mod_readExpression 145 = .ok (.aload_n 0, 1) := by decide +kernel
theorem d_Mod_readExpression_146 : decode b_Mod_readExpression 146 = .ok (.bipush 11, 2) := by decide +kernel
theorem d_Mod_readExpression_148 : decode b_Mod_readExpression 148 = .ok (.bipush 11, 2) := by decide +kernel
theorem d_Mod_readExpression_150 : decode b_Mod_readExpression 150 = .ok (.invokevirtual 104, 3) := by decide +kernel
theorem d_Mod_readExpression_153 : decode b_Mod_readExpression 153 = .ok (.ifCond .ne 10, 3) := by decide +kernel
theorem d_Mod_readExpression_156 : decode b_Mod_readExpression 156 = .ok (.aload_n 0, 1) := by decide +kernel
theorem d_Mod_readExpression_157 : decode b_Mod_readExpression 157 = .ok (.invokevirtual 108, 3) := by decide +kernel
theorem d_Mod_readExpression_160 : decode b_Mod_readExpression 160 = .ok (.goto (-15), 3) := by decide +kernel
theorem d_Mod_readExpression_163 : decode b_Mod_readExpression 163 = .ok (.aload_n 0, 1) := by decide +kernel
theorem d_Mod_readExpression_164 : decode b_Mod_readExpression 164 = .ok (.dup, 1) := by decide +kernel
theorem d_Mod_readExpression_165 : decode b_Mod_readExpression 165 = .ok (.getfield 97, 3) := by decide +kernel
theorem d_Mod_readExpression_168 : decode b_Mod_readExpression 168 = .ok (.iconst 1, 1) := by decide +kernel
theorem d_Mod_readExpression_169 : decode b_Mod_readExpression 169 = .ok (.isub, 1) := by decide +kernel
theorem d_Mod_readExpression_170 : decode b_Mod_readExpression 170 = .ok (.putfield 97, 3) := by decide +kernel
theorem d_Mod_readExpression_173 : decode b_Mod_readExpression 173 = .ok (.iinc 3 (-1), 3) := by decide +kernel
theorem d_Mod_readExpression_176 : decode b_Mod_readExpression 176 = .ok (.aload_n 0, 1) := by decide +kernel
theorem d_Mod_readExpression_177 : decode b_Mod_readExpression 177 = .ok (.dup, 1) := by decide +kernel
theorem d_Mod_readExpression_178 : decode b_Mod_readExpression 178 = .ok (.getfield 91, 3) := by decide +kernel
theorem d_Mod_readExpression_181 : decode b_Mod_readExpression 181 = .ok (.iconst 1, 1) := by decide +kernel
theorem d_Mod_readExpression_182 : decode b_Mod_readExpression 182 = .ok (.iadd, 1) := by decide +kernel
theorem d_Mod_readExpression_183 : decode b_Mod_readExpression 183 = .ok (.putfield 91, 3) := by decide +kernel
theorem d_Mod_readExpression_186 : decode b_Mod_readExpression 186 = .ok (.aload_n 0, 1) := by decide +kernel
theorem d_Mod_readExpression_187 : decode b_Mod_readExpression 187 = .ok (.invokevirtual 127, 3) := by decide +kernel
theorem d_Mod_readExpression_190 : decode b_Mod_readExpression 190 = .ok (.goto 20, 3) := by decide +kernel
theorem d_Mod_readExpression_193 : decode b_Mod_readExpression 193 = .ok (.iload_n 3, 1) := by decide +kernel
theorem d_Mod_readExpression_194 : decode b_Mod_readExpression 194 = .ok (.ifCond .le 14, 3) := by decide +kernel
theorem d_Mod_readExpression_197 : decode b_Mod_readExpression 197 = .ok (.aload_n 0, 1) := by decide +kernel
theorem d_Mod_readExpression_198 : decode b_Mod_readExpression 198 = .ok (.aload_n 0, 1) := by decide +kernel
theorem d_Mod_readExpression_199 : decode b_Mod_readExpression 199 = .ok (.getfield 91, 3) := by decide +kernel
theorem d_Mod_readExpression_202 : decode b_Mod_readExpression 202 = .ok (.invokevirtual 119, 3) := by decide +kernel
theorem d_Mod_readExpression_205 : decode b_Mod_readExpression 205 = .ok (.goto 5, 3) := by decide +kernel
theorem d_Mod_readExpression_208 : decode b_Mod_readExpression 208 = .ok (.iconst 0, 1) := by decide +kernel
theorem d_Mod_readExpression_209 : decode b_Mod_readExpression 209 = .ok (.istore_n 2, 1) := by decide +kernel
theorem d_Mod_readExpression_210 : decode b_Mod_readExpression 210 = .ok (.goto (-199), 3) := by decide +kernel
theorem d_Mod_readExpression_213 : decode b_Mod_readExpression 213 = .ok (.aload_n 0, 1) := by decide +kernel
theorem d_Mod_readExpression_214 : decode b_Mod_readExpression 214 = .ok (.getfield 97, 3) := by decide +kernel
theorem d_Mod_readExpression_217 : decode b_Mod_readExpression 217 = .ok (.ifCond .le 17, 3) := by decide +kernel
theorem d_Mod_readExpression_220 : decode b_Mod_readExpression 220 = .ok (.aload_n 0, 1) := by decide +kernel
theorem d_Mod_readExpression_221 : decode b_Mod_readExpression 221 = .ok (.getfield 94, 3) := by decide +kernel
theorem d_Mod_readExpression_224 : decode b_Mod_readExpression 224 = .ok (.ifCond .ge 10, 3) := by decide +kernel
theorem d_Mod_readExpression_227 : decode b_Mod_readExpression 227 = .ok (.aload_n 0, 1) := by decide +kernel
theorem d_Mod_readExpression_228 : decode b_Mod_readExpression 228 = .ok (.invokevirtual 108, 3) := by decide +kernel
theorem d_Mod_readExpression_231 : decode b_Mod_readExpression 231 = .ok (.goto (-18), 3) := by decide +kernel
theorem d_Mod_readExpression_234 : decode b_Mod_readExpression 234 = .ok (.return_, 1) := by decide +kernel
theorem d_Mod_readFactor_0 : decode b_Mod_readFactor 0 = .ok (.iload_n 1, 1) := by decide +kernel
theorem d_Mod_readFactor_1 : decode b_Mod_readFactor 1 = .ok (.invokestatic 115, 3) := by decide +kernel
theorem d_Mod_readFactor_4 : decode b_Mod_readFactor 4 = .ok (.ifCond .eq 9, 3) := by decide +kernel
theorem d_Mod_readFactor_7 : decode b_Mod_readFactor 7 = .ok (.aload_n 0, 1) := by decide +kernel
theorem d_Mod_readFactor_8 : decode b_Mod_readFactor 8 = .ok (.invokevirtual 133, 3) := by decide +kernel
theorem d_Mod_readFactor_11 : decode b_Mod_readFactor 11 = .ok (.iconst 1, 1) := by decide +kernel
theorem d_Mod_readFactor_12 : decode b_Mod_readFactor 12 = .ok (.ireturn, 1) := by decide +kernel
theorem d_Mod_readFactor_13 : decode b_Mod_readFactor 13 = .ok (.iload_n 1, 1) := by decide +kernel
theorem d_Mod_readFactor_14 : decode b_Mod_readFactor 14 = .ok (.bipush 97, 2) := by decide +kernel
theorem d_Mod_readFactor_16 : decode b_Mod_readFactor 16 = .ok (.if_icmp .lt 34, 3) := by decide +kernel
theorem d_Mod_readFactor_19 : decode b_Mod_readFactor 19 = .ok (.iload_n 1, 1) := by decide +kernel
theorem d_Mod_readFactor_20 : decode b_Mod_readFactor 20 = .ok (.bipush 104, 2) := by decide +kernel
theorem d_Mod_readFactor_22 : decode b_Mod_readFactor 22 = .ok (.if_icmp .gt 28, 3) := by decide +kernel
theorem d_Mod_readFactor_25 : decode b_Mod_readFactor 25 = .ok (.aload_n 0, 1) := by decide +kernel
theorem d_Mod_readFactor_26 : decode b_Mod_readFactor 26 = .ok (.dup, 1) := by decide +kernel
theorem d_Mod_readFactor_27 : decode b_Mod_readFactor 27 = .ok (.getfield 91, 3) := by decide +kernel
theorem d_Mod_readFactor_30 : decode b_Mod_readFactor 30 = .ok (.iconst 1, 1) := by decide +kernel
theorem d_Mod_readFactor_31 : decode b_Mod_readFactor 31 = .ok (.iadd, 1) := by decide +kernel
theorem d_Mod_readFactor_32 : decode b_Mod_readFactor 32 = .ok (.putfield 91, 3) := by decide +kernel
theorem d_Mod_readFactor_35 : decode b_Mod_readFactor 35 = .ok (.aload_n 0, 1) := by decide +kernel
theorem d_Mod_readFactor_36 : decode b_Mod_readFactor 36 = .ok (.iconst 2, 1) := by decide +kernel
theorem d_Mod_readFactor_37 : decode b_Mod_readFactor 37 = .ok (.iload_n 1, 1) := by decide +kernel
theorem d_Mod_readFactor_38 : decode b_Mod_readFactor 38 = .ok (.bipush 97, 2) := by decide +kernel
theorem d_Mod_readFactor_40 : decode b_Mod_readFactor 40 = .ok (.isub, 1) := by decide +kernel
theorem d_Mod_readFactor_41 : decode b_Mod_readFactor 41 = .ok (.invokevirtual 100, 3) := by decide +kernel
theorem d_Mod_readFactor_44 : decode b_Mod_readFactor 44 = .ok (.aload_n 0, 1) := by decide +kernel
theorem d_Mod_readFactor_45 : decode b_Mod_readFactor 45 = .ok (.invokevirtual 127, 3) := by decide +kernel
theorem d_Mod_readFactor_48 : decode b_Mod_readFactor 48 = .ok (.iconst 1, 1) := by decide +kernel
theorem d_Mod_readFactor_49 : decode b_Mod_readFactor 49 = .ok (.ireturn, 1) := by decide +kernel
theorem d_Mod_readFactor_50 : decode b_Mod_readFactor 50 = .ok (.iload_n 1, 1) := by decide +kernel
theorem d_Mod_readFactor_51 : decode b_Mod_readFactor 51 = .ok (.bipush 65, 2) := by decide +kernel
theorem d_Mod_readFactor_53 : decode b_Mod_readFactor 53 = .ok (.if_icmp .lt 16, 3) := by decide +kernel
theorem d_Mod_readFactor_56 : decode b_Mod_readFactor 56 = .ok (.iload_n 1, 1) := by decide +kernel
theorem d_Mod_readFactor_57 : decode b_Mod_readFactor 57 = .ok (.bipush 74, 2) := by decide +kernel
theorem d_Mod_readFactor_59 : decode b_Mod_readFactor 59 = .ok (.if_icmp .gt 10, 3) := by decide +kernel
theorem d_Mod_readFactor_62 : decode b_Mod_readFactor 62 = .ok (.aload_n 0, 1) := by decide +kernel
theorem d_Mod_readFactor_63 : decode b_Mod_readFactor 63 = .ok (.iload_n 1, 1) := by decide +kernel
theorem d_Mod_readFactor_64 : decode b_Mod_readFactor 64 = .ok (.invokevirtual 136, 3) := by decide +kernel
theorem d_Mod_readFactor_67 : decode b_Mod_readFactor 67 = .ok (.iconst 1, 1) := by decide +kernel
theorem d_Mod_readFactor_68 : decode b_Mod_readFactor 68 = .ok (.ireturn, 1) := by decide +kernel
theorem d_Mod_readFactor_69 : decode b_Mod_readFactor 69 = .ok (.iload_n 1, 1) := by decide +kernel
theorem d_Mod_readFactor_70 : decode b_Mod_readFactor 70 = .ok (.bipush 45, 2) := by decide +kernel
theorem d_Mod_readFactor_72 : decode b_Mod_readFactor 72 = .ok (.if_icmp .ne 11, 3) := by decide +kernel
theorem d_Mod_readFactor_75 : decode b_Mod_readFactor 75 = .ok (.aload_n 0, 1) := by decide +kernel
theorem d_Mod_readFactor_76 : decode b_Mod_readFactor 76 = .ok (.iconst 4, 1) := by decide +kernel
theorem d_Mod_readFactor_77 : decode b_Mod_readFactor 77 = .ok (.invokevirtual 139, 3) := by decide +kernel
theorem d_Mod_readFactor_80 : decode b_Mod_readFactor 80 = .ok (.goto 32, 3) := by decide +kernel
theorem d_Mod_readFactor_83 : decode b_Mod_readFactor 83 = .ok (.iload_n 1, 1) := by decide +kernel
theorem d_Mod_readFactor_84 : decode b_Mod_readFactor 84 = .ok (.bipush 40, 2) := by decide +kernel
theorem d_Mod_readFactor_86 : decode b_Mod_readFactor 86 = .ok (.if_icmp .ne 18, 3) := by decide +kernel
theorem d_Mod_readFactor_89 : decode b_Mod_readFactor 89 = .ok (.iload_n 2, 1) := by decide +kernel
theorem d_Mod_readFactor_90 : decode b_Mod_readFactor 90 = .ok (.bipush 8, 2) := by decide +kernel
theorem d_Mod_readFactor_92 : decode b_Mod_readFactor 92 = .ok (.if_icmp .ge 12, 3) := by decide +kernel
theorem d_Mod_readFactor_95 : decode b_Mod_readFactor 95 = .ok (.aload_n 0, 1) := by decide +kernel
theorem d_Mod_readFactor_96 : decode b_Mod_readFactor 96 = .ok (.bipush 11, 2) := by decide +kernel
theorem d_Mod_readFactor_98 : decode b_Mod_readFactor 98 = .ok (.invokevirtual 139, 3) := by decide +kernel
theorem d_Mod_readFactor_101 : decode b_Mod_readFactor 101 = .ok (.goto 11, 3) := by decide +kernel
theorem d_Mod_readFactor_104 : decode b_Mod_readFactor 104 = .ok (.aload_n 0, 1) := by decide +kernel
theorem d_Mod_readFactor_105 : decode b_Mod_readFactor 105 = .ok (.aload_n 0, 1) := by decide +kernel
theorem d_Mod_readFactor_106 : decode b_Mod_readFactor 106 = .ok (.getfield 91, 3) := by decide +kernel
theorem d_Mod_readFactor_109 : decode b_Mod_readFactor 109 = .ok (.invokevirtual 119, 3) := by decide +kernel
theorem d_Mod_readFactor_112 : decode b_Mod_readFactor 112 = .ok (.iconst 0, 1) := by decide +kernel
theorem d_Mod_readFactor_113 : decode b_Mod_readFactor 113 = .ok (.ireturn, 1) := by decide +kernel
theorem d_Mod_readMark_0 : decode b_Mod_readMark 0 = .ok (.aload_n 0, 1) := by decide +kernel
theorem d_Mod_readMark_1 : decode b_Mod_readMark 1 = .ok (.getfield 94, 3) := by decide +kernel
theorem d_Mod_readMark_4 : decode b_Mod_readMark 4 = .ok (.ifCond .ge 19, 3) := by decide +kernel
theorem d_Mod_readMark_7 : decode b_Mod_readMark 7 = .ok (.aload_n 0, 1) := by decide +kernel
theorem d_Mod_readMark_8 : decode b_Mod_readMark 8 = .ok (.invokevirtual 111, 3) := by decide +kernel
theorem d_Mod_readMark_11 : decode b_Mod_readMark 11 = .ok (.iload_n 1, 1) := by decide +kernel
theorem d_Mod_readMark_12 : decode b_Mod_readMark 12 = .ok (.if_icmp .eq 11, 3) := by decide +kernel
theorem d_Mod_readMark_15 : decode b_Mod_readMark 15 = .ok (.aload_n 0, 1) := by decide +kernel
theorem d_Mod_readMark_16 : decode b_Mod_readMark 16 = .ok (.aload_n 0, 1) := by decide +kernel
theorem d_Mod_readMark_17 : decode b_Mod_readMark 17 = .ok (.getfield 91, 3) := by decide +kernel
theorem d_Mod_readMark_20 : decode b_Mod_readMark 20 = .ok (.invokevirtual 119, 3) := by decide +kernel
theorem d_Mod_readMark_23 : decode b_Mod_readMark 23 = .ok (.aload_n 0, 1) := by decide +kernel
theorem d_Mod_readMark_24 : decode b_Mod_readMark 24 = .ok (.dup, 1) := by decide +kernel
theorem d_Mod_readMark_25 : decode b_Mod_readMark 25 = .ok (.getfield 91, 3) := by decide +kernel
theorem d_Mod_readMark_28 : decode b_Mod_readMark 28 = .ok (.iconst 1, 1) := by decide +kernel
theorem d_Mod_readMark_29 : decode b_Mod_readMark 29 = .ok (.iadd, 1) := by decide +kernel
theorem d_Mod_readMark_30 : decode b_Mod_readMark 30 = .ok (.putfield 91, 3) := by decide +kernel
theorem d_Mod_readMark_33 : decode b_Mod_readMark 33 = .ok (.return_, 1) := by decide +kernel
theorem d_Mod_readStatement_0 : decode b_Mod_readStatement 0 = .ok (.bipush 25, 2) := by decide +kernel
theorem d_Mod_readStatement_2 : decode b_Mod_readStatement 2 = .ok (.aload_n 0, 1) := by decide +kernel
theorem d_Mod_readStatement_3 : decode b_Mod_readStatement 3 = .ok (.getfield 22, 3) := by decide +kernel
theorem d_Mod_readStatement_6 : decode b_Mod_readStatement 6 = .ok (.iconst 1, 1) := by decide +kernel
theorem d_Mod_readStatement_7 : decode b_Mod_readStatement 7 = .ok (.iaload, 1) := by decide +kernel
theorem d_Mod_readStatement_8 : decode b_Mod_readStatement 8 = .ok (.iadd, 1) := by decide +kernel
theorem d_Mod_readStatement_9 : decode b_Mod_readStatement 9 = .ok (.istore_n 1, 1) := by decide +kernel
theorem d_Mod_readStatement_10 : decode b_Mod_readStatement 10 = .ok (.aload_n 0, 1) := by decide +kernel
theorem d_Mod_readStatement_11 : decode b_Mod_readStatement 11 = .ok (.invokevirtual 111, 3) := by decide +kernel
theorem d_Mod_readStatement_14 : decode b_Mod_readStatement 14 = .ok (.istore_n 2, 1) := by decide +kernel
theorem d_Mod_readStatement_15 : decode b_Mod_readStatement 15 = .ok (.aload_n 0, 1) := by decide +kernel
theorem d_Mod_readStatement_16 : decode b_Mod_readStatement 16 = .ok (.getfield 25, 3) := by decide +kernel
theorem d_Mod_readStatement_19 : decode b_Mod_readStatement 19 = .ok (.iload_n 1, 1) := by decide +kernel
theorem d_Mod_readStatement_20 : decode b_Mod_readStatement 20 = .ok (.aload_n 0, 1) := by decide +kernel
theorem d_Mod_readStatement_21 : decode b_Mod_readStatement 21 = .ok (.getfield 19, 3) := by decide +kernel
theorem d_Mod_readStatement_24 : decode b_Mod_readStatement 24 = .ok (.iconst 1, 1) := by decide +kernel
theorem d_Mod_readStatement_25 : decode b_Mod_readStatement 25 = .ok (.iaload, 1) := by decide +kernel
theorem d_Mod_readStatement_26 : decode b_Mod_readStatement 26 = .ok (.iastore, 1) := by decide +kernel
theorem d_Mod_readStatement_27 : decode b_Mod_readStatement 27 = .ok (.aload_n 0, 1) := by decide +kernel
theorem d_Mod_readStatement_28 : decode b_Mod_readStatement 28 = .ok (.getfield 28, 3) := by decide +kernel
theorem d_Mod_readStatement_31 : decode b_Mod_readStatement 31 = .ok (.iload_n 1, 1) := by decide +kernel
theorem d_Mod_readStatement_32 : decode b_Mod_readStatement 32 = .ok (.iconst (-1), 1) := by decide +kernel
theorem d_Mod_readStatement_33 : decode b_Mod_readStatement 33 = .ok (.iastore, 1) := by decide +kernel
theorem d_Mod_readStatement_34 : decode b_Mod_readStatement 34 = .ok (.iload_n 2, 1) := by decide +kernel
theorem d_Mod_readStatement_35 : decode b_Mod_readStatement 35 = .ok (.bipush 33, 2) := by decide +kernel
theorem d_Mod_readStatement_37 : decode b_Mod_readStatement 37 = .ok (.if_icmp .ne 24, 3) := by decide +kernel
theorem d_Mod_readStatement_40 : decode b_Mod_readStatement 40 = .ok (.aload_n 0, 1) := by decide +kernel
theorem d_Mod_readStatement_41 : decode b_Mod_readStatement 41 = .ok (.dup, 1) := by decide +kernel
theorem d_Mod_readStatement_42 : decode b_Mod_readStatement 42 = .ok (.getfield 91, 3) := by decide +kernel
theorem d_Mod_readStatement_45 : decode b_Mod_readStatement 45 = .ok (.iconst 1, 1) := by decide +kernel
theorem d_Mod_readStatement_46 : decode b_Mod_readStatement 46 = .ok (.iadd, 1) := by decide +kernel
theorem d_Mod_readStatement_47 : decode b_Mod_readStatement 47 = .ok (.putfield 91, 3) := by decide +kernel
theorem d_Mod_readStatement_50 : decode b_Mod_readStatement 50 = .ok (.aload_n 0, 1) := by decide +kernel
theorem d_Mod_readStatement_51 : decode b_Mod_readStatement 51 = .ok (.invokevirtual 151, 3) := by decide +kernel
theorem d_Mod_readStatement_54 : decode b_Mod_readStatement 54 = .ok (.aload_n 0, 1) := by decide +kernel
theorem d_Mod_readStatement_55 : decode b_Mod_readStatement 55 = .ok (.invokevirtual 154, 3) := by decide +kernel
theorem d_Mod_readStatement_58 : decode b_Mod_readStatement 58 = .ok (.goto 131, 3) := by decide +kernel
theorem d_Mod_readStatement_61 : decode b_Mod_readStatement 61 = .ok (.iload_n 2, 1) := by decide +kernel
theorem d_Mod_readStatement_62 : decode b_Mod_readStatement 62 = .ok (.bipush 65, 2) := by decide +kernel
theorem d_Mod_readStatement_64 : decode b_Mod_readStatement 64 = .ok (.if_icmp .lt 117, 3) := by decide +kernel
theorem d_Mod_readStatement_67 : decode b_Mod_readStatement 67 = .ok (.iload_n 2, 1) := by decide +kernel
theorem d_Mod_readStatement_68 : decode b_Mod_readStatement 68 = .ok (.bipush 74, 2) := by decide +kernel
theorem d_Mod_readStatement_70 : decode b_Mod_readStatement 70 = .ok (.if_icmp .gt 111, 3) := by decide +kernel
theorem d_Mod_readStatement_73 : decode b_Mod_readStatement 73 = .ok (.aload_n 0, 1) := by decide +kernel
theorem d_Mod_readStatement_74 : decode b_Mod_readStatement 74 = .ok (.getfield 91, 3) := by decide +kernel
theorem d_Mod_readStatement_77 : decode b_Mod_readStatement 77 = .ok (.istore_n 3, 1) := by decide +kernel
theorem d_Mod_readStatement_78 : decode b_Mod_readStatement 78 = .ok (.aload_n 0, 1) := by decide +kernel
theorem d_Mod_readStatement_79 : decode b_Mod_readStatement 79 = .ok (.dup, 1) := by decide +kernel
theorem d_Mod_readStatement_80 : decode b_Mod_readStatement 80 = .ok (.getfield 91, 3) := by decide +kernel
theorem d_Mod_readStatement_83 : decode b_Mod_readStatement 83 = .ok (.iconst 1, 1) := by decide +kernel
theorem d_Mod_readStatement_84 : decode b_Mod_readStatement 84 = .ok (.iadd, 1) := by decide +kernel
theorem d_Mod_readStatement_85 : decode b_Mod_readStatement 85 = .ok (.putfield 91, 3) := by decide +kernel
theorem d_Mod_readStatement_88 : decode b_Mod_readStatement 88 = .ok (.aload_n 0, 1) := by decide +kernel
theorem d_Mod_readStatement_89 : decode b_Mod_readStatement 89 = .ok (.invokevirtual 111, 3) := by decide +kernel
theorem d_Mod_readStatement_92 : decode b_Mod_readStatement 92 = .ok (.invokestatic 130, 3) := by decide +kernel
theorem d_Mod_readStatement_95 : decode b_Mod_readStatement 95 = .ok (.istore 4, 2) := by decide +kernel
theorem d_Mod_readStatement_97 : decode b_Mod_readStatement 97 = .ok (.iload 4, 2) := by decide +kernel
theorem d_Mod_readStatement_99 : decode b_Mod_readStatement 99 = .ok (.ifCond .ge 11, 3) := by decide +kernel
theorem d_Mod_readStatement_102 : decode b_Mod_readStatement 102 = .ok (.aload_n 0, 1) := by decide +kernel
theorem d_Mod_readStatement_103 : decode b_Mod_readStatement 103 = .ok (.aload_n 0, 1) := by decide +kernel
theorem d_Mod_readStatement_104 : decode b_Mod_readStatement 104 = .ok (.getfield 91, 3) := by decide +kernel
theorem d_Mod_readStatement_107 : decode b_Mod_readStatement 107 = .ok (.invokevirtual 119, 3) := by decide +kernel
theorem d_Mod_readStatement_110 : decode b_Mod_readStatement 110 = .ok (.bipush 6, 2) := by decide +kernel
theorem d_Mod_readStatement_112 : decode b_Mod_readStatement 112 = .ok (.iload_n 2, 1) := by decide +kernel
theorem d_Mod_readStatement_113 : decode b_Mod_readStatement 113 = .ok (.bipush 65, 2) := by decide +kernel
theorem d_Mod_readStatement_115 : decode b_Mod_readStatement 115 = .ok (.isub, 1) := by decide +kernel
theorem d_Mod_readStatement_116 : decode b_Mod_readStatement 116 = .ok (.imul, 1) := by decide +kernel
theorem d_Mod_readStatement_117 : decode b_Mod_readStatement 117 = .ok (.iload 4, 2) := by decide +kernel
theorem d_Mod_readStatement_119 : decode b_Mod_readStatement 119 = .ok (.iadd, 1) := by decide +kernel
theorem d_Mod_readStatement_120 : decode b_Mod_readStatement 120 = .ok (.istore 5, 2) := by decide +kernel
theorem d_Mod_readStatement_122 : decode b_Mod_readStatement 122 = .ok (.aload_n 0, 1) := by decide +kernel
theorem d_Mod_readStatement_123 : decode b_Mod_readStatement 123 = .ok (.getfield 94, 3) := by decide +kernel
theorem d_Mod_readStatement_126 : decode b_Mod_readStatement 126 = .ok (.ifCond .ge 17, 3) := by decide +kernel
theorem d_Mod_readStatement_129 : decode b_Mod_readStatement 129 = .ok (.aload_n 0, 1) := by decide +kernel
theorem d_Mod_readStatement_130 : decode b_Mod_readStatement 130 = .ok (.iload 5, 2) := by decide +kernel
theorem d_Mod_readStatement_132 : decode b_Mod_readStatement 132 = .ok (.invokevirtual 160, 3) := by decide +kernel
theorem d_Mod_readStatement_135 : decode b_Mod_readStatement 135 = .ok (.ifCond .eq 8, 3) := by decide +kernel
theorem d_Mod_readStatement_138 : decode b_Mod_readStatement 138 = .ok (.aload_n 0, 1) := by decide +kernel
theorem d_Mod_readStatement_139 : decode b_Mod_readStatement 139 = .ok (.iload_n 3, 1) := by decide +kernel
theorem d_Mod_readStatement_140 : decode b_Mod_readStatement 140 = .ok (.invokevirtual 119, 3) := by decide +kernel
theorem d_Mod_readStatement_143 : decode b_Mod_readStatement 143 = .ok (.aload_n 0, 1) := by decide +kernel
theorem d_Mod_readStatement_144 : decode b_Mod_readStatement 144 = .ok (.dup, 1) := by decide +kernel
theorem d_Mod_readStatement_145 : decode b_Mod_readStatement 145 = .ok (.getfield 91, 3) := by decide +kernel
theorem d_Mod_readStatement_148 : decode b_Mod_readStatement 148 = .ok (.iconst 1, 1) := by decide +kernel
theorem d_Mod_readStatement_149 : decode b_Mod_readStatement 149 = .ok (.iadd, 1) := by decide +kernel
theorem d_Mod_readStatement_150 : decode b_Mod_readStatement 150 = .ok (.putfield 91, 3) := by decide +kernel
theorem d_Mod_readStatement_153 : decode b_Mod_readStatement 153 = .ok (.aload_n 0, 1) := by decide +kernel
theorem d_Mod_readStatement_154 : decode b_Mod_readStatement 154 = .ok (.bipush 61, 2) := by decide +kernel
theorem d_Mod_readStatement_156 : decode b_Mod_readStatement 156 = .ok (.invokevirtual 157, 3) := by decide +kernel
theorem d_Mod_readStatement_159 : decode b_Mod_readStatement 159 = .ok (.aload_n 0, 1) := by decide +kernel
theorem d_Mod_readStatement_160 : decode b_Mod_readStatement 160 = .ok (.getfield 28, 3) := by decide +kernel
theorem d_Mod_readStatement_163 : decode b_Mod_readStatement 163 = .ok (.iload_n 1, 1) := by decide +kernel
theorem d_Mod_readStatement_164 : decode b_Mod_readStatement 164 = .ok (.iload 5, 2) := by decide +kernel
theorem d_Mod_readStatement_166 : decode b_Mod_readStatement 166 = .ok (.iastore, 1) := by decide +kernel
theorem d_Mod_readStatement_167 : decode b_Mod_readStatement 167 = .ok (.aload_n 0, 1) := by decide +kernel
theorem d_Mod_readStatement_168 : decode b_Mod_readStatement 168 = .ok (.getfield 94, 3) := by decide +kernel
theorem d_Mod_readStatement_171 : decode b_Mod_readStatement 171 = .ok (.ifCond .ge 7, 3) := by decide +kernel
theorem d_Mod_readStatement_174 : decode b_Mod_readStatement 174 = .ok (.aload_n 0, 1) := by decide +kernel
theorem d_Mod_readStatement_175 : decode b_Mod_readStatement 175 = .ok (.invokevirtual 163, 3) := by decide +kernel
theorem d_Mod_readStatement_178 : decode b_Mod_readStatement 178 = .ok (.goto 11, 3) := by decide +kernel
theorem d_Mod_readStatement_181 : decode b_Mod_readStatement 181 = .ok (.aload_n 0, 1) := by decide +kernel
theorem d_Mod_readStatement_182 : decode b_Mod_readStatement 182 = .ok (.aload_n 0, 1) := by decide +kernel
theorem d_Mod_readStatement_183 : decode b_Mod_readStatement 183 = .ok (.getfield 91, 3) := by decide +kernel
theorem d_Mod_readStatement_186 : decode b_Mod_readStatement 186 = .ok (.invokevirtual 119, 3) := by decide +kernel
theorem d_Mod_readStatement_189 : decode b_Mod_readStatement 189 = .ok (.aload_n 0, 1) := by decide +kernel
theorem d_Mod_readStatement_190 : decode b_Mod_readStatement 190 = .ok (.getfield 22, 3) := by decide +kernel
theorem d_Mod_readStatement_193 : decode b_Mod_readStatement 193 = .ok (.iconst 1, 1) := by decide +kernel
theorem d_Mod_readStatement_194 : decode b_Mod_readStatement 194 = .ok (.dup2, 1) := by decide +kernel
theorem d_Mod_readStatement_195 : decode b_Mod_readStatement 195 = .ok (.iaload, 1) := by decide +kernel
theorem d_Mod_readStatement_196 : decode b_Mod_readStatement 196 = .ok (.iconst 1, 1) := by decide +kernel
theorem d_Mod_readStatement_197 : decode b_Mod_readStatement 197 = .ok (.iadd, 1) := by decide +kernel
theorem d_Mod_readStatement_198 : decode b_Mod_readStatement 198 = .ok (.iastore, 1) := by decide +kernel
theorem d_Mod_readStatement_199 : decode b_Mod_readStatement 199 = .ok (.aload_n 0, 1) := by decide +kernel
theorem d_Mod_readStatement_200 : decode b_Mod_readStatement 200 = .ok (.getfield 25, 3) := by decide +kernel
theorem d_Mod_readStatement_203 : decode b_Mod_readStatement 203 = .ok (.iload_n 1, 1) := by decide +kernel
theorem d_Mod_readStatement_204 : decode b_Mod_readStatement 204 = .ok (.iconst 1, 1) := by decide +kernel
theorem d_Mod_readStatement_205 : decode b_Mod_readStatement 205 = .ok (.iadd, 1) := by decide +kernel
theorem d_Mod_readStatement_206 : decode b_Mod_readStatement 206 = .ok (.bipush 50, 2) := by decide +kernel
theorem d_Mod_readStatement_208 : decode b_Mod_readStatement 208 = .ok (.if_icmp .ge 9, 3) := by decide +kernel
theorem d_Mod_readStatement_211 : decode b_Mod_readStatement 211 = .ok (.iload_n 1, 1) := by decide +kernel
theorem d_Mod_readStatement_212 : decode b_Mod_readStatement 212 = .ok (.iconst 1, 1) := by decide +kernel
theorem d_Mod_readStatement_213 : decode b_Mod_readStatement 213 = .ok (.iadd, 1) := by decide +kernel
theorem d_Mod_readStatement_214 : decode b_Mod_readStatement 214 = .ok (.goto 5, 3) := by decide +kernel
theorem d_Mod_readStatement_217 : decode b_Mod_readStatement 217 = .ok (.bipush 49, 2) := by decide +kernel
theorem d_Mod_readStatement_219 : decode b_Mod_readStatement 219 = .ok (.aload_n 0, 1) := by decide +kernel
theorem d_Mod_readStatement_220 : decode b_Mod_readStatement 220 = .ok (.getfield 19, 3) := by decide +kernel
theorem d_Mod_readStatement_223 : decode b_Mod_readStatement 223 = .ok (.iconst 1, 1) := by decide +kernel
theorem d_Mod_readStatement_224 : decode b_Mod_readStatement 224 = .ok (.iaload, 1) := by decide +kernel
theorem d_Mod_readStatement_225 : decode b_Mod_readStatement 225 = .ok (.iastore, 1) := by decide +kernel
theorem d_Mod_readStatement_226 : decode b_Mod_readStatement 226 = .ok (.return_, 1) := by decide +kernel
theorem g_Mod_130 : GoodIn wsAll (wsS R_Mod 130 y_Mod_measureOf ws_Mod_measureOf) := gd_S ml_Mod_130 st_Mod_measureOf ini_Mod cd_Mod_measureOf
def F_Mod_readCell_30  (x1 : Int32) (x2 : Int32) (o0 : Ob) : Option (Ob) :=
  bind1 (F_Mod_emit (3 : Int32) (((6 : Int32) * (x1 - (65 : Int32))) + x2) (s32 o0 3 0 ((g32 o0 3 0) + (1 : Int32)))) (fun o_9 => bind1 (F_Mod_endFactor o_9) (fun o_11 => some o_11))
def F_Mod_readCell (x1 : Int32) (o0 : Ob) : Option (Ob) :=
  bind1 (F_Mod_here (s32 o0 3 0 ((g32 o0 3 0) + (1 : Int32)))) (fun v2 => bind1 (F_Mod_measureOf v2) (fun v4 => if 0 ≤ v4 then (F_Mod_readCell_30 x1 v4 (s32 o0 3 0 ((g32 o0 3 0) + (1 : Int32)))) else (bind1 (F_Mod_failAt ((g32 o0 3 0) + (1 : Int32)) (s32 o0 3 0 ((g32 o0 3 0) + (1 : Int32)))) (fun o_7 => F_Mod_readCell_30 x1 v4 o_7))))
abbrev ws_Mod_readCell : List Cond := Cond.code y_Mod_readCell b_Mod_readCell 3 (none : Option Jvm.ClassFile.FieldType) :: wsAll
abbrev rm_Mod_readCell : Room := { frames := 3, cells := 0, slots := 0, locals := 62 }
set_option maxHeartbeats 4000000 in
set_option maxRecDepth 100000 in
theorem k_Mod_readCell_30 {p : Program} {l : Launch} {e : Env} {s : State} {m : MethodId} {args : Array Value} {below : List Frame} {meth : Method} {c : Code} {A : Nat → Prop} {ct dC : Nat → ClassId} {dI : Nat → Nat → Nat} {a0 : Nat → Nat}  {n0 : Ob}   (C0 : cx wsAll vwCl nx p s m args meth c (dC, dI) (tyA ct) b_Mod_readCell 3 (none : Option Jvm.ClassFile.FieldType) R_Mod A [adMod a0])  : ∀ (x1 : Int32) (x2 : Int32) (o0 : Ob) (H : Heap) (locs : List Loc) (ls : Array Slot), bw_P (dC, dI) vwCl [wMod ct a0 o0] H → va_S A s.heap H locs → lv_has ls 3 [(0, .ref (a0 0)), (1, .int x1), (2, .int x2)] → F_Mod_readCell_30 x1 x2 o0 = some n0 → W p l e (headSpec ws_Mod_readCell rm_Mod_readCell).room s m args below meth c H locs 0 0 (MQ below (bw_Q (dC, dI) vwCl none [wMod ct a0 n0] A) args s 0 0 A) (F0 m 30 ls []) := by
  obtain ⟨hx, hb, hr, hml, hown, hlocks, hts, hK, hN, hA, hnx⟩ := id C0
  intro x1 x2 o0 H locs ls hP hS hl h
  rw [F_Mod_readCell_30] at h
  refine lv_aload_n hx hb d_Mod_readCell_30 rfl (lv_at hl 0 rfl) ?_
  refine lv_dup hx hb d_Mod_readCell_31 rfl ?_
  refine va_get (D := (dC, dI)) (ci := 6) (v := .int (g32 o0 3 0)) (C := R_Mod) (T := T_Mod) (N := 36) hx hb hts in_Mod hown hK (hP 0 _ rfl) 0 rfl rfl 3 (by decide) (hts _ fl_Mod_91) (fun _ h9 => h9) rfl d_Mod_readCell_32 ?_
  refine lv_iconst (v := 1) hx hb d_Mod_readCell_35 (by decide) ?_
  refine lv_iadd hx hb d_Mod_readCell_36 ?_
  refine pt_Mod_3 hx hb hts hown hK hP hN hS 0 rfl (hts _ fl_Mod_91) d_Mod_readCell_37 (fun H locs hP hS => ?_)
  have hP : bw_P (dC, dI) vwCl [wMod ct a0 (s32 o0 3 0 ((g32 o0 3 0) + (1 : Int32)))] H := hP
  refine lv_aload_n hx hb d_Mod_readCell_40 rfl (lv_at hl 0 rfl) ?_
  refine lv_iconst (v := 3) hx hb d_Mod_readCell_41 (by decide) ?_
  refine lv_bipush (v := 6) hx hb d_Mod_readCell_42 (by decide) ?_
  refine lv_iload_n hx hb d_Mod_readCell_44 rfl (lv_at hl 1 rfl) ?_
  refine lv_bipush (v := 65) hx hb d_Mod_readCell_45 (by decide) ?_
  refine lv_isub hx hb d_Mod_readCell_47 ?_
  refine lv_imul hx hb d_Mod_readCell_48 ?_
  refine lv_iload_n hx hb d_Mod_readCell_49 rfl (lv_at hl 2 rfl) ?_
  refine lv_iadd hx hb d_Mod_readCell_50 ?_
  obtain ⟨o_9, hG8, h⟩ := bind1_some h
  refine bw_call (Lc := [wMod ct a0 (s32 o0 3 0 ((g32 o0 3 0) + (1 : Int32)))]) (Lc' := [wMod ct a0 o_9]) (L' := [wMod ct a0 o_9]) [0] (va_runV (As := [.int (3 : Int32), .int (((6 : Int32) * (x1 - (65 : Int32))) + x2)]) (rest := []) ⟨hx, hb, hml, hown, hts⟩ (c_Mod_emit l ct dC dI a0 _ (3 : Int32) (((6 : Int32) * (x1 - (65 : Int32))) + x2) (s32 o0 3 0 ((g32 o0 3 0) + (1 : Int32))) o_9 hG8) (cwV 2 hts g_Mod_100 rfl rfl rfl (by decide +kernel) ⟨Nat.le_of_ble_eq_true rfl, Nat.le_of_ble_eq_true rfl⟩) ⟨bw_blind nx_call, va_recv hK (hP 0 _ rfl) (ci := 6) (q0 := 0) rfl rfl, fun U hU hW => ⟨rfl, by rw [hU], by rw [hU]; exact hP.sub [0] rfl, va_K.moved hW.alike hK, (hN.sub [0] (by decide) rfl).weaken (fun _ _ => trivial), nx_warm hW hnx⟩⟩ rfl rfl hl.1 rfl (Nat.le_of_ble_eq_true rfl) d_Mod_readCell_51 ⟨Nat.le_of_ble_eq_true rfl, Nat.le_of_ble_eq_true rfl⟩) hP hN hS hA rfl rfl rfl (fun H locs hP hS => ?_)
  refine lv_aload_n hx hb d_Mod_readCell_54 rfl (lv_at hl 0 rfl) ?_
  obtain ⟨o_11, hG10, h⟩ := bind1_some h
  refine bw_call (Lc := [wMod ct a0 o_9]) (Lc' := [wMod ct a0 o_11]) (L' := [wMod ct a0 o_11]) [0] (va_runV (As := []) (rest := []) ⟨hx, hb, hml, hown, hts⟩ (c_Mod_endFactor l ct dC dI a0 _ o_9 o_11 hG10) (cwV 0 hts g_Mod_127 rfl rfl rfl (by decide +kernel) ⟨Nat.le_of_ble_eq_true rfl, Nat.le_of_ble_eq_true rfl⟩) ⟨bw_blind nx_call, va_recv hK (hP 0 _ rfl) (ci := 6) (q0 := 0) rfl rfl, fun U hU hW => ⟨rfl, by rw [hU], by rw [hU]; exact hP.sub [0] rfl, va_K.moved hW.alike hK, (hN.sub [0] (by decide) rfl).weaken (fun _ _ => trivial), nx_warm hW hnx⟩⟩ rfl rfl hl.1 rfl (Nat.le_of_ble_eq_true rfl) d_Mod_readCell_55 ⟨Nat.le_of_ble_eq_true rfl, Nat.le_of_ble_eq_true rfl⟩) hP hN hS hA rfl rfl rfl (fun H locs hP hS => ?_)
  obtain rfl := res1 h
  exact W.vret hx hb hr (fun t ht hW => ⟨rfl, by rw [ht]; exact hP, hS.F ht⟩) hS.2.2 d_Mod_readCell_58
set_option maxHeartbeats 4000000 in
set_option maxRecDepth 100000 in
theorem c_Mod_readCell (l : Launch) (ct dC : Nat → ClassId) (dI : Nat → Nat → Nat) (a0 : Nat → Nat)  (sz : Nat) (x1 : Int32) (o0 : Ob) (n0 : Ob) (hF : F_Mod_readCell x1 o0 = some n0) : Met l y_Mod_readCell ws_Mod_readCell rm_Mod_readCell (bw_Pc [.ref (a0 0), .int x1] (dC, dI) vwCl (tyA ct) [wMod ct a0 o0] sz nx) (bw_Q (dC, dI) vwCl none [wMod ct a0 n0] (bw_A [adMod a0] sz)) 0 0 (bw_A [adMod a0] sz) := by
  refine Met.ofW (cc := b_Mod_readCell) (maxL := 3) (ret := (none : Option Jvm.ClassFile.FieldType)) (by decide) rfl ?_
  intro p e s m args below meth c s₁ B hml hv
  obtain ⟨rfl, hsz, hP, hK, hN0, hnx⟩ := hv
  have hx := B.exec
  have hb := B.bytes
  have hr := B.returns
  have hts : ∀ w ∈ wsAll, w.before [.ref (a0 0), .int x1].toArray s = true := fun w h9 => atoms_spec (ws := ws_Mod_readCell) B.pre w (List.mem_cons_of_mem _ h9)
  have hown : s.vm.findClass R_Mod = some m.cls := findClass_of_methodNamed B.named
  have hlocks := B.notSynchronized
  subst hsz
  have hN : bw_N (bw_A [adMod a0] s.heap.size) [adMod a0] := hN0.self s.heap.size
  generalize hAe : bw_A [adMod a0] s.heap.size = A at hN ⊢
  have hA : ∀ q : Nat, s.heap.size ≤ q → A q := fun q h => by rw [← hAe]; exact Or.inr h
  have hS : va_S A s.heap s.heap [] := va_S.rf
  have hl := lv_entry ([.ref (a0 0), .int x1]) (n := 3) (Nat.le_of_ble_eq_true rfl)
  rw [lg_entry_eq]
  generalize (lg_sl ([.ref (a0 0), .int x1]) ++ List.replicate (3 - (lg_sl ([.ref (a0 0), .int x1])).length) Slot.unset).toArray = ls at hl ⊢
  have hl : lv_has ls 3 [(0, .ref (a0 0)), (1, .int x1)] := hl
  have C0 : cx wsAll vwCl nx p s m [.ref (a0 0), .int x1].toArray meth c (dC, dI) (tyA ct) b_Mod_readCell 3 (none : Option Jvm.ClassFile.FieldType) R_Mod A [adMod a0] := ⟨hx, hb, hr, hml, hown, hlocks, hts, hK, hN, hA, hnx⟩
  have h := hF
  rw [F_Mod_readCell] at h
  refine lv_aload_n hx hb d_Mod_readCell_0 rfl (lv_at hl 0 rfl) ?_
  refine lv_dup hx hb d_Mod_readCell_1 rfl ?_
  refine va_get (D := (dC, dI)) (ci := 6) (v := .int (g32 o0 3 0)) (C := R_Mod) (T := T_Mod) (N := 36) hx hb hts in_Mod hown hK (hP 0 _ rfl) 0 rfl rfl 3 (by decide) (hts _ fl_Mod_91) (fun _ h9 => h9) rfl d_Mod_readCell_2 ?_
  refine lv_iconst (v := 1) hx hb d_Mod_readCell_5 (by decide) ?_
  refine lv_iadd hx hb d_Mod_readCell_6 ?_
  refine pt_Mod_3 hx hb hts hown hK hP hN hS 0 rfl (hts _ fl_Mod_91) d_Mod_readCell_7 (fun H locs hP hS => ?_)
  have hP : bw_P (dC, dI) vwCl [wMod ct a0 (s32 o0 3 0 ((g32 o0 3 0) + (1 : Int32)))] H := hP
  refine lv_aload_n hx hb d_Mod_readCell_10 rfl (lv_at hl 0 rfl) ?_
  obtain ⟨v2, hG1, h⟩ := bind1_some h
  refine bw_callR (va_runV (As := []) (rest := []) ⟨hx, hb, hml, hown, hts⟩ (c_Mod_here l ct dC dI a0 _ (s32 o0 3 0 ((g32 o0 3 0) + (1 : Int32))) v2 hG1) (cwV 0 hts g_Mod_111 rfl rfl rfl (by decide +kernel) ⟨Nat.le_of_ble_eq_true rfl, Nat.le_of_ble_eq_true rfl⟩) ⟨bw_blind nx_call, va_recv hK (hP 0 _ rfl) (ci := 6) (q0 := 0) rfl rfl, fun U hU hW => ⟨rfl, by rw [hU], by rw [hU]; exact hP.sub [0] rfl, va_K.moved hW.alike hK, (hN.sub [0] (by decide) rfl).weaken (fun _ _ => trivial), nx_warm hW hnx⟩⟩ rfl rfl hl.1 rfl (Nat.le_of_ble_eq_true rfl) d_Mod_readCell_11 ⟨Nat.le_of_ble_eq_true rfl, Nat.le_of_ble_eq_true rfl⟩) ?_
  obtain ⟨v4, hG3, h⟩ := bind1_some h
  refine bw_callR (va_runS (As := [.int v2]) (rest := []) ⟨hx, hb, hml, hown, hts⟩ (c_Mod_measureOf l ct dC dI _ v2 v4 hG3) (cwS 1 hts g_Mod_130 rfl rfl rfl (by decide +kernel) ⟨Nat.le_of_ble_eq_true rfl, Nat.le_of_ble_eq_true rfl⟩) ⟨bw_blind nx_call, fun U hU hW => ⟨rfl, by rw [hU], by rw [hU]; exact hP.sub [] rfl, va_K.moved hW.alike hK, (hN.sub [] (by decide) rfl).weaken (fun _ _ => trivial), nx_warm hW hnx⟩⟩ rfl rfl hl.1 rfl (Nat.le_of_ble_eq_true rfl) d_Mod_readCell_14 ⟨Nat.le_of_ble_eq_true rfl, Nat.le_of_ble_eq_true rfl⟩) ?_
  refine lv_istore_n (lv' := [(2, .int v4), (0, .ref (a0 0)), (1, .int x1)]) hx hb d_Mod_readCell_17 rfl hl (by decide) rfl (fun ls hl => ?_)
  refine lv_iload_n hx hb d_Mod_readCell_18 rfl (lv_at hl 0 rfl) ?_
  refine lv_if_ge (tgt := 30) hx hb d_Mod_readCell_19 (by decide) (fun c5 => ?_) (fun c5 => ?_)
  · have h := ite_t c5 h
    exact k_Mod_readCell_30 C0 x1 v4 (s32 o0 3 0 ((g32 o0 3 0) + (1 : Int32))) _ _ _ hP hS (lv_sub hl [1, 2, 0] rfl) h
  · have h := ite_f c5 h
    refine lv_aload_n hx hb d_Mod_readCell_22 rfl (lv_at hl 1 rfl) ?_
    refine lv_aload_n hx hb d_Mod_readCell_23 rfl (lv_at hl 1 rfl) ?_
    refine va_get (D := (dC, dI)) (ci := 6) (v := .int ((g32 o0 3 0) + (1 : Int32))) (C := R_Mod) (T := T_Mod) (N := 36) hx hb hts in_Mod hown hK (hP 0 _ rfl) 0 rfl rfl 3 (by decide) (hts _ fl_Mod_91) (fun _ h9 => h9) rfl d_Mod_readCell_24 ?_
    obtain ⟨o_7, hG6, h⟩ := bind1_some h
    refine bw_call (Lc := [wMod ct a0 (s32 o0 3 0 ((g32 o0 3 0) + (1 : Int32)))]) (Lc' := [wMod ct a0 o_7]) (L' := [wMod ct a0 o_7]) [0] (va_runV (As := [.int ((g32 o0 3 0) + (1 : Int32))]) (rest := []) ⟨hx, hb, hml, hown, hts⟩ (c_Mod_failAt l ct dC dI a0 _ ((g32 o0 3 0) + (1 : Int32)) (s32 o0 3 0 ((g32 o0 3 0) + (1 : Int32))) o_7 hG6) (cwV 1 hts g_Mod_119 rfl rfl rfl (by decide +kernel) ⟨Nat.le_of_ble_eq_true rfl, Nat.le_of_ble_eq_true rfl⟩) ⟨bw_blind nx_call, va_recv hK (hP 0 _ rfl) (ci := 6) (q0 := 0) rfl rfl, fun U hU hW => ⟨rfl, by rw [hU], by rw [hU]; exact hP.sub [0] rfl, va_K.moved hW.alike hK, (hN.sub [0] (by decide) rfl).weaken (fun _ _ => trivial), nx_warm hW hnx⟩⟩ rfl rfl hl.1 rfl (Nat.le_of_ble_eq_true rfl) d_Mod_readCell_27 ⟨Nat.le_of_ble_eq_true rfl, Nat.le_of_ble_eq_true rfl⟩) hP hN hS hA rfl rfl rfl (fun H locs hP hS => ?_)
    exact k_Mod_readCell_30 C0 x1 v4 o_7 _ _ _ hP hS (lv_sub hl [1, 2, 0] rfl) h
theorem g_Mod_136 : GoodIn wsAll (wsV R_Mod 136 R_Mod y_Mod_readCell ws_Mod_readCell) := gd_V ml_Mod_136 im_Mod_readCell se_Mod_readCell ini_Mod cd_Mod_readCell
theorem g_Mod_133 : GoodIn wsAll (wsV R_Mod 133 R_Mod y_Mod_readNumber ws_Mod_readNumber) := gd_V ml_Mod_133 im_Mod_readNumber se_Mod_readNumber ini_Mod cd_Mod_readNumber
theorem g_Mod_139 : GoodIn wsAll (wsV R_Mod 139 R_Mod y_Mod_push ws_Mod_push) := gd_V ml_Mod_139 im_Mod_push se_Mod_push ini_Mod cd_Mod_push
def F_Mod_readFactor_69  (x1 : Int32) (x2 : Int32) (o0 : Ob) : Option (Bool × Ob) :=
  if x1 = (45 : Int32) then (bind1 (F_Mod_push (4 : Int32) o0) (fun o_30 => some (false, o_30))) else (if x1 = (40 : Int32) then (if (8 : Int32) ≤ x2 then (bind1 (F_Mod_failAt (g32 o0 3 0) o0) (fun o_26 => some (false, o_26))) else (bind1 (F_Mod_push (11 : Int32) o0) (fun o_28 => some (false, o_28)))) else (bind1 (F_Mod_failAt (g32 o0 3 0) o0) (fun o_23 => some (false, o_23))))
def F_Mod_readFactor (x1 : Int32) (x2 : Int32) (o0 : Ob) : Option (Bool × Ob) :=
  bind1 (F_Mod_isDigit x1) (fun v2 => if (b2i v2) = 0 then (if x1 < (97 : Int32) then (if x1 < (65 : Int32) then (F_Mod_readFactor_69 x1 x2 o0) else (if (74 : Int32) < x1 then (F_Mod_readFactor_69 x1 x2 o0) else (bind1 (F_Mod_readCell x1 o0) (fun o_8 => some (true, o_8))))) else (if (104 : Int32) < x1 then (if x1 < (65 : Int32) then (F_Mod_readFactor_69 x1 x2 o0) else (if (74 : Int32) < x1 then (F_Mod_readFactor_69 x1 x2 o0) else (bind1 (F_Mod_readCell x1 o0) (fun o_13 => some (true, o_13))))) else (bind1 (F_Mod_emit (2 : Int32) (x1 - (97 : Int32)) (s32 o0 3 0 ((g32 o0 3 0) + (1 : Int32)))) (fun o_15 => bind1 (F_Mod_endFactor o_15) (fun o_17 => some (true, o_17)))))) else (bind1 (F_Mod_readNumber o0) (fun o_19 => some (true, o_19))))
abbrev ws_Mod_readFactor : List Cond := Cond.code y_Mod_readFactor b_Mod_readFactor 3 (some .boolean) :: wsAll
abbrev rm_Mod_readFactor : Room := { frames := 4, cells := 0, slots := 0, locals := 85 }
set_option maxHeartbeats 4000000 in
set_option maxRecDepth 100000 in
theorem k_Mod_readFactor_69 {p : Program} {l : Launch} {e : Env} {s : State} {m : MethodId} {args : Array Value} {below : List Frame} {meth : Method} {c : Code} {A : Nat → Prop} {ct dC : Nat → ClassId} {dI : Nat → Nat → Nat} {a0 : Nat → Nat}  {r : Bool} {n0 : Ob}   (C0 : cx wsAll vwCl nx p s m args meth c (dC, dI) (tyA ct) b_Mod_readFactor 3 (some .boolean) R_Mod A [adMod a0])  : ∀ (x1 : Int32) (x2 : Int32) (o0 : Ob) (H : Heap) (locs : List Loc) (ls : Array Slot), bw_P (dC, dI) vwCl [wMod ct a0 o0] H → va_S A s.heap H locs → lv_has ls 3 [(0, .ref (a0 0)), (1, .int x1), (2, .int x2)] → F_Mod_readFactor_69 x1 x2 o0 = some (r, n0) → W p l e (headSpec ws_Mod_readFactor rm_Mod_readFactor).room s m args below meth c H locs 0 0 (MQ below (bw_Q (dC, dI) vwCl (some (.int (b2i r))) [wMod ct a0 n0] A) args s 0 0 A) (F0 m 69 ls []) := by
  obtain ⟨hx, hb, hr, hml, hown, hlocks, hts, hK, hN, hA, hnx⟩ := id C0
  intro x1 x2 o0 H locs ls hP hS hl h
  rw [F_Mod_readFactor_69] at h
  refine lv_iload_n hx hb d_Mod_readFactor_69 rfl (lv_at hl 1 rfl) ?_
  refine lv_bipush (v := 45) hx hb d_Mod_readFactor_70 (by decide) ?_
  refine lv_icmp_ne (tgt := 83) hx hb d_Mod_readFactor_72 (by decide) (fun c20 => ?_) (fun c20 => ?_)
  · have h := ite_f c20 h
    refine lv_iload_n hx hb d_Mod_readFactor_83 rfl (lv_at hl 1 rfl) ?_
    refine lv_bipush (v := 40) hx hb d_Mod_readFactor_84 (by decide) ?_
    refine lv_icmp_ne (tgt := 104) hx hb d_Mod_readFactor_86 (by decide) (fun c21 => ?_) (fun c21 => ?_)
    · have h := ite_f c21 h
      refine lv_aload_n hx hb d_Mod_readFactor_104 rfl (lv_at hl 0 rfl) ?_
      refine lv_aload_n hx hb d_Mod_readFactor_105 rfl (lv_at hl 0 rfl) ?_
      refine va_get (D := (dC, dI)) (ci := 6) (v := .int (g32 o0 3 0)) (C := R_Mod) (T := T_Mod) (N := 36) hx hb hts in_Mod hown hK (hP 0 _ rfl) 0 rfl rfl 3 (by decide) (hts _ fl_Mod_91) (fun _ h9 => h9) rfl d_Mod_readFactor_106 ?_
      obtain ⟨o_23, hG22, h⟩ := bind1_some h
      refine bw_call (Lc := [wMod ct a0 o0]) (Lc' := [wMod ct a0 o_23]) (L' := [wMod ct a0 o_23]) [0] (va_runV (As := [.int (g32 o0 3 0)]) (rest := []) ⟨hx, hb, hml, hown, hts⟩ (c_Mod_failAt l ct dC dI a0 _ (g32 o0 3 0) o0 o_23 hG22) (cwV 1 hts g_Mod_119 rfl rfl rfl (by decide +kernel) ⟨Nat.le_of_ble_eq_true rfl, Nat.le_of_ble_eq_true rfl⟩) ⟨bw_blind nx_call, va_recv hK (hP 0 _ rfl) (ci := 6) (q0 := 0) rfl rfl, fun U hU hW => ⟨rfl, by rw [hU], by rw [hU]; exact hP.sub [0] rfl, va_K.moved hW.alike hK, (hN.sub [0] (by decide) rfl).weaken (fun _ _ => trivial), nx_warm hW hnx⟩⟩ rfl rfl hl.1 rfl (Nat.le_of_ble_eq_true rfl) d_Mod_readFactor_109 ⟨Nat.le_of_ble_eq_true rfl, Nat.le_of_ble_eq_true rfl⟩) hP hN hS hA rfl rfl rfl (fun H locs hP hS => ?_)
      refine lv_iconst (v := 0) hx hb d_Mod_readFactor_112 (by decide) ?_
      obtain ⟨rfl, rfl⟩ := res2 h
      exact W.zret hx hb hr rfl (fun t ht hW => ⟨rfl, by rw [ht]; exact hP, hS.F ht⟩) hS.2.2 d_Mod_readFactor_113
    · have h := ite_t c21 h
      refine lv_iload_n hx hb d_Mod_readFactor_89 rfl (lv_at hl 2 rfl) ?_
      refine lv_bipush (v := 8) hx hb d_Mod_readFactor_90 (by decide) ?_
      refine lv_icmp_ge (tgt := 104) hx hb d_Mod_readFactor_92 (by decide) (fun c24 => ?_) (fun c24 => ?_)
      · have h := ite_t c24 h
        refine lv_aload_n hx hb d_Mod_readFactor_104 rfl (lv_at hl 0 rfl) ?_
        refine lv_aload_n hx hb d_Mod_readFactor_105 rfl (lv_at hl 0 rfl) ?_
        refine va_get (D := (dC, dI)) (ci := 6) (v := .int (g32 o0 3 0)) (C := R_Mod) (T := T_Mod) (N := 36) hx hb hts in_Mod hown hK (hP 0 _ rfl) 0 rfl rfl 3 (by decide) (hts _ fl_Mod_91) (fun _ h9 => h9) rfl d_Mod_readFactor_106 ?_
        obtain ⟨o_26, hG25, h⟩ := bind1_some h
        refine bw_call (Lc := [wMod ct a0 o0]) (Lc' := [wMod ct a0 o_26]) (L' := [wMod ct a0 o_26]) [0] (va_runV (As := [.int (g32 o0 3 0)]) (rest := []) ⟨hx, hb, hml, hown, hts⟩ (c_Mod_failAt l ct dC dI a0 _ (g32 o0 3 0) o0 o_26 hG25) (cwV 1 hts g_Mod_119 rfl rfl rfl (by decide +kernel) ⟨Nat.le_of_ble_eq_true rfl, Nat.le_of_ble_eq_true rfl⟩) ⟨bw_blind nx_call, va_recv hK (hP 0 _ rfl) (ci := 6) (q0 := 0) rfl rfl, fun U hU hW => ⟨rfl, by rw [hU], by rw [hU]; exact hP.sub [0] rfl, va_K.moved hW.alike hK, (hN.sub [0] (by decide) rfl).weaken (fun _ _ => trivial), nx_warm hW hnx⟩⟩ rfl rfl hl.1 rfl (Nat.le_of_ble_eq_true rfl) d_Mod_readFactor_109 ⟨Nat.le_of_ble_eq_true rfl, Nat.le_of_ble_eq_true rfl⟩) hP hN hS hA rfl rfl rfl (fun H locs hP hS => ?_)
        refine lv_iconst (v := 0) hx hb d_Mod_readFactor_112 (by decide) ?_
        obtain ⟨rfl, rfl⟩ := res2 h
        exact W.zret hx hb hr rfl (fun t ht hW => ⟨rfl, by rw [ht]; exact hP, hS.F ht⟩) hS.2.2 d_Mod_readFactor_113
      · have h := ite_f c24 h
        refine lv_aload_n hx hb d_Mod_readFactor_95 rfl (lv_at hl 0 rfl) ?_
        refine lv_bipush (v := 11) hx hb d_Mod_readFactor_96 (by decide) ?_
        obtain ⟨o_28, hG27, h⟩ := bind1_some h
        refine bw_call (Lc := [wMod ct a0 o0]) (Lc' := [wMod ct a0 o_28]) (L' := [wMod ct a0 o_28]) [0] (va_runV (As := [.int (11 : Int32)]) (rest := []) ⟨hx, hb, hml, hown, hts⟩ (c_Mod_push l ct dC dI a0 _ (11 : Int32) o0 o_28 hG27) (cwV 1 hts g_Mod_139 rfl rfl rfl (by decide +kernel) ⟨Nat.le_of_ble_eq_true rfl, Nat.le_of_ble_eq_true rfl⟩) ⟨bw_blind nx_call, va_recv hK (hP 0 _ rfl) (ci := 6) (q0 := 0) rfl rfl, fun U hU hW => ⟨rfl, by rw [hU], by rw [hU]; exact hP.sub [0] rfl, va_K.moved hW.alike hK, (hN.sub [0] (by decide) rfl).weaken (fun _ _ => trivial), nx_warm hW hnx⟩⟩ rfl rfl hl.1 rfl (Nat.le_of_ble_eq_true rfl) d_Mod_readFactor_98 ⟨Nat.le_of_ble_eq_true rfl, Nat.le_of_ble_eq_true rfl⟩) hP hN hS hA rfl rfl rfl (fun H locs hP hS => ?_)
        refine lv_goto (tgt := 112) hx hb d_Mod_readFactor_101 (by decide) ?_
        refine lv_iconst (v := 0) hx hb d_Mod_readFactor_112 (by decide) ?_
        obtain ⟨rfl, rfl⟩ := res2 h
        exact W.zret hx hb hr rfl (fun t ht hW => ⟨rfl, by rw [ht]; exact hP, hS.F ht⟩) hS.2.2 d_Mod_readFactor_113
  · have h := ite_t c20 h
    refine lv_aload_n hx hb d_Mod_readFactor_75 rfl (lv_at hl 0 rfl) ?_
    refine lv_iconst (v := 4) hx hb d_Mod_readFactor_76 (by decide) ?_
    obtain ⟨o_30, hG29, h⟩ := bind1_some h
    refine bw_call (Lc := [wMod ct a0 o0]) (Lc' := [wMod ct a0 o_30]) (L' := [wMod ct a0 o_30]) [0] (va_runV (As := [.int (4 : Int32)]) (rest := []) ⟨hx, hb, hml, hown, hts⟩ (c_Mod_push l ct dC dI a0 _ (4 : Int32) o0 o_30 hG29) (cwV 1 hts g_Mod_139 rfl rfl rfl (by decide +kernel) ⟨Nat.le_of_ble_eq_true rfl, Nat.le_of_ble_eq_true rfl⟩) ⟨bw_blind nx_call, va_recv hK (hP 0 _ rfl) (ci := 6) (q0 := 0) rfl rfl, fun U hU hW => ⟨rfl, by rw [hU], by rw [hU]; exact hP.sub [0] rfl, va_K.moved hW.alike hK, (hN.sub [0] (by decide) rfl).weaken (fun _ _ => trivial), nx_warm hW hnx⟩⟩ rfl rfl hl.1 rfl (Nat.le_of_ble_eq_true rfl) d_Mod_readFactor_77 ⟨Nat.le_of_ble_eq_true rfl, Nat.le_of_ble_eq_true rfl⟩) hP hN hS hA rfl rfl rfl (fun H locs hP hS => ?_)
    refine lv_goto (tgt := 112) hx hb d_Mod_readFactor_80 (by decide) ?_
    refine lv_iconst (v := 0) hx hb d_Mod_readFactor_112 (by decide) ?_
    obtain ⟨rfl, rfl⟩ := res2 h
    exact W.zret hx hb hr rfl (fun t ht hW => ⟨rfl, by rw [ht]; exact hP, hS.F ht⟩) hS.2.2 d_Mod_readFactor_113
set_option maxHeartbeats 4000000 in
set_option maxRecDepth 100000 in
theorem c_Mod_readFactor (l : Launch) (ct dC : Nat → ClassId) (dI : Nat → Nat → Nat) (a0 : Nat → Nat)  (sz : Nat) (x1 : Int32) (x2 : Int32) (o0 : Ob) (r : Bool) (n0 : Ob) (hF : F_Mod_readFactor x1 x2 o0 = some (r, n0)) : Met l y_Mod_readFactor ws_Mod_readFactor rm_Mod_readFactor (bw_Pc [.ref (a0 0), .int x1, .int x2] (dC, dI) vwCl (tyA ct) [wMod ct a0 o0] sz nx) (bw_Q (dC, dI) vwCl (some (.int (b2i r))) [wMod ct a0 n0] (bw_A [adMod a0] sz)) 0 0 (bw_A [adMod a0] sz) := by
  refine Met.ofW (cc := b_Mod_readFactor) (maxL := 3) (ret := (some .boolean)) (by decide) rfl ?_
  intro p e s m args below meth c s₁ B hml hv
  obtain ⟨rfl, hsz, hP, hK, hN0, hnx⟩ := hv
  have hx := B.exec
  have hb := B.bytes
  have hr := B.returns
  have hts : ∀ w ∈ wsAll, w.before [.ref (a0 0), .int x1, .int x2].toArray s = true := fun w h9 => atoms_spec (ws := ws_Mod_readFactor) B.pre w (List.mem_cons_of_mem _ h9)
  have hown : s.vm.findClass R_Mod = some m.cls := findClass_of_methodNamed B.named
  have hlocks := B.notSynchronized
  subst hsz
  have hN : bw_N (bw_A [adMod a0] s.heap.size) [adMod a0] := hN0.self s.heap.size
  generalize hAe : bw_A [adMod a0] s.heap.size = A at hN ⊢
  have hA : ∀ q : Nat, s.heap.size ≤ q → A q := fun q h => by rw [← hAe]; exact Or.inr h
  have hS : va_S A s.heap s.heap [] := va_S.rf
  have hl := lv_entry ([.ref (a0 0), .int x1, .int x2]) (n := 3) (Nat.le_of_ble_eq_true rfl)
  rw [lg_entry_eq]
  generalize (lg_sl ([.ref (a0 0), .int x1, .int x2]) ++ List.replicate (3 - (lg_sl ([.ref (a0 0), .int x1, .int x2])).length) Slot.unset).toArray = ls at hl ⊢
  have hl : lv_has ls 3 [(0, .ref (a0 0)), (1, .int x1), (2, .int x2)] := hl
  have C0 : cx wsAll vwCl nx p s m [.ref (a0 0), .int x1, .int x2].toArray meth c (dC, dI) (tyA ct) b_Mod_readFactor 3 (some .boolean) R_Mod A [adMod a0] := ⟨hx, hb, hr, hml, hown, hlocks, hts, hK, hN, hA, hnx⟩
  have h := hF
  rw [F_Mod_readFactor] at h
  refine lv_iload_n hx hb d_Mod_readFactor_0 rfl (lv_at hl 1 rfl) ?_
  obtain ⟨v2, hG1, h⟩ := bind1_some h
  refine bw_callR (va_runS (As := [.int x1]) (rest := []) ⟨hx, hb, hml, hown, hts⟩ (c_Mod_isDigit l ct dC dI _ x1 v2 hG1) (cwS 1 hts g_Mod_115 rfl rfl rfl (by decide +kernel) ⟨Nat.le_of_ble_eq_true rfl, Nat.le_of_ble_eq_true rfl⟩) ⟨bw_blind nx_call, fun U hU hW => ⟨rfl, by rw [hU], by rw [hU]; exact hP.sub [] rfl, va_K.moved hW.alike hK, (hN.sub [] (by decide) rfl).weaken (fun _ _ => trivial), nx_warm hW hnx⟩⟩ rfl rfl hl.1 rfl (Nat.le_of_ble_eq_true rfl) d_Mod_readFactor_1 ⟨Nat.le_of_ble_eq_true rfl, Nat.le_of_ble_eq_true rfl⟩) ?_
  refine lv_if_eq (tgt := 13) hx hb d_Mod_readFactor_4 (by decide) (fun c3 => ?_) (fun c3 => ?_)
  · have h := ite_t c3 h
    refine lv_iload_n hx hb d_Mod_readFactor_13 rfl (lv_at hl 1 rfl) ?_
    refine lv_bipush (v := 97) hx hb d_Mod_readFactor_14 (by decide) ?_
    refine lv_icmp_lt (tgt := 50) hx hb d_Mod_readFactor_16 (by decide) (fun c4 => ?_) (fun c4 => ?_)
    · have h := ite_t c4 h
      refine lv_iload_n hx hb d_Mod_readFactor_50 rfl (lv_at hl 1 rfl) ?_
      refine lv_bipush (v := 65) hx hb d_Mod_readFactor_51 (by decide) ?_
      refine lv_icmp_lt (tgt := 69) hx hb d_Mod_readFactor_53 (by decide) (fun c5 => ?_) (fun c5 => ?_)
      · have h := ite_t c5 h
        exact k_Mod_readFactor_69 C0 x1 x2 o0 _ _ _ hP hS (lv_sub hl [0, 1, 2] rfl) h
      · have h := ite_f c5 h
        refine lv_iload_n hx hb d_Mod_readFactor_56 rfl (lv_at hl 1 rfl) ?_
        refine lv_bipush (v := 74) hx hb d_Mod_readFactor_57 (by decide) ?_
        refine lv_icmp_gt (tgt := 69) hx hb d_Mod_readFactor_59 (by decide) (fun c6 => ?_) (fun c6 => ?_)
        · have h := ite_t c6 h
          exact k_Mod_readFactor_69 C0 x1 x2 o0 _ _ _ hP hS (lv_sub hl [0, 1, 2] rfl) h
        · have h := ite_f c6 h
          refine lv_aload_n hx hb d_Mod_readFactor_62 rfl (lv_at hl 0 rfl) ?_
          refine lv_iload_n hx hb d_Mod_readFactor_63 rfl (lv_at hl 1 rfl) ?_
          obtain ⟨o_8, hG7, h⟩ := bind1_some h
          refine bw_call (Lc := [wMod ct a0 o0]) (Lc' := [wMod ct a0 o_8]) (L' := [wMod ct a0 o_8]) [0] (va_runV (As := [.int x1]) (rest := []) ⟨hx, hb, hml, hown, hts⟩ (c_Mod_readCell l ct dC dI a0 _ x1 o0 o_8 hG7) (cwV 1 hts g_Mod_136 rfl rfl rfl (by decide +kernel) ⟨Nat.le_of_ble_eq_true rfl, Nat.le_of_ble_eq_true rfl⟩) ⟨bw_blind nx_call, va_recv hK (hP 0 _ rfl) (ci := 6) (q0 := 0) rfl rfl, fun U hU hW => ⟨rfl, by rw [hU], by rw [hU]; exact hP.sub [0] rfl, va_K.moved hW.alike hK, (hN.sub [0] (by decide) rfl).weaken (fun _ _ => trivial), nx_warm hW hnx⟩⟩ rfl rfl hl.1 rfl (Nat.le_of_ble_eq_true rfl) d_Mod_readFactor_64 ⟨Nat.le_of_ble_eq_true rfl, Nat.le_of_ble_eq_true rfl⟩) hP hN hS hA rfl rfl rfl (fun H locs hP hS => ?_)
          refine lv_iconst (v := 1) hx hb d_Mod_readFactor_67 (by decide) ?_
          obtain ⟨rfl, rfl⟩ := res2 h
          exact W.zret hx hb hr rfl (fun t ht hW => ⟨rfl, by rw [ht]; exact hP, hS.F ht⟩) hS.2.2 d_Mod_readFactor_68
    · have h := ite_f c4 h
      refine lv_iload_n hx hb d_Mod_readFactor_19 rfl (lv_at hl 1 rfl) ?_
      refine lv_bipush (v := 104) hx hb d_Mod_readFactor_20 (by decide) ?_
      refine lv_icmp_gt (tgt := 50) hx hb d_Mod_readFactor_22 (by decide) (fun c9 => ?_) (fun c9 => ?_)
      · have h := ite_t c9 h
        refine lv_iload_n hx hb d_Mod_readFactor_50 rfl (lv_at hl 1 rfl) ?_
        refine lv_bipush (v := 65) hx hb d_Mod_readFactor_51 (by decide) ?_
        refine lv_icmp_lt (tgt := 69) hx hb d_Mod_readFactor_53 (by decide) (fun c10 => ?_) (fun c10 => ?_)
        · have h := ite_t c10 h
          exact k_Mod_readFactor_69 C0 x1 x2 o0 _ _ _ hP hS (lv_sub hl [0, 1, 2] rfl) h
        · have h := ite_f c10 h
          refine lv_iload_n hx hb d_Mod_readFactor_56 rfl (lv_at hl 1 rfl) ?_
          refine lv_bipush (v := 74) hx hb d_Mod_readFactor_57 (by decide) ?_
          refine lv_icmp_gt (tgt := 69) hx hb d_Mod_readFactor_59 (by decide) (fun c11 => ?_) (fun c11 => ?_)
          · have h := ite_t c11 h
            exact k_Mod_readFactor_69 C0 x1 x2 o0 _ _ _ hP hS (lv_sub hl [0, 1, 2] rfl) h
          · have h := ite_f c11 h
            refine lv_aload_n hx hb d_Mod_readFactor_62 rfl (lv_at hl 0 rfl) ?_
            refine lv_iload_n hx hb d_Mod_readFactor_63 rfl (lv_at hl 1 rfl) ?_
            obtain ⟨o_13, hG12, h⟩ := bind1_some h
            refine bw_call (Lc := [wMod ct a0 o0]) (Lc' := [wMod ct a0 o_13]) (L' := [wMod ct a0 o_13]) [0] (va_runV (As := [.int x1]) (rest := []) ⟨hx, hb, hml, hown, hts⟩ (c_Mod_readCell l ct dC dI a0 _ x1 o0 o_13 hG12) (cwV 1 hts g_Mod_136 rfl rfl rfl (by decide +kernel) ⟨Nat.le_of_ble_eq_true rfl, Nat.le_of_ble_eq_true rfl⟩) ⟨bw_blind nx_call, va_recv hK (hP 0 _ rfl) (ci := 6) (q0 := 0) rfl rfl, fun U hU hW => ⟨rfl, by rw [hU], by rw [hU]; exact hP.sub [0] rfl, va_K.moved hW.alike hK, (hN.sub [0] (by decide) rfl).weaken (fun _ _ => trivial), nx_warm hW hnx⟩⟩ rfl rfl hl.1 rfl (Nat.le_of_ble_eq_true rfl) d_Mod_readFactor_64 ⟨Nat.le_of_ble_eq_true rfl, Nat.le_of_ble_eq_true rfl⟩) hP hN hS hA rfl rfl rfl (fun H locs hP hS => ?_)
            refine lv_iconst (v := 1) hx hb d_Mod_readFactor_67 (by decide) ?_
            obtain ⟨rfl, rfl⟩ := res2 h
            exact W.zret hx hb hr rfl (fun t ht hW => ⟨rfl, by rw [ht]; exact hP, hS.F ht⟩) hS.2.2 d_Mod_readFactor_68
      · have h := ite_f c9 h
        refine lv_aload_n hx hb d_Mod_readFactor_25 rfl (lv_at hl 0 rfl) ?_
        refine lv_dup hx hb d_Mod_readFactor_26 rfl ?_
        refine va_get (D := (dC, dI)) (ci := 6) (v := .int (g32 o0 3 0)) (C := R_Mod) (T := T_Mod) (N := 36) hx hb hts in_Mod hown hK (hP 0 _ rfl) 0 rfl rfl 3 (by decide) (hts _ fl_Mod_91) (fun _ h9 => h9) rfl d_Mod_readFactor_27 ?_
        refine lv_iconst (v := 1) hx hb d_Mod_readFactor_30 (by decide) ?_
        refine lv_iadd hx hb d_Mod_readFactor_31 ?_
        refine pt_Mod_3 hx hb hts hown hK hP hN hS 0 rfl (hts _ fl_Mod_91) d_Mod_readFactor_32 (fun H locs hP hS => ?_)
        have hP : bw_P (dC, dI) vwCl [wMod ct a0 (s32 o0 3 0 ((g32 o0 3 0) + (1 : Int32)))] H := hP
        refine lv_aload_n hx hb d_Mod_readFactor_35 rfl (lv_at hl 0 rfl) ?_
        refine lv_iconst (v := 2) hx hb d_Mod_readFactor_36 (by decide) ?_
        refine lv_iload_n hx hb d_Mod_readFactor_37 rfl (lv_at hl 1 rfl) ?_
        refine lv_bipush (v := 97) hx hb d_Mod_readFactor_38 (by decide) ?_
        refine lv_isub hx hb d_Mod_readFactor_40 ?_
        obtain ⟨o_15, hG14, h⟩ := bind1_some h
        refine bw_call (Lc := [wMod ct a0 (s32 o0 3 0 ((g32 o0 3 0) + (1 : Int32)))]) (Lc' := [wMod ct a0 o_15]) (L' := [wMod ct a0 o_15]) [0] (va_runV (As := [.int (2 : Int32), .int (x1 - (97 : Int32))]) (rest := []) ⟨hx, hb, hml, hown, hts⟩ (c_Mod_emit l ct dC dI a0 _ (2 : Int32) (x1 - (97 : Int32)) (s32 o0 3 0 ((g32 o0 3 0) + (1 : Int32))) o_15 hG14) (cwV 2 hts g_Mod_100 rfl rfl rfl (by decide +kernel) ⟨Nat.le_of_ble_eq_true rfl, Nat.le_of_ble_eq_true rfl⟩) ⟨bw_blind nx_call, va_recv hK (hP 0 _ rfl) (ci := 6) (q0 := 0) rfl rfl, fun U hU hW => ⟨rfl, by rw [hU], by rw [hU]; exact hP.sub [0] rfl, va_K.moved hW.alike hK, (hN.sub [0] (by decide) rfl).weaken (fun _ _ => trivial), nx_warm hW hnx⟩⟩ rfl rfl hl.1 rfl (Nat.le_of_ble_eq_true rfl) d_Mod_readFactor_41 ⟨Nat.le_of_ble_eq_true rfl, Nat.le_of_ble_eq_true rfl⟩) hP hN hS hA rfl rfl rfl (fun H locs hP hS => ?_)
        refine lv_aload_n hx hb d_Mod_readFactor_44 rfl (lv_at hl 0 rfl) ?_
        obtain ⟨o_17, hG16, h⟩ := bind1_some h
        refine bw_call (Lc := [wMod ct a0 o_15]) (Lc' := [wMod ct a0 o_17]) (L' := [wMod ct a0 o_17]) [0] (va_runV (As := []) (rest := []) ⟨hx, hb, hml, hown, hts⟩ (c_Mod_endFactor l ct dC dI a0 _ o_15 o_17 hG16) (cwV 0 hts g_Mod_127 rfl rfl rfl (by decide +kernel) ⟨Nat.le_of_ble_eq_true rfl, Nat.le_of_ble_eq_true rfl⟩) ⟨bw_blind nx_call, va_recv hK (hP 0 _ rfl) (ci := 6) (q0 := 0) rfl rfl, fun U hU hW => ⟨rfl, by rw [hU], by rw [hU]; exact hP.sub [0] rfl, va_K.moved hW.alike hK, (hN.sub [0] (by decide) rfl).weaken (fun _ _ => trivial), nx_warm hW hnx⟩⟩ rfl rfl hl.1 rfl (Nat.le_of_ble_eq_true rfl) d_Mod_readFactor_45 ⟨Nat.le_of_ble_eq_true rfl, Nat.le_of_ble_eq_true rfl⟩) hP hN hS hA rfl rfl rfl (fun H locs hP hS => ?_)
        refine lv_iconst (v := 1) hx hb d_Mod_readFactor_48 (by decide) ?_
        obtain ⟨rfl, rfl⟩ := res2 h
        exact W.zret hx hb hr rfl (fun t ht hW => ⟨rfl, by rw [ht]; exact hP, hS.F ht⟩) hS.2.2 d_Mod_readFactor_49
  · have h := ite_f c3 h
    refine lv_aload_n hx hb d_Mod_readFactor_7 rfl (lv_at hl 0 rfl) ?_
    obtain ⟨o_19, hG18, h⟩ := bind1_some h
    refine bw_call (Lc := [wMod ct a0 o0]) (Lc' := [wMod ct a0 o_19]) (L' := [wMod ct a0 o_19]) [0] (va_runV (As := []) (rest := []) ⟨hx, hb, hml, hown, hts⟩ (c_Mod_readNumber l ct dC dI a0 _ o0 o_19 hG18) (cwV 0 hts g_Mod_133 rfl rfl rfl (by decide +kernel) ⟨Nat.le_of_ble_eq_true rfl, Nat.le_of_ble_eq_true rfl⟩) ⟨bw_blind nx_call, va_recv hK (hP 0 _ rfl) (ci := 6) (q0 := 0) rfl rfl, fun U hU hW => ⟨rfl, by rw [hU], by rw [hU]; exact hP.sub [0] rfl, va_K.moved hW.alike hK, (hN.sub [0] (by decide) rfl).weaken (fun _ _ => trivial), nx_warm hW hnx⟩⟩ rfl rfl hl.1 rfl (Nat.le_of_ble_eq_true rfl) d_Mod_readFactor_8 ⟨Nat.le_of_ble_eq_true rfl, Nat.le_of_ble_eq_true rfl⟩) hP hN hS hA rfl rfl rfl (fun H locs hP hS => ?_)
    refine lv_iconst (v := 1) hx hb d_Mod_readFactor_11 (by decide) ?_
    obtain ⟨rfl, rfl⟩ := res2 h
    exact W.zret hx hb hr rfl (fun t ht hW => ⟨rfl, by rw [ht]; exact hP, hS.F ht⟩) hS.2.2 d_Mod_readFactor_12
def F_Mod_operator_0  : Nat → Int32 → Int32 → Ob → Option (Ob)
  | 0, _, _, _ => none
  | n + 1, x1, x2, o0 =>
    bind1 (F_Mod_isWaiting x2 (8 : Int32) o0) (fun v2 => if (b2i v2) = 0 then (bind1 (F_Mod_push x1 o0) (fun o_5 => some o_5)) else (bind1 (F_Mod_pop o0) (fun o_7 => F_Mod_operator_0 n x1 x2 o_7)))
def F_Mod_operator (x1 : Int32) (x2 : Int32) (o0 : Ob) : Option (Ob) :=
  F_Mod_operator_0 fuel x1 x2 o0
abbrev ws_Mod_operator : List Cond := Cond.code y_Mod_operator b_Mod_operator 3 (none : Option Jvm.ClassFile.FieldType) :: wsAll
abbrev rm_Mod_operator : Room := { frames := 2, cells := 0, slots := 0, locals := 42 }
set_option maxHeartbeats 4000000 in
set_option maxRecDepth 100000 in
theorem k_Mod_operator_0 {p : Program} {l : Launch} {e : Env} {s : State} {m : MethodId} {args : Array Value} {below : List Frame} {meth : Method} {c : Code} {A : Nat → Prop} {ct dC : Nat → ClassId} {dI : Nat → Nat → Nat} {a0 : Nat → Nat}  {n0 : Ob}   (C0 : cx wsAll vwCl nx p s m args meth c (dC, dI) (tyA ct) b_Mod_operator 3 (none : Option Jvm.ClassFile.FieldType) R_Mod A [adMod a0])  : ∀ (n : Nat) (x1 : Int32) (x2 : Int32) (o0 : Ob) (H : Heap) (locs : List Loc) (ls : Array Slot), bw_P (dC, dI) vwCl [wMod ct a0 o0] H → va_S A s.heap H locs → lv_has ls 3 [(0, .ref (a0 0)), (1, .int x1), (2, .int x2)] → F_Mod_operator_0 n x1 x2 o0 = some n0 → W p l e (headSpec ws_Mod_operator rm_Mod_operator).room s m args below meth c H locs 0 0 (MQ below (bw_Q (dC, dI) vwCl none [wMod ct a0 n0] A) args s 0 0 A) (F0 m 0 ls []) := by
  obtain ⟨hx, hb, hr, hml, hown, hlocks, hts, hK, hN, hA, hnx⟩ := id C0
  intro n
  induction n with
  | zero =>
    intro x1 x2 o0 H locs ls hP hS hl h
    cases h
  | succ n ih =>
    intro x1 x2 o0 H locs ls hP hS hl h
    rw [F_Mod_operator_0] at h
    refine lv_aload_n hx hb d_Mod_operator_0 rfl (lv_at hl 0 rfl) ?_
    refine lv_iload_n hx hb d_Mod_operator_1 rfl (lv_at hl 2 rfl) ?_
    refine lv_bipush (v := 8) hx hb d_Mod_operator_2 (by decide) ?_
    obtain ⟨v2, hG1, h⟩ := bind1_some h
    refine bw_callR (va_runV (As := [.int x2, .int (8 : Int32)]) (rest := []) ⟨hx, hb, hml, hown, hts⟩ (c_Mod_isWaiting l ct dC dI a0 _ x2 (8 : Int32) o0 v2 hG1) (cwV 2 hts g_Mod_104 rfl rfl rfl (by decide +kernel) ⟨Nat.le_of_ble_eq_true rfl, Nat.le_of_ble_eq_true rfl⟩) ⟨bw_blind nx_call, va_recv hK (hP 0 _ rfl) (ci := 6) (q0 := 0) rfl rfl, fun U hU hW => ⟨rfl, by rw [hU], by rw [hU]; exact hP.sub [0] rfl, va_K.moved hW.alike hK, (hN.sub [0] (by decide) rfl).weaken (fun _ _ => trivial), nx_warm hW hnx⟩⟩ rfl rfl hl.1 rfl (Nat.le_of_ble_eq_true rfl) d_Mod_operator_4 ⟨Nat.le_of_ble_eq_true rfl, Nat.le_of_ble_eq_true rfl⟩) ?_
    refine lv_if_eq (tgt := 17) hx hb d_Mod_operator_7 (by decide) (fun c3 => ?_) (fun c3 => ?_)
    · have h := ite_t c3 h
      refine lv_aload_n hx hb d_Mod_operator_17 rfl (lv_at hl 0 rfl) ?_
      refine lv_iload_n hx hb d_Mod_operator_18 rfl (lv_at hl 1 rfl) ?_
      obtain ⟨o_5, hG4, h⟩ := bind1_some h
      refine bw_call (Lc := [wMod ct a0 o0]) (Lc' := [wMod ct a0 o_5]) (L' := [wMod ct a0 o_5]) [0] (va_runV (As := [.int x1]) (rest := []) ⟨hx, hb, hml, hown, hts⟩ (c_Mod_push l ct dC dI a0 _ x1 o0 o_5 hG4) (cwV 1 hts g_Mod_139 rfl rfl rfl (by decide +kernel) ⟨Nat.le_of_ble_eq_true rfl, Nat.le_of_ble_eq_true rfl⟩) ⟨bw_blind nx_call, va_recv hK (hP 0 _ rfl) (ci := 6) (q0 := 0) rfl rfl, fun U hU hW => ⟨rfl, by rw [hU], by rw [hU]; exact hP.sub [0] rfl, va_K.moved hW.alike hK, (hN.sub [0] (by decide) rfl).weaken (fun _ _ => trivial), nx_warm hW hnx⟩⟩ rfl rfl hl.1 rfl (Nat.le_of_ble_eq_true rfl) d_Mod_operator_19 ⟨Nat.le_of_ble_eq_true rfl, Nat.le_of_ble_eq_true rfl⟩) hP hN hS hA rfl rfl rfl (fun H locs hP hS => ?_)
      obtain rfl := res1 h
      exact W.vret hx hb hr (fun t ht hW => ⟨rfl, by rw [ht]; exact hP, hS.F ht⟩) hS.2.2 d_Mod_operator_22
    · have h := ite_f c3 h
      refine lv_aload_n hx hb d_Mod_operator_10 rfl (lv_at hl 0 rfl) ?_
      obtain ⟨o_7, hG6, h⟩ := bind1_some h
      refine bw_call (Lc := [wMod ct a0 o0]) (Lc' := [wMod ct a0 o_7]) (L' := [wMod ct a0 o_7]) [0] (va_runV (As := []) (rest := []) ⟨hx, hb, hml, hown, hts⟩ (c_Mod_pop l ct dC dI a0 _ o0 o_7 hG6) (cwV 0 hts g_Mod_108 rfl rfl rfl (by decide +kernel) ⟨Nat.le_of_ble_eq_true rfl, Nat.le_of_ble_eq_true rfl⟩) ⟨bw_blind nx_call, va_recv hK (hP 0 _ rfl) (ci := 6) (q0 := 0) rfl rfl, fun U hU hW => ⟨rfl, by rw [hU], by rw [hU]; exact hP.sub [0] rfl, va_K.moved hW.alike hK, (hN.sub [0] (by decide) rfl).weaken (fun _ _ => trivial), nx_warm hW hnx⟩⟩ rfl rfl hl.1 rfl (Nat.le_of_ble_eq_true rfl) d_Mod_operator_11 ⟨Nat.le_of_ble_eq_true rfl, Nat.le_of_ble_eq_true rfl⟩) hP hN hS hA rfl rfl rfl (fun H locs hP hS => ?_)
      refine lv_goto (tgt := 0) hx hb d_Mod_operator_14 (by decide) ?_
      exact ih x1 x2 o_7 _ _ _ hP hS (lv_sub hl [0, 1, 2] rfl) h
set_option maxHeartbeats 4000000 in
set_option maxRecDepth 100000 in
theorem c_Mod_operator (l : Launch) (ct dC : Nat → ClassId) (dI : Nat → Nat → Nat) (a0 : Nat → Nat)  (sz : Nat) (x1 : Int32) (x2 : Int32) (o0 : Ob) (n0 : Ob) (hF : F_Mod_operator x1 x2 o0 = some n0) : Met l y_Mod_operator ws_Mod_operator rm_Mod_operator (bw_Pc [.ref (a0 0), .int x1, .int x2] (dC, dI) vwCl (tyA ct) [wMod ct a0 o0] sz nx) (bw_Q (dC, dI) vwCl none [wMod ct a0 n0] (bw_A [adMod a0] sz)) 0 0 (bw_A [adMod a0] sz) := by
  refine Met.ofW (cc := b_Mod_operator) (maxL := 3) (ret := (none : Option Jvm.ClassFile.FieldType)) (by decide) rfl ?_
  intro p e s m args below meth c s₁ B hml hv
  obtain ⟨rfl, hsz, hP, hK, hN0, hnx⟩ := hv
  have hx := B.exec
  have hb := B.bytes
  have hr := B.returns
  have hts : ∀ w ∈ wsAll, w.before [.ref (a0 0), .int x1, .int x2].toArray s = true := fun w h9 => atoms_spec (ws := ws_Mod_operator) B.pre w (List.mem_cons_of_mem _ h9)
  have hown : s.vm.findClass R_Mod = some m.cls := findClass_of_methodNamed B.named
  have hlocks := B.notSynchronized
  subst hsz
  have hN : bw_N (bw_A [adMod a0] s.heap.size) [adMod a0] := hN0.self s.heap.size
  generalize hAe : bw_A [adMod a0] s.heap.size = A at hN ⊢
  have hA : ∀ q : Nat, s.heap.size ≤ q → A q := fun q h => by rw [← hAe]; exact Or.inr h
  have hS : va_S A s.heap s.heap [] := va_S.rf
  have hl := lv_entry ([.ref (a0 0), .int x1, .int x2]) (n := 3) (Nat.le_of_ble_eq_true rfl)
  rw [lg_entry_eq]
  generalize (lg_sl ([.ref (a0 0), .int x1, .int x2]) ++ List.replicate (3 - (lg_sl ([.ref (a0 0), .int x1, .int x2])).length) Slot.unset).toArray = ls at hl ⊢
  have hl : lv_has ls 3 [(0, .ref (a0 0)), (1, .int x1), (2, .int x2)] := hl
  have C0 : cx wsAll vwCl nx p s m [.ref (a0 0), .int x1, .int x2].toArray meth c (dC, dI) (tyA ct) b_Mod_operator 3 (none : Option Jvm.ClassFile.FieldType) R_Mod A [adMod a0] := ⟨hx, hb, hr, hml, hown, hlocks, hts, hK, hN, hA, hnx⟩
  have h := hF
  rw [F_Mod_operator] at h
  exact k_Mod_operator_0 C0 fuel x1 x2 o0 _ _ _ hP hS (lv_sub hl [0, 1, 2] rfl) h
theorem g_Mod_142 : GoodIn wsAll (wsV R_Mod 142 R_Mod y_Mod_readFactor ws_Mod_readFactor) := gd_V ml_Mod_142 im_Mod_readFactor se_Mod_readFactor ini_Mod cd_Mod_readFactor
theorem g_Mod_145 : GoodIn wsAll (wsV R_Mod 145 R_Mod y_Mod_operator ws_Mod_operator) := gd_V ml_Mod_145 im_Mod_operator se_Mod_operator ini_Mod cd_Mod_operator
def F_Mod_readExpression_213  : Nat → Ob → Option (Ob)
  | 0, _ => none
  | n + 1, o0 =>
    if (g32 o0 14 0) ≤ 0 then (some o0) else (if 0 ≤ (g32 o0 4 0) then (some o0) else (bind1 (F_Mod_pop o0) (fun o_25 => F_Mod_readExpression_213 n o_25)))
def F_Mod_readExpression_72 (k11 : Int32 → Int32 → Int32 → Ob → Option (Ob)) (x2 : Int32) (x3 : Int32) (x4 : Int32) (o0 : Ob) : Option (Ob) :=
  if x4 = (43 : Int32) then (bind1 (F_Mod_operator (5 : Int32) (5 : Int32) o0) (fun o_30 => k11 (0 : Int32) x2 x3 o_30)) else (bind1 (F_Mod_operator (6 : Int32) (5 : Int32) o0) (fun o_28 => k11 (0 : Int32) x2 x3 o_28))
def F_Mod_readExpression_109 (k11 : Int32 → Int32 → Int32 → Ob → Option (Ob)) (x2 : Int32) (x3 : Int32) (x4 : Int32) (o0 : Ob) : Option (Ob) :=
  if x4 = (42 : Int32) then (bind1 (F_Mod_operator (7 : Int32) (7 : Int32) o0) (fun o_35 => k11 (0 : Int32) x2 x3 o_35)) else (bind1 (F_Mod_operator (8 : Int32) (7 : Int32) o0) (fun o_33 => k11 (0 : Int32) x2 x3 o_33))
def F_Mod_readExpression_145 (k11 : Int32 → Int32 → Int32 → Ob → Option (Ob)) : Nat → Int32 → Int32 → Int32 → Ob → Option (Ob)
  | 0, _, _, _, _ => none
  | n + 1, x1, x2, x3, o0 =>
    bind1 (F_Mod_isWaiting (11 : Int32) (11 : Int32) o0) (fun v37 => if (b2i v37) = 0 then (bind1 (F_Mod_pop o0) (fun o_42 => F_Mod_readExpression_145 k11 n x1 x2 x3 o_42)) else (bind1 (F_Mod_endFactor (s32 (s32 o0 14 0 ((g32 o0 14 0) - (1 : Int32))) 3 0 ((g32 o0 3 0) + (1 : Int32)))) (fun o_40 => k11 x1 x2 (x3 + (-1 : Int32)) o_40)))
def F_Mod_readExpression_11  : Nat → Int32 → Int32 → Int32 → Ob → Option (Ob)
  | 0, _, _, _, _ => none
  | n + 1, x1, x2, x3, o0 =>
    if x2 = 0 then (F_Mod_readExpression_213 fuel o0) else (if 0 ≤ (g32 o0 4 0) then (F_Mod_readExpression_213 fuel o0) else (bind1 (F_Mod_here o0) (fun v4 => if x1 = 0 then (bind2 (F_Mod_readFactor v4 x3 o0) (fun v19 o_20 => if v4 = (40 : Int32) then (F_Mod_readExpression_11 n (b2i v19) x2 (x3 + (1 : Int32)) o_20) else (F_Mod_readExpression_11 n (b2i v19) x2 x3 o_20))) else (if v4 = (43 : Int32) then (F_Mod_readExpression_72 (F_Mod_readExpression_11 n) x2 x3 v4 o0) else (if v4 = (45 : Int32) then (F_Mod_readExpression_72 (F_Mod_readExpression_11 n) x2 x3 v4 o0) else (if v4 = (42 : Int32) then (F_Mod_readExpression_109 (F_Mod_readExpression_11 n) x2 x3 v4 o0) else (if v4 = (47 : Int32) then (F_Mod_readExpression_109 (F_Mod_readExpression_11 n) x2 x3 v4 o0) else (if v4 = (41 : Int32) then (if x3 ≤ 0 then (if x3 ≤ 0 then (F_Mod_readExpression_11 n x1 (0 : Int32) x3 o0) else (bind1 (F_Mod_failAt (g32 o0 3 0) o0) (fun o_17 => F_Mod_readExpression_11 n x1 x2 x3 o_17))) else (F_Mod_readExpression_145 (F_Mod_readExpression_11 n) fuel x1 x2 x3 o0)) else (if x3 ≤ 0 then (F_Mod_readExpression_11 n x1 (0 : Int32) x3 o0) else (bind1 (F_Mod_failAt (g32 o0 3 0) o0) (fun o_13 => F_Mod_readExpression_11 n x1 x2 x3 o_13)))))))))))
def F_Mod_readExpression  (o0 : Ob) : Option (Ob) :=
  F_Mod_readExpression_11 fuel (0 : Int32) (1 : Int32) (0 : Int32) (s32 o0 14 0 (0 : Int32))
abbrev ws_Mod_readExpression : List Cond := Cond.code y_Mod_readExpression b_Mod_readExpression 5 (none : Option Jvm.ClassFile.FieldType) :: wsAll
abbrev rm_Mod_readExpression : Room := { frames := 5, cells := 0, slots := 0, locals := 107 }
set_option maxHeartbeats 4000000 in
set_option maxRecDepth 100000 in
theorem k_Mod_readExpression_213 {p : Program} {l : Launch} {e : Env} {s : State} {m : MethodId} {args : Array Value} {below : List Frame} {meth : Method} {c : Code} {A : Nat → Prop} {ct dC : Nat → ClassId} {dI : Nat → Nat → Nat} {a0 : Nat → Nat}  {n0 : Ob}   (C0 : cx wsAll vwCl nx p s m args meth c (dC, dI) (tyA ct) b_Mod_readExpression 5 (none : Option Jvm.ClassFile.FieldType) R_Mod A [adMod a0])  : ∀ (n : Nat)  (o0 : Ob) (H : Heap) (locs : List Loc) (ls : Array Slot), bw_P (dC, dI) vwCl [wMod ct a0 o0] H → va_S A s.heap H locs → lv_has ls 5 [(0, .ref (a0 0))] → F_Mod_readExpression_213 n o0 = some n0 → W p l e (headSpec ws_Mod_readExpression rm_Mod_readExpression).room s m args below meth c H locs 0 0 (MQ below (bw_Q (dC, dI) vwCl none [wMod ct a0 n0] A) args s 0 0 A) (F0 m 213 ls []) := by
  obtain ⟨hx, hb, hr, hml, hown, hlocks, hts, hK, hN, hA, hnx⟩ := id C0
  intro n
  induction n with
  | zero =>
    intro o0 H locs ls hP hS hl h
    cases h
  | succ n ih =>
    intro o0 H locs ls hP hS hl h
    rw [F_Mod_readExpression_213] at h
    refine lv_aload_n hx hb d_Mod_readExpression_213 rfl (lv_at hl 0 rfl) ?_
    refine va_get (D := (dC, dI)) (ci := 6) (v := .int (g32 o0 14 0)) (C := R_Mod) (T := T_Mod) (N := 36) hx hb hts in_Mod hown hK (hP 0 _ rfl) 0 rfl rfl 14 (by decide) (hts _ fl_Mod_97) (fun _ h9 => h9) rfl d_Mod_readExpression_214 ?_
    refine lv_if_le (tgt := 234) hx hb d_Mod_readExpression_217 (by decide) (fun c22 => ?_) (fun c22 => ?_)
    · have h := ite_t c22 h
      obtain rfl := res1 h
      exact W.vret hx hb hr (fun t ht hW => ⟨rfl, by rw [ht]; exact hP, hS.F ht⟩) hS.2.2 d_Mod_readExpression_234
    · have h := ite_f c22 h
      refine lv_aload_n hx hb d_Mod_readExpression_220 rfl (lv_at hl 0 rfl) ?_
      refine va_get (D := (dC, dI)) (ci := 6) (v := .int (g32 o0 4 0)) (C := R_Mod) (T := T_Mod) (N := 36) hx hb hts in_Mod hown hK (hP 0 _ rfl) 0 rfl rfl 4 (by decide) (hts _ fl_Mod_94) (fun _ h9 => h9) rfl d_Mod_readExpression_221 ?_
      refine lv_if_ge (tgt := 234) hx hb d_Mod_readExpression_224 (by decide) (fun c23 => ?_) (fun c23 => ?_)
      · have h := ite_t c23 h
        obtain rfl := res1 h
        exact W.vret hx hb hr (fun t ht hW => ⟨rfl, by rw [ht]; exact hP, hS.F ht⟩) hS.2.2 d_Mod_readExpression_234
      · have h := ite_f c23 h
        refine lv_aload_n hx hb d_Mod_readExpression_227 rfl (lv_at hl 0 rfl) ?_
        obtain ⟨o_25, hG24, h⟩ := bind1_some h
        refine bw_call (Lc := [wMod ct a0 o0]) (Lc' := [wMod ct a0 o_25]) (L' := [wMod ct a0 o_25]) [0] (va_runV (As := []) (rest := []) ⟨hx, hb, hml, hown, hts⟩ (c_Mod_pop l ct dC dI a0 _ o0 o_25 hG24) (cwV 0 hts g_Mod_108 rfl rfl rfl (by decide +kernel) ⟨Nat.le_of_ble_eq_true rfl, Nat.le_of_ble_eq_true rfl⟩) ⟨bw_blind nx_call, va_recv hK (hP 0 _ rfl) (ci := 6) (q0 := 0) rfl rfl, fun U hU hW => ⟨rfl, by rw [hU], by rw [hU]; exact hP.sub [0] rfl, va_K.moved hW.alike hK, (hN.sub [0] (by decide) rfl).weaken (fun _ _ => trivial), nx_warm hW hnx⟩⟩ rfl rfl hl.1 rfl (Nat.le_of_ble_eq_true rfl) d_Mod_readExpression_228 ⟨Nat.le_of_ble_eq_true rfl, Nat.le_of_ble_eq_true rfl⟩) hP hN hS hA rfl rfl rfl (fun H locs hP hS => ?_)
        refine lv_goto (tgt := 213) hx hb d_Mod_readExpression_231 (by decide) ?_
        exact ih o_25 _ _ _ hP hS (lv_sub hl [0] rfl) h
set_option maxHeartbeats 4000000 in
set_option maxRecDepth 100000 in
theorem k_Mod_readExpression_72 {p : Program} {l : Launch} {e : Env} {s : State} {m : MethodId} {args : Array Value} {below : List Frame} {meth : Method} {c : Code} {A : Nat → Prop} {ct dC : Nat → ClassId} {dI : Nat → Nat → Nat} {a0 : Nat → Nat}  {n0 : Ob}  {k11 : Int32 → Int32 → Int32 → Ob → Option (Ob)} (C0 : cx wsAll vwCl nx p s m args meth c (dC, dI) (tyA ct) b_Mod_readExpression 5 (none : Option Jvm.ClassFile.FieldType) R_Mod A [adMod a0]) (hk11 : ∀ (x1 : Int32) (x2 : Int32) (x3 : Int32) (o0 : Ob) (H : Heap) (locs : List Loc) (ls : Array Slot), bw_P (dC, dI) vwCl [wMod ct a0 o0] H → va_S A s.heap H locs → lv_has ls 5 [(0, .ref (a0 0)), (1, .int x1), (2, .int x2), (3, .int x3)] → k11 x1 x2 x3 o0 = some n0 → W p l e (headSpec ws_Mod_readExpression rm_Mod_readExpression).room s m args below meth c H locs 0 0 (MQ below (bw_Q (dC, dI) vwCl none [wMod ct a0 n0] A) args s 0 0 A) (F0 m 11 ls [])) : ∀ (x2 : Int32) (x3 : Int32) (x4 : Int32) (o0 : Ob) (H : Heap) (locs : List Loc) (ls : Array Slot), bw_P (dC, dI) vwCl [wMod ct a0 o0] H → va_S A s.heap H locs → lv_has ls 5 [(0, .ref (a0 0)), (2, .int x2), (3, .int x3), (4, .int x4)] → F_Mod_readExpression_72 k11 x2 x3 x4 o0 = some n0 → W p l e (headSpec ws_Mod_readExpression rm_Mod_readExpression).room s m args below meth c H locs 0 0 (MQ below (bw_Q (dC, dI) vwCl none [wMod ct a0 n0] A) args s 0 0 A) (F0 m 72 ls []) := by
  obtain ⟨hx, hb, hr, hml, hown, hlocks, hts, hK, hN, hA, hnx⟩ := id C0
  intro x2 x3 x4 o0 H locs ls hP hS hl h
  rw [F_Mod_readExpression_72] at h
  refine lv_aload_n hx hb d_Mod_readExpression_72 rfl (lv_at hl 0 rfl) ?_
  refine lv_iload hx hb d_Mod_readExpression_73 (lv_at hl 3 rfl) ?_
  refine lv_bipush (v := 43) hx hb d_Mod_readExpression_75 (by decide) ?_
  refine lv_icmp_ne (tgt := 84) hx hb d_Mod_readExpression_77 (by decide) (fun c26 => ?_) (fun c26 => ?_)
  · have h := ite_f c26 h
    refine lv_bipush (v := 6) hx hb d_Mod_readExpression_84 (by decide) ?_
    refine lv_iconst (v := 5) hx hb d_Mod_readExpression_86 (by decide) ?_
    obtain ⟨o_28, hG27, h⟩ := bind1_some h
    refine bw_call (Lc := [wMod ct a0 o0]) (Lc' := [wMod ct a0 o_28]) (L' := [wMod ct a0 o_28]) [0] (va_runV (As := [.int (6 : Int32), .int (5 : Int32)]) (rest := []) ⟨hx, hb, hml, hown, hts⟩ (c_Mod_operator l ct dC dI a0 _ (6 : Int32) (5 : Int32) o0 o_28 hG27) (cwV 2 hts g_Mod_145 rfl rfl rfl (by decide +kernel) ⟨Nat.le_of_ble_eq_true rfl, Nat.le_of_ble_eq_true rfl⟩) ⟨bw_blind nx_call, va_recv hK (hP 0 _ rfl) (ci := 6) (q0 := 0) rfl rfl, fun U hU hW => ⟨rfl, by rw [hU], by rw [hU]; exact hP.sub [0] rfl, va_K.moved hW.alike hK, (hN.sub [0] (by decide) rfl).weaken (fun _ _ => trivial), nx_warm hW hnx⟩⟩ rfl rfl hl.1 rfl (Nat.le_of_ble_eq_true rfl) d_Mod_readExpression_87 ⟨Nat.le_of_ble_eq_true rfl, Nat.le_of_ble_eq_true rfl⟩) hP hN hS hA rfl rfl rfl (fun H locs hP hS => ?_)
    refine lv_iconst (v := 0) hx hb d_Mod_readExpression_90 (by decide) ?_
    refine lv_istore_n (lv' := [(1, .int (0 : Int32)), (0, .ref (a0 0)), (2, .int x2), (3, .int x3), (4, .int x4)]) hx hb d_Mod_readExpression_91 rfl hl (by decide) rfl (fun ls hl => ?_)
    refine lv_goto (tgt := 210) hx hb d_Mod_readExpression_92 (by decide) ?_
    refine lv_goto (tgt := 11) hx hb d_Mod_readExpression_210 (by decide) ?_
    exact hk11 (0 : Int32) x2 x3 o_28 _ _ _ hP hS (lv_sub hl [1, 0, 2, 3] rfl) h
  · have h := ite_t c26 h
    refine lv_iconst (v := 5) hx hb d_Mod_readExpression_80 (by decide) ?_
    refine lv_goto (tgt := 86) hx hb d_Mod_readExpression_81 (by decide) ?_
    refine lv_iconst (v := 5) hx hb d_Mod_readExpression_86 (by decide) ?_
    obtain ⟨o_30, hG29, h⟩ := bind1_some h
    refine bw_call (Lc := [wMod ct a0 o0]) (Lc' := [wMod ct a0 o_30]) (L' := [wMod ct a0 o_30]) [0] (va_runV (As := [.int (5 : Int32), .int (5 : Int32)]) (rest := []) ⟨hx, hb, hml, hown, hts⟩ (c_Mod_operator l ct dC dI a0 _ (5 : Int32) (5 : Int32) o0 o_30 hG29) (cwV 2 hts g_Mod_145 rfl rfl rfl (by decide +kernel) ⟨Nat.le_of_ble_eq_true rfl, Nat.le_of_ble_eq_true rfl⟩) ⟨bw_blind nx_call, va_recv hK (hP 0 _ rfl) (ci := 6) (q0 := 0) rfl rfl, fun U hU hW => ⟨rfl, by rw [hU], by rw [hU]; exact hP.sub [0] rfl, va_K.moved hW.alike hK, (hN.sub [0] (by decide) rfl).weaken (fun _ _ => trivial), nx_warm hW hnx⟩⟩ rfl rfl hl.1 rfl (Nat.le_of_ble_eq_true rfl) d_Mod_readExpression_87 ⟨Nat.le_of_ble_eq_true rfl, Nat.le_of_ble_eq_true rfl⟩) hP hN hS hA rfl rfl rfl (fun H locs hP hS => ?_)
    refine lv_iconst (v := 0) hx hb d_Mod_readExpression_90 (by decide) ?_
    refine lv_istore_n (lv' := [(1, .int (0 : Int32)), (0, .ref (a0 0)), (2, .int x2), (3, .int x3), (4, .int x4)]) hx hb d_Mod_readExpression_91 rfl hl (by decide) rfl (fun ls hl => ?_)
    refine lv_goto (tgt := 210) hx hb d_Mod_readExpression_92 (by decide) ?_
    refine lv_goto (tgt := 11) hx hb d_Mod_readExpression_210 (by decide) ?_
    exact hk11 (0 : Int32) x2 x3 o_30 _ _ _ hP hS (lv_sub hl [1, 0, 2, 3] rfl) h
set_option maxHeartbeats 4000000 in
set_option maxRecDepth 100000 in
theorem k_Mod_readExpression_109 {p : Program} {l : Launch} {e : Env} {s : State} {m : MethodId} {args : Array Value} {below : List Frame} {meth : Method} {c : Code} {A : Nat → Prop} {ct dC : Nat → ClassId} {dI : Nat → Nat → Nat} {a0 : Nat → Nat}  {n0 : Ob}  {k11 : Int32 → Int32 → Int32 → Ob → Option (Ob)} (C0 : cx wsAll vwCl nx p s m args meth c (dC, dI) (tyA ct) b_Mod_readExpression 5 (none : Option Jvm.ClassFile.FieldType) R_Mod A [adMod a0]) (hk11 : ∀ (x1 : Int32) (x2 : Int32) (x3 : Int32) (o0 : Ob) (H : Heap) (locs : List Loc) (ls : Array Slot), bw_P (dC, dI) vwCl [wMod ct a0 o0] H → va_S A s.heap H locs → lv_has ls 5 [(0, .ref (a0 0)), (1, .int x1), (2, .int x2), (3, .int x3)] → k11 x1 x2 x3 o0 = some n0 → W p l e (headSpec ws_Mod_readExpression rm_Mod_readExpression).room s m args below meth c H locs 0 0 (MQ below (bw_Q (dC, dI) vwCl none [wMod ct a0 n0] A) args s 0 0 A) (F0 m 11 ls [])) : ∀ (x2 : Int32) (x3 : Int32) (x4 : Int32) (o0 : Ob) (H : Heap) (locs : List Loc) (ls : Array Slot), bw_P (dC, dI) vwCl [wMod ct a0 o0] H → va_S A s.heap H locs → lv_has ls 5 [(0, .ref (a0 0)), (2, .int x2), (3, .int x3), (4, .int x4)] → F_Mod_readExpression_109 k11 x2 x3 x4 o0 = some n0 → W p l e (headSpec ws_Mod_readExpression rm_Mod_readExpression).room s m args below meth c H locs 0 0 (MQ below (bw_Q (dC, dI) vwCl none [wMod ct a0 n0] A) args s 0 0 A) (F0 m 109 ls []) := by
  obtain ⟨hx, hb, hr, hml, hown, hlocks, hts, hK, hN, hA, hnx⟩ := id C0
  intro x2 x3 x4 o0 H locs ls hP hS hl h
  rw [F_Mod_readExpression_109] at h
  refine lv_aload_n hx hb d_Mod_readExpression_109 rfl (lv_at hl 0 rfl) ?_
  refine lv_iload hx hb d_Mod_readExpression_110 (lv_at hl 3 rfl) ?_
  refine lv_bipush (v := 42) hx hb d_Mod_readExpression_112 (by decide) ?_
  refine lv_icmp_ne (tgt := 122) hx hb d_Mod_readExpression_114 (by decide) (fun c31 => ?_) (fun c31 => ?_)
  · have h := ite_f c31 h
    refine lv_bipush (v := 8) hx hb d_Mod_readExpression_122 (by decide) ?_
    refine lv_bipush (v := 7) hx hb d_Mod_readExpression_124 (by decide) ?_
    obtain ⟨o_33, hG32, h⟩ := bind1_some h
    refine bw_call (Lc := [wMod ct a0 o0]) (Lc' := [wMod ct a0 o_33]) (L' := [wMod ct a0 o_33]) [0] (va_runV (As := [.int (8 : Int32), .int (7 : Int32)]) (rest := []) ⟨hx, hb, hml, hown, hts⟩ (c_Mod_operator l ct dC dI a0 _ (8 : Int32) (7 : Int32) o0 o_33 hG32) (cwV 2 hts g_Mod_145 rfl rfl rfl (by decide +kernel) ⟨Nat.le_of_ble_eq_true rfl, Nat.le_of_ble_eq_true rfl⟩) ⟨bw_blind nx_call, va_recv hK (hP 0 _ rfl) (ci := 6) (q0 := 0) rfl rfl, fun U hU hW => ⟨rfl, by rw [hU], by rw [hU]; exact hP.sub [0] rfl, va_K.moved hW.alike hK, (hN.sub [0] (by decide) rfl).weaken (fun _ _ => trivial), nx_warm hW hnx⟩⟩ rfl rfl hl.1 rfl (Nat.le_of_ble_eq_true rfl) d_Mod_readExpression_126 ⟨Nat.le_of_ble_eq_true rfl, Nat.le_of_ble_eq_true rfl⟩) hP hN hS hA rfl rfl rfl (fun H locs hP hS => ?_)
    refine lv_iconst (v := 0) hx hb d_Mod_readExpression_129 (by decide) ?_
    refine lv_istore_n (lv' := [(1, .int (0 : Int32)), (0, .ref (a0 0)), (2, .int x2), (3, .int x3), (4, .int x4)]) hx hb d_Mod_readExpression_130 rfl hl (by decide) rfl (fun ls hl => ?_)
    refine lv_goto (tgt := 210) hx hb d_Mod_readExpression_131 (by decide) ?_
    refine lv_goto (tgt := 11) hx hb d_Mod_readExpression_210 (by decide) ?_
    exact hk11 (0 : Int32) x2 x3 o_33 _ _ _ hP hS (lv_sub hl [1, 0, 2, 3] rfl) h
  · have h := ite_t c31 h
    refine lv_bipush (v := 7) hx hb d_Mod_readExpression_117 (by decide) ?_
    refine lv_goto (tgt := 124) hx hb d_Mod_readExpression_119 (by decide) ?_
    refine lv_bipush (v := 7) hx hb d_Mod_readExpression_124 (by decide) ?_
    obtain ⟨o_35, hG34, h⟩ := bind1_some h
    refine bw_call (Lc := [wMod ct a0 o0]) (Lc' := [wMod ct a0 o_35]) (L' := [wMod ct a0 o_35]) [0] (va_runV (As := [.int (7 : Int32), .int (7 : Int32)]) (rest := []) ⟨hx, hb, hml, hown, hts⟩ (c_Mod_operator l ct dC dI a0 _ (7 : Int32) (7 : Int32) o0 o_35 hG34) (cwV 2 hts g_Mod_145 rfl rfl rfl (by decide +kernel) ⟨Nat.le_of_ble_eq_true rfl, Nat.le_of_ble_eq_true rfl⟩) ⟨bw_blind nx_call, va_recv hK (hP 0 _ rfl) (ci := 6) (q0 := 0) rfl rfl, fun U hU hW => ⟨rfl, by rw [hU], by rw [hU]; exact hP.sub [0] rfl, va_K.moved hW.alike hK, (hN.sub [0] (by decide) rfl).weaken (fun _ _ => trivial), nx_warm hW hnx⟩⟩ rfl rfl hl.1 rfl (Nat.le_of_ble_eq_true rfl) d_Mod_readExpression_126 ⟨Nat.le_of_ble_eq_true rfl, Nat.le_of_ble_eq_true rfl⟩) hP hN hS hA rfl rfl rfl (fun H locs hP hS => ?_)
    refine lv_iconst (v := 0) hx hb d_Mod_readExpression_129 (by decide) ?_
    refine lv_istore_n (lv' := [(1, .int (0 : Int32)), (0, .ref (a0 0)), (2, .int x2), (3, .int x3), (4, .int x4)]) hx hb d_Mod_readExpression_130 rfl hl (by decide) rfl (fun ls hl => ?_)
    refine lv_goto (tgt := 210) hx hb d_Mod_readExpression_131 (by decide) ?_
    refine lv_goto (tgt := 11) hx hb d_Mod_readExpression_210 (by decide) ?_
    exact hk11 (0 : Int32) x2 x3 o_35 _ _ _ hP hS (lv_sub hl [1, 0, 2, 3] rfl) h
set_option maxHeartbeats 4000000 in
set_option maxRecDepth 100000 in
theorem k_Mod_readExpression_145 {p : Program} {l : Launch} {e : Env} {s : State} {m : MethodId} {args : Array Value} {below : List Frame} {meth : Method} {c : Code} {A : Nat → Prop} {ct dC : Nat → ClassId} {dI : Nat → Nat → Nat} {a0 : Nat → Nat}  {n0 : Ob}  {k11 : Int32 → Int32 → Int32 → Ob → Option (Ob)} (C0 : cx wsAll vwCl nx p s m args meth c (dC, dI) (tyA ct) b_Mod_readExpression 5 (none : Option Jvm.ClassFile.FieldType) R_Mod A [adMod a0]) (hk11 : ∀ (x1 : Int32) (x2 : Int32) (x3 : Int32) (o0 : Ob) (H : Heap) (locs : List Loc) (ls : Array Slot), bw_P (dC, dI) vwCl [wMod ct a0 o0] H → va_S A s.heap H locs → lv_has ls 5 [(0, .ref (a0 0)), (1, .int x1), (2, .int x2), (3, .int x3)] → k11 x1 x2 x3 o0 = some n0 → W p l e (headSpec ws_Mod_readExpression rm_Mod_readExpression).room s m args below meth c H locs 0 0 (MQ below (bw_Q (dC, dI) vwCl none [wMod ct a0 n0] A) args s 0 0 A) (F0 m 11 ls [])) : ∀ (n : Nat) (x1 : Int32) (x2 : Int32) (x3 : Int32) (o0 : Ob) (H : Heap) (locs : List Loc) (ls : Array Slot), bw_P (dC, dI) vwCl [wMod ct a0 o0] H → va_S A s.heap H locs → lv_has ls 5 [(0, .ref (a0 0)), (1, .int x1), (2, .int x2), (3, .int x3)] → F_Mod_readExpression_145 k11 n x1 x2 x3 o0 = some n0 → W p l e (headSpec ws_Mod_readExpression rm_Mod_readExpression).room s m args below meth c H locs 0 0 (MQ below (bw_Q (dC, dI) vwCl none [wMod ct a0 n0] A) args s 0 0 A) (F0 m 145 ls []) := by
  obtain ⟨hx, hb, hr, hml, hown, hlocks, hts, hK, hN, hA, hnx⟩ := id C0
  intro n
  induction n with
  | zero =>
    intro x1 x2 x3 o0 H locs ls hP hS hl h
    cases h
  | succ n ih =>
    intro x1 x2 x3 o0 H locs ls hP hS hl h
    rw [F_Mod_readExpression_145] at h
    refine lv_aload_n hx hb d_Mod_readExpression_145 rfl (lv_at hl 0 rfl) ?_
    refine lv_bipush (v := 11) hx hb d_Mod_readExpression_146 (by decide) ?_
    refine lv_bipush (v := 11) hx hb d_Mod_readExpression_148 (by decide) ?_
    obtain ⟨v37, hG36, h⟩ := bind1_some h
    refine bw_callR (va_runV (As := [.int (11 : Int32), .int (11 : Int32)]) (rest := []) ⟨hx, hb, hml, hown, hts⟩ (c_Mod_isWaiting l ct dC dI a0 _ (11 : Int32) (11 : Int32) o0 v37 hG36) (cwV 2 hts g_Mod_104 rfl rfl rfl (by decide +kernel) ⟨Nat.le_of_ble_eq_true rfl, Nat.le_of_ble_eq_true rfl⟩) ⟨bw_blind nx_call, va_recv hK (hP 0 _ rfl) (ci := 6) (q0 := 0) rfl rfl, fun U hU hW => ⟨rfl, by rw [hU], by rw [hU]; exact hP.sub [0] rfl, va_K.moved hW.alike hK, (hN.sub [0] (by decide) rfl).weaken (fun _ _ => trivial), nx_warm hW hnx⟩⟩ rfl rfl hl.1 rfl (Nat.le_of_ble_eq_true rfl) d_Mod_readExpression_150 ⟨Nat.le_of_ble_eq_true rfl, Nat.le_of_ble_eq_true rfl⟩) ?_
    refine lv_if_ne (tgt := 163) hx hb d_Mod_readExpression_153 (by decide) (fun c38 => ?_) (fun c38 => ?_)
    · have h := ite_f c38 h
      refine lv_aload_n hx hb d_Mod_readExpression_163 rfl (lv_at hl 0 rfl) ?_
      refine lv_dup hx hb d_Mod_readExpression_164 rfl ?_
      refine va_get (D := (dC, dI)) (ci := 6) (v := .int (g32 o0 14 0)) (C := R_Mod) (T := T_Mod) (N := 36) hx hb hts in_Mod hown hK (hP 0 _ rfl) 0 rfl rfl 14 (by decide) (hts _ fl_Mod_97) (fun _ h9 => h9) rfl d_Mod_readExpression_165 ?_
      refine lv_iconst (v := 1) hx hb d_Mod_readExpression_168 (by decide) ?_
      refine lv_isub hx hb d_Mod_readExpression_169 ?_
      refine pt_Mod_14 hx hb hts hown hK hP hN hS 0 rfl (hts _ fl_Mod_97) d_Mod_readExpression_170 (fun H locs hP hS => ?_)
      have hP : bw_P (dC, dI) vwCl [wMod ct a0 (s32 o0 14 0 ((g32 o0 14 0) - (1 : Int32)))] H := hP
      refine lv_iinc (v := (x3 + (-1 : Int32))) (lv' := [(3, .int (x3 + (-1 : Int32))), (0, .ref (a0 0)), (1, .int x1), (2, .int x2)]) hx hb d_Mod_readExpression_173 hl (k := 3) rfl rfl (by decide) rfl (fun ls hl => ?_)
      refine lv_aload_n hx hb d_Mod_readExpression_176 rfl (lv_at hl 1 rfl) ?_
      refine lv_dup hx hb d_Mod_readExpression_177 rfl ?_
      refine va_get (D := (dC, dI)) (ci := 6) (v := .int (g32 o0 3 0)) (C := R_Mod) (T := T_Mod) (N := 36) hx hb hts in_Mod hown hK (hP 0 _ rfl) 0 rfl rfl 3 (by decide) (hts _ fl_Mod_91) (fun _ h9 => h9) rfl d_Mod_readExpression_178 ?_
      refine lv_iconst (v := 1) hx hb d_Mod_readExpression_181 (by decide) ?_
      refine lv_iadd hx hb d_Mod_readExpression_182 ?_
      refine pt_Mod_3 hx hb hts hown hK hP hN hS 0 rfl (hts _ fl_Mod_91) d_Mod_readExpression_183 (fun H locs hP hS => ?_)
      have hP : bw_P (dC, dI) vwCl [wMod ct a0 (s32 (s32 o0 14 0 ((g32 o0 14 0) - (1 : Int32))) 3 0 ((g32 o0 3 0) + (1 : Int32)))] H := hP
      refine lv_aload_n hx hb d_Mod_readExpression_186 rfl (lv_at hl 1 rfl) ?_
      obtain ⟨o_40, hG39, h⟩ := bind1_some h
      refine bw_call (Lc := [wMod ct a0 (s32 (s32 o0 14 0 ((g32 o0 14 0) - (1 : Int32))) 3 0 ((g32 o0 3 0) + (1 : Int32)))]) (Lc' := [wMod ct a0 o_40]) (L' := [wMod ct a0 o_40]) [0] (va_runV (As := []) (rest := []) ⟨hx, hb, hml, hown, hts⟩ (c_Mod_endFactor l ct dC dI a0 _ (s32 (s32 o0 14 0 ((g32 o0 14 0) - (1 : Int32))) 3 0 ((g32 o0 3 0) + (1 : Int32))) o_40 hG39) (cwV 0 hts g_Mod_127 rfl rfl rfl (by decide +kernel) ⟨Nat.le_of_ble_eq_true rfl, Nat.le_of_ble_eq_true rfl⟩) ⟨bw_blind nx_call, va_recv hK (hP 0 _ rfl) (ci := 6) (q0 := 0) rfl rfl, fun U hU hW => ⟨rfl, by rw [hU], by rw [hU]; exact hP.sub [0] rfl, va_K.moved hW.alike hK, (hN.sub [0] (by decide) rfl).weaken (fun _ _ => trivial), nx_warm hW hnx⟩⟩ rfl rfl hl.1 rfl (Nat.le_of_ble_eq_true rfl) d_Mod_readExpression_187 ⟨Nat.le_of_ble_eq_true rfl, Nat.le_of_ble_eq_true rfl⟩) hP hN hS hA rfl rfl rfl (fun H locs hP hS => ?_)
      refine lv_goto (tgt := 210) hx hb d_Mod_readExpression_190 (by decide) ?_
      refine lv_goto (tgt := 11) hx hb d_Mod_readExpression_210 (by decide) ?_
      exact hk11 x1 x2 (x3 + (-1 : Int32)) o_40 _ _ _ hP hS (lv_sub hl [1, 2, 3, 0] rfl) h
    · have h := ite_t c38 h
      refine lv_aload_n hx hb d_Mod_readExpression_156 rfl (lv_at hl 0 rfl) ?_
      obtain ⟨o_42, hG41, h⟩ := bind1_some h
      refine bw_call (Lc := [wMod ct a0 o0]) (Lc' := [wMod ct a0 o_42]) (L' := [wMod ct a0 o_42]) [0] (va_runV (As := []) (rest := []) ⟨hx, hb, hml, hown, hts⟩ (c_Mod_pop l ct dC dI a0 _ o0 o_42 hG41) (cwV 0 hts g_Mod_108 rfl rfl rfl (by decide +kernel) ⟨Nat.le_of_ble_eq_true rfl, Nat.le_of_ble_eq_true rfl⟩) ⟨bw_blind nx_call, va_recv hK (hP 0 _ rfl) (ci := 6) (q0 := 0) rfl rfl, fun U hU hW => ⟨rfl, by rw [hU], by rw [hU]; exact hP.sub [0] rfl, va_K.moved hW.alike hK, (hN.sub [0] (by decide) rfl).weaken (fun _ _ => trivial), nx_warm hW hnx⟩⟩ rfl rfl hl.1 rfl (Nat.le_of_ble_eq_true rfl) d_Mod_readExpression_157 ⟨Nat.le_of_ble_eq_true rfl, Nat.le_of_ble_eq_true rfl⟩) hP hN hS hA rfl rfl rfl (fun H locs hP hS => ?_)
      refine lv_goto (tgt := 145) hx hb d_Mod_readExpression_160 (by decide) ?_
      exact ih x1 x2 x3 o_42 _ _ _ hP hS (lv_sub hl [0, 1, 2, 3] rfl) h
set_option maxHeartbeats 4000000 in
set_option maxRecDepth 100000 in
theorem k_Mod_readExpression_11 {p : Program} {l : Launch} {e : Env} {s : State} {m : MethodId} {args : Array Value} {below : List Frame} {meth : Method} {c : Code} {A : Nat → Prop} {ct dC : Nat → ClassId} {dI : Nat → Nat → Nat} {a0 : Nat → Nat}  {n0 : Ob}   (C0 : cx wsAll vwCl nx p s m args meth c (dC, dI) (tyA ct) b_Mod_readExpression 5 (none : Option Jvm.ClassFile.FieldType) R_Mod A [adMod a0])  : ∀ (n : Nat) (x1 : Int32) (x2 : Int32) (x3 : Int32) (o0 : Ob) (H : Heap) (locs : List Loc) (ls : Array Slot), bw_P (dC, dI) vwCl [wMod ct a0 o0] H → va_S A s.heap H locs → lv_has ls 5 [(0, .ref (a0 0)), (1, .int x1), (2, .int x2), (3, .int x3)] → F_Mod_readExpression_11 n x1 x2 x3 o0 = some n0 → W p l e (headSpec ws_Mod_readExpression rm_Mod_readExpression).room s m args below meth c H locs 0 0 (MQ below (bw_Q (dC, dI) vwCl none [wMod ct a0 n0] A) args s 0 0 A) (F0 m 11 ls []) := by
  obtain ⟨hx, hb, hr, hml, hown, hlocks, hts, hK, hN, hA, hnx⟩ := id C0
  intro n
  induction n with
  | zero =>
    intro x1 x2 x3 o0 H locs ls hP hS hl h
    cases h
  | succ n ih =>
    intro x1 x2 x3 o0 H locs ls hP hS hl h
    rw [F_Mod_readExpression_11] at h
    refine lv_iload_n hx hb d_Mod_readExpression_11 rfl (lv_at hl 2 rfl) ?_
    refine lv_if_eq (tgt := 213) hx hb d_Mod_readExpression_12 (by decide) (fun c1 => ?_) (fun c1 => ?_)
    · have h := ite_t c1 h
      exact k_Mod_readExpression_213 C0 fuel o0 _ _ _ hP hS (lv_sub hl [0] rfl) h
    · have h := ite_f c1 h
      refine lv_aload_n hx hb d_Mod_readExpression_15 rfl (lv_at hl 0 rfl) ?_
      refine va_get (D := (dC, dI)) (ci := 6) (v := .int (g32 o0 4 0)) (C := R_Mod) (T := T_Mod) (N := 36) hx hb hts in_Mod hown hK (hP 0 _ rfl) 0 rfl rfl 4 (by decide) (hts _ fl_Mod_94) (fun _ h9 => h9) rfl d_Mod_readExpression_16 ?_
      refine lv_if_ge (tgt := 213) hx hb d_Mod_readExpression_19 (by decide) (fun c2 => ?_) (fun c2 => ?_)
      · have h := ite_t c2 h
        exact k_Mod_readExpression_213 C0 fuel o0 _ _ _ hP hS (lv_sub hl [0] rfl) h
      · have h := ite_f c2 h
        refine lv_aload_n hx hb d_Mod_readExpression_22 rfl (lv_at hl 0 rfl) ?_
        obtain ⟨v4, hG3, h⟩ := bind1_some h
        refine bw_callR (va_runV (As := []) (rest := []) ⟨hx, hb, hml, hown, hts⟩ (c_Mod_here l ct dC dI a0 _ o0 v4 hG3) (cwV 0 hts g_Mod_111 rfl rfl rfl (by decide +kernel) ⟨Nat.le_of_ble_eq_true rfl, Nat.le_of_ble_eq_true rfl⟩) ⟨bw_blind nx_call, va_recv hK (hP 0 _ rfl) (ci := 6) (q0 := 0) rfl rfl, fun U hU hW => ⟨rfl, by rw [hU], by rw [hU]; exact hP.sub [0] rfl, va_K.moved hW.alike hK, (hN.sub [0] (by decide) rfl).weaken (fun _ _ => trivial), nx_warm hW hnx⟩⟩ rfl rfl hl.1 rfl (Nat.le_of_ble_eq_true rfl) d_Mod_readExpression_23 ⟨Nat.le_of_ble_eq_true rfl, Nat.le_of_ble_eq_true rfl⟩) ?_
        refine lv_istore (lv' := [(4, .int v4), (0, .ref (a0 0)), (1, .int x1), (2, .int x2), (3, .int x3)]) hx hb d_Mod_readExpression_26 hl (by decide) rfl (fun ls hl => ?_)
        refine lv_iload_n hx hb d_Mod_readExpression_28 rfl (lv_at hl 2 rfl) ?_
        refine lv_if_ne (tgt := 58) hx hb d_Mod_readExpression_29 (by decide) (fun c5 => ?_) (fun c5 => ?_)
        · have h := ite_f c5 h
          refine lv_iload hx hb d_Mod_readExpression_58 (lv_at hl 0 rfl) ?_
          refine lv_bipush (v := 43) hx hb d_Mod_readExpression_60 (by decide) ?_
          refine lv_icmp_eq (tgt := 72) hx hb d_Mod_readExpression_62 (by decide) (fun c6 => ?_) (fun c6 => ?_)
          · have h := ite_t c6 h
            exact k_Mod_readExpression_72 C0 ih x2 x3 v4 o0 _ _ _ hP hS (lv_sub hl [1, 3, 4, 0] rfl) h
          · have h := ite_f c6 h
            refine lv_iload hx hb d_Mod_readExpression_65 (lv_at hl 0 rfl) ?_
            refine lv_bipush (v := 45) hx hb d_Mod_readExpression_67 (by decide) ?_
            refine lv_icmp_ne (tgt := 95) hx hb d_Mod_readExpression_69 (by decide) (fun c7 => ?_) (fun c7 => ?_)
            · have h := ite_f c7 h
              refine lv_iload hx hb d_Mod_readExpression_95 (lv_at hl 0 rfl) ?_
              refine lv_bipush (v := 42) hx hb d_Mod_readExpression_97 (by decide) ?_
              refine lv_icmp_eq (tgt := 109) hx hb d_Mod_readExpression_99 (by decide) (fun c8 => ?_) (fun c8 => ?_)
              · have h := ite_t c8 h
                exact k_Mod_readExpression_109 C0 ih x2 x3 v4 o0 _ _ _ hP hS (lv_sub hl [1, 3, 4, 0] rfl) h
              · have h := ite_f c8 h
                refine lv_iload hx hb d_Mod_readExpression_102 (lv_at hl 0 rfl) ?_
                refine lv_bipush (v := 47) hx hb d_Mod_readExpression_104 (by decide) ?_
                refine lv_icmp_ne (tgt := 134) hx hb d_Mod_readExpression_106 (by decide) (fun c9 => ?_) (fun c9 => ?_)
                · have h := ite_f c9 h
                  refine lv_iload hx hb d_Mod_readExpression_134 (lv_at hl 0 rfl) ?_
                  refine lv_bipush (v := 41) hx hb d_Mod_readExpression_136 (by decide) ?_
                  refine lv_icmp_ne (tgt := 193) hx hb d_Mod_readExpression_138 (by decide) (fun c10 => ?_) (fun c10 => ?_)
                  · have h := ite_f c10 h
                    refine lv_iload_n hx hb d_Mod_readExpression_193 rfl (lv_at hl 4 rfl) ?_
                    refine lv_if_le (tgt := 208) hx hb d_Mod_readExpression_194 (by decide) (fun c11 => ?_) (fun c11 => ?_)
                    · have h := ite_t c11 h
                      refine lv_iconst (v := 0) hx hb d_Mod_readExpression_208 (by decide) ?_
                      refine lv_istore_n (lv' := [(2, .int (0 : Int32)), (4, .int v4), (0, .ref (a0 0)), (1, .int x1), (3, .int x3)]) hx hb d_Mod_readExpression_209 rfl hl (by decide) rfl (fun ls hl => ?_)
                      refine lv_goto (tgt := 11) hx hb d_Mod_readExpression_210 (by decide) ?_
                      exact ih x1 (0 : Int32) x3 o0 _ _ _ hP hS (lv_sub hl [2, 3, 0, 4] rfl) h
                    · have h := ite_f c11 h
                      refine lv_aload_n hx hb d_Mod_readExpression_197 rfl (lv_at hl 1 rfl) ?_
                      refine lv_aload_n hx hb d_Mod_readExpression_198 rfl (lv_at hl 1 rfl) ?_
                      refine va_get (D := (dC, dI)) (ci := 6) (v := .int (g32 o0 3 0)) (C := R_Mod) (T := T_Mod) (N := 36) hx hb hts in_Mod hown hK (hP 0 _ rfl) 0 rfl rfl 3 (by decide) (hts _ fl_Mod_91) (fun _ h9 => h9) rfl d_Mod_readExpression_199 ?_
                      obtain ⟨o_13, hG12, h⟩ := bind1_some h
                      refine bw_call (Lc := [wMod ct a0 o0]) (Lc' := [wMod ct a0 o_13]) (L' := [wMod ct a0 o_13]) [0] (va_runV (As := [.int (g32 o0 3 0)]) (rest := []) ⟨hx, hb, hml, hown, hts⟩ (c_Mod_failAt l ct dC dI a0 _ (g32 o0 3 0) o0 o_13 hG12) (cwV 1 hts g_Mod_119 rfl rfl rfl (by decide +kernel) ⟨Nat.le_of_ble_eq_true rfl, Nat.le_of_ble_eq_true rfl⟩) ⟨bw_blind nx_call, va_recv hK (hP 0 _ rfl) (ci := 6) (q0 := 0) rfl rfl, fun U hU hW => ⟨rfl, by rw [hU], by rw [hU]; exact hP.sub [0] rfl, va_K.moved hW.alike hK, (hN.sub [0] (by decide) rfl).weaken (fun _ _ => trivial), nx_warm hW hnx⟩⟩ rfl rfl hl.1 rfl (Nat.le_of_ble_eq_true rfl) d_Mod_readExpression_202 ⟨Nat.le_of_ble_eq_true rfl, Nat.le_of_ble_eq_true rfl⟩) hP hN hS hA rfl rfl rfl (fun H locs hP hS => ?_)
                      refine lv_goto (tgt := 210) hx hb d_Mod_readExpression_205 (by decide) ?_
                      refine lv_goto (tgt := 11) hx hb d_Mod_readExpression_210 (by decide) ?_
                      exact ih x1 x2 x3 o_13 _ _ _ hP hS (lv_sub hl [1, 2, 3, 4] rfl) h
                  · have h := ite_t c10 h
                    refine lv_iload_n hx hb d_Mod_readExpression_141 rfl (lv_at hl 4 rfl) ?_
                    refine lv_if_le (tgt := 193) hx hb d_Mod_readExpression_142 (by decide) (fun c14 => ?_) (fun c14 => ?_)
                    · have h := ite_t c14 h
                      refine lv_iload_n hx hb d_Mod_readExpression_193 rfl (lv_at hl 4 rfl) ?_
                      refine lv_if_le (tgt := 208) hx hb d_Mod_readExpression_194 (by decide) (fun c15 => ?_) (fun c15 => ?_)
                      · have h := ite_t c15 h
                        refine lv_iconst (v := 0) hx hb d_Mod_readExpression_208 (by decide) ?_
                        refine lv_istore_n (lv' := [(2, .int (0 : Int32)), (4, .int v4), (0, .ref (a0 0)), (1, .int x1), (3, .int x3)]) hx hb d_Mod_readExpression_209 rfl hl (by decide) rfl (fun ls hl => ?_)
                        refine lv_goto (tgt := 11) hx hb d_Mod_readExpression_210 (by decide) ?_
                        exact ih x1 (0 : Int32) x3 o0 _ _ _ hP hS (lv_sub hl [2, 3, 0, 4] rfl) h
                      · have h := ite_f c15 h
                        refine lv_aload_n hx hb d_Mod_readExpression_197 rfl (lv_at hl 1 rfl) ?_
                        refine lv_aload_n hx hb d_Mod_readExpression_198 rfl (lv_at hl 1 rfl) ?_
                        refine va_get (D := (dC, dI)) (ci := 6) (v := .int (g32 o0 3 0)) (C := R_Mod) (T := T_Mod) (N := 36) hx hb hts in_Mod hown hK (hP 0 _ rfl) 0 rfl rfl 3 (by decide) (hts _ fl_Mod_91) (fun _ h9 => h9) rfl d_Mod_readExpression_199 ?_
                        obtain ⟨o_17, hG16, h⟩ := bind1_some h
                        refine bw_call (Lc := [wMod ct a0 o0]) (Lc' := [wMod ct a0 o_17]) (L' := [wMod ct a0 o_17]) [0] (va_runV (As := [.int (g32 o0 3 0)]) (rest := []) ⟨hx, hb, hml, hown, hts⟩ (c_Mod_failAt l ct dC dI a0 _ (g32 o0 3 0) o0 o_17 hG16) (cwV 1 hts g_Mod_119 rfl rfl rfl (by decide +kernel) ⟨Nat.le_of_ble_eq_true rfl, Nat.le_of_ble_eq_true rfl⟩) ⟨bw_blind nx_call, va_recv hK (hP 0 _ rfl) (ci := 6) (q0 := 0) rfl rfl, fun U hU hW => ⟨rfl, by rw [hU], by rw [hU]; exact hP.sub [0] rfl, va_K.moved hW.alike hK, (hN.sub [0] (by decide) rfl).weaken (fun _ _ => trivial), nx_warm hW hnx⟩⟩ rfl rfl hl.1 rfl (Nat.le_of_ble_eq_true rfl) d_Mod_readExpression_202 ⟨Nat.le_of_ble_eq_true rfl, Nat.le_of_ble_eq_true rfl⟩) hP hN hS hA rfl rfl rfl (fun H locs hP hS => ?_)
                        refine lv_goto (tgt := 210) hx hb d_Mod_readExpression_205 (by decide) ?_
                        refine lv_goto (tgt := 11) hx hb d_Mod_readExpression_210 (by decide) ?_
                        exact ih x1 x2 x3 o_17 _ _ _ hP hS (lv_sub hl [1, 2, 3, 4] rfl) h
                    · have h := ite_f c14 h
                      exact k_Mod_readExpression_145 C0 ih fuel x1 x2 x3 o0 _ _ _ hP hS (lv_sub hl [1, 2, 3, 4] rfl) h
                · have h := ite_t c9 h
                  exact k_Mod_readExpression_109 C0 ih x2 x3 v4 o0 _ _ _ hP hS (lv_sub hl [1, 3, 4, 0] rfl) h
            · have h := ite_t c7 h
              exact k_Mod_readExpression_72 C0 ih x2 x3 v4 o0 _ _ _ hP hS (lv_sub hl [1, 3, 4, 0] rfl) h
        · have h := ite_t c5 h
          refine lv_aload_n hx hb d_Mod_readExpression_32 rfl (lv_at hl 1 rfl) ?_
          refine lv_iload hx hb d_Mod_readExpression_33 (lv_at hl 0 rfl) ?_
          refine lv_iload_n hx hb d_Mod_readExpression_35 rfl (lv_at hl 4 rfl) ?_
          obtain ⟨v19, o_20, hG18, h⟩ := bind2_some h
          refine bw_call (Lc := [wMod ct a0 o0]) (Lc' := [wMod ct a0 o_20]) (L' := [wMod ct a0 o_20]) [0] (va_runV (As := [.int v4, .int x3]) (rest := []) ⟨hx, hb, hml, hown, hts⟩ (c_Mod_readFactor l ct dC dI a0 _ v4 x3 o0 v19 o_20 hG18) (cwV 2 hts g_Mod_142 rfl rfl rfl (by decide +kernel) ⟨Nat.le_of_ble_eq_true rfl, Nat.le_of_ble_eq_true rfl⟩) ⟨bw_blind nx_call, va_recv hK (hP 0 _ rfl) (ci := 6) (q0 := 0) rfl rfl, fun U hU hW => ⟨rfl, by rw [hU], by rw [hU]; exact hP.sub [0] rfl, va_K.moved hW.alike hK, (hN.sub [0] (by decide) rfl).weaken (fun _ _ => trivial), nx_warm hW hnx⟩⟩ rfl rfl hl.1 rfl (Nat.le_of_ble_eq_true rfl) d_Mod_readExpression_36 ⟨Nat.le_of_ble_eq_true rfl, Nat.le_of_ble_eq_true rfl⟩) hP hN hS hA rfl rfl rfl (fun H locs hP hS => ?_)
          refine lv_istore_n (lv' := [(1, .int (b2i v19)), (4, .int v4), (0, .ref (a0 0)), (2, .int x2), (3, .int x3)]) hx hb d_Mod_readExpression_39 rfl hl (by decide) rfl (fun ls hl => ?_)
          refine lv_iload hx hb d_Mod_readExpression_40 (lv_at hl 1 rfl) ?_
          refine lv_bipush (v := 40) hx hb d_Mod_readExpression_42 (by decide) ?_
          refine lv_icmp_ne (tgt := 53) hx hb d_Mod_readExpression_44 (by decide) (fun c21 => ?_) (fun c21 => ?_)
          · have h := ite_f c21 h
            refine lv_iload_n hx hb d_Mod_readExpression_53 rfl (lv_at hl 4 rfl) ?_
            refine lv_istore_n (lv' := [(3, .int x3), (1, .int (b2i v19)), (4, .int v4), (0, .ref (a0 0)), (2, .int x2)]) hx hb d_Mod_readExpression_54 rfl hl (by decide) rfl (fun ls hl => ?_)
            refine lv_goto (tgt := 210) hx hb d_Mod_readExpression_55 (by decide) ?_
            refine lv_goto (tgt := 11) hx hb d_Mod_readExpression_210 (by decide) ?_
            exact ih (b2i v19) x2 x3 o_20 _ _ _ hP hS (lv_sub hl [3, 1, 4, 0] rfl) h
          · have h := ite_t c21 h
            refine lv_iload_n hx hb d_Mod_readExpression_47 rfl (lv_at hl 4 rfl) ?_
            refine lv_iconst (v := 1) hx hb d_Mod_readExpression_48 (by decide) ?_
            refine lv_iadd hx hb d_Mod_readExpression_49 ?_
            refine lv_goto (tgt := 54) hx hb d_Mod_readExpression_50 (by decide) ?_
            refine lv_istore_n (lv' := [(3, .int (x3 + (1 : Int32))), (1, .int (b2i v19)), (4, .int v4), (0, .ref (a0 0)), (2, .int x2)]) hx hb d_Mod_readExpression_54 rfl hl (by decide) rfl (fun ls hl => ?_)
            refine lv_goto (tgt := 210) hx hb d_Mod_readExpression_55 (by decide) ?_
            refine lv_goto (tgt := 11) hx hb d_Mod_readExpression_210 (by decide) ?_
            exact ih (b2i v19) x2 (x3 + (1 : Int32)) o_20 _ _ _ hP hS (lv_sub hl [3, 1, 4, 0] rfl) h
set_option maxHeartbeats 4000000 in
set_option maxRecDepth 100000 in
theorem c_Mod_readExpression (l : Launch) (ct dC : Nat → ClassId) (dI : Nat → Nat → Nat) (a0 : Nat → Nat)  (sz : Nat)  (o0 : Ob) (n0 : Ob) (hF : F_Mod_readExpression o0 = some n0) : Met l y_Mod_readExpression ws_Mod_readExpression rm_Mod_readExpression (bw_Pc [.ref (a0 0)] (dC, dI) vwCl (tyA ct) [wMod ct a0 o0] sz nx) (bw_Q (dC, dI) vwCl none [wMod ct a0 n0] (bw_A [adMod a0] sz)) 0 0 (bw_A [adMod a0] sz) := by
  refine Met.ofW (cc := b_Mod_readExpression) (maxL := 5) (ret := (none : Option Jvm.ClassFile.FieldType)) (by decide) rfl ?_
  intro p e s m args below meth c s₁ B hml hv
  obtain ⟨rfl, hsz, hP, hK, hN0, hnx⟩ := hv
  have hx := B.exec
  have hb := B.bytes
  have hr := B.returns
  have hts : ∀ w ∈ wsAll, w.before [.ref (a0 0)].toArray s = true := fun w h9 => atoms_spec (ws := ws_Mod_readExpression) B.pre w (List.mem_cons_of_mem _ h9)
  have hown : s.vm.findClass R_Mod = some m.cls := findClass_of_methodNamed B.named
  have hlocks := B.notSynchronized
  subst hsz
  have hN : bw_N (bw_A [adMod a0] s.heap.size) [adMod a0] := hN0.self s.heap.size
  generalize hAe : bw_A [adMod a0] s.heap.size = A at hN ⊢
  have hA : ∀ q : Nat, s.heap.size ≤ q → A q := fun q h => by rw [← hAe]; exact Or.inr h
  have hS : va_S A s.heap s.heap [] := va_S.rf
  have hl := lv_entry ([.ref (a0 0)]) (n := 5) (Nat.le_of_ble_eq_true rfl)
  rw [lg_entry_eq]
  generalize (lg_sl ([.ref (a0 0)]) ++ List.replicate (5 - (lg_sl ([.ref (a0 0)])).length) Slot.unset).toArray = ls at hl ⊢
  have hl : lv_has ls 5 [(0, .ref (a0 0))] := hl
  have C0 : cx wsAll vwCl nx p s m [.ref (a0 0)].toArray meth c (dC, dI) (tyA ct) b_Mod_readExpression 5 (none : Option Jvm.ClassFile.FieldType) R_Mod A [adMod a0] := ⟨hx, hb, hr, hml, hown, hlocks, hts, hK, hN, hA, hnx⟩
  have h := hF
  rw [F_Mod_readExpression] at h
  refine lv_iconst (v := 0) hx hb d_Mod_readExpression_0 (by decide) ?_
  refine lv_istore_n (lv' := [(1, .int (0 : Int32)), (0, .ref (a0 0))]) hx hb d_Mod_readExpression_1 rfl hl (by decide) rfl (fun ls hl => ?_)
  refine lv_iconst (v := 1) hx hb d_Mod_readExpression_2 (by decide) ?_
  refine lv_istore_n (lv' := [(2, .int (1 : Int32)), (1, .int (0 : Int32)), (0, .ref (a0 0))]) hx hb d_Mod_readExpression_3 rfl hl (by decide) rfl (fun ls hl => ?_)
  refine lv_iconst (v := 0) hx hb d_Mod_readExpression_4 (by decide) ?_
  refine lv_istore_n (lv' := [(3, .int (0 : Int32)), (2, .int (1 : Int32)), (1, .int (0 : Int32)), (0, .ref (a0 0))]) hx hb d_Mod_readExpression_5 rfl hl (by decide) rfl (fun ls hl => ?_)
  refine lv_aload_n hx hb d_Mod_readExpression_6 rfl (lv_at hl 3 rfl) ?_
  refine lv_iconst (v := 0) hx hb d_Mod_readExpression_7 (by decide) ?_
  refine pt_Mod_14 hx hb hts hown hK hP hN hS 0 rfl (hts _ fl_Mod_97) d_Mod_readExpression_8 (fun H locs hP hS => ?_)
  have hP : bw_P (dC, dI) vwCl [wMod ct a0 (s32 o0 14 0 (0 : Int32))] H := hP
  exact k_Mod_readExpression_11 C0 fuel (0 : Int32) (1 : Int32) (0 : Int32) (s32 o0 14 0 (0 : Int32)) _ _ _ hP hS (lv_sub hl [3, 2, 1, 0] rfl) h
def F_Mod_isCompare (x0 : Int32)  : Option (Bool) :=
  if x0 = (60 : Int32) then (some true) else (if x0 = (62 : Int32) then (some true) else (if x0 = (61 : Int32) then (some true) else (some false)))
abbrev ws_Mod_isCompare : List Cond := Cond.code y_Mod_isCompare b_Mod_isCompare 1 (some .boolean) :: wsAll
abbrev rm_Mod_isCompare : Room := { frames := 0, cells := 0, slots := 0, locals := 0 }
set_option maxHeartbeats 4000000 in
set_option maxRecDepth 100000 in
theorem c_Mod_isCompare (l : Launch) (ct dC : Nat → ClassId) (dI : Nat → Nat → Nat)   (sz : Nat) (x0 : Int32)  (r : Bool) (hF : F_Mod_isCompare x0 = some r) : Met l y_Mod_isCompare ws_Mod_isCompare rm_Mod_isCompare (bw_Pc [.int x0] (dC, dI) vwCl (tyA ct) [] sz nx) (bw_QR (some (.int (b2i r)))) 0 0 (fun _ => False) := by
  refine Met.ofW (cc := b_Mod_isCompare) (maxL := 1) (ret := (some .boolean)) (by decide) rfl ?_
  intro p e s m args below meth c s₁ B hml hv
  obtain ⟨rfl, hsz, hP, hK, hN0, hnx⟩ := hv
  have hx := B.exec
  have hb := B.bytes
  have hr := B.returns
  have hts : ∀ w ∈ wsAll, w.before [.int x0].toArray s = true := fun w h9 => atoms_spec (ws := ws_Mod_isCompare) B.pre w (List.mem_cons_of_mem _ h9)
  have hown : s.vm.findClass R_Mod = some m.cls := findClass_of_methodNamed B.named
  have hlocks := B.notSynchronized
  subst hsz
  have hN : bw_N (fun _ => True) [] := hN0
  generalize hAe : (fun _ : Nat => True) = A at hN
  have hA : ∀ q : Nat, s.heap.size ≤ q → A q := fun q _ => by rw [← hAe]; trivial
  have hS : s.heap = s.heap ∧ ([] : List Loc) = [] := ⟨rfl, rfl⟩
  have hl := lv_entry ([.int x0]) (n := 1) (Nat.le_of_ble_eq_true rfl)
  rw [lg_entry_eq]
  generalize (lg_sl ([.int x0]) ++ List.replicate (1 - (lg_sl ([.int x0])).length) Slot.unset).toArray = ls at hl ⊢
  have hl : lv_has ls 1 [(0, .int x0)] := hl
  have C0 : cx wsAll vwCl nx p s m [.int x0].toArray meth c (dC, dI) (tyA ct) b_Mod_isCompare 1 (some .boolean) R_Mod A [] := ⟨hx, hb, hr, hml, hown, hlocks, hts, hK, hN, hA, hnx⟩
  have h := hF
  rw [F_Mod_isCompare] at h
  refine lv_iload_n hx hb d_Mod_isCompare_0 rfl (lv_at hl 0 rfl) ?_
  refine lv_bipush (v := 60) hx hb d_Mod_isCompare_1 (by decide) ?_
  refine lv_icmp_eq (tgt := 18) hx hb d_Mod_isCompare_3 (by decide) (fun c1 => ?_) (fun c1 => ?_)
  · have h := ite_t c1 h
    refine lv_iconst (v := 1) hx hb d_Mod_isCompare_18 (by decide) ?_
    refine lv_goto (tgt := 23) hx hb d_Mod_isCompare_19 (by decide) ?_
    obtain rfl := res1 h
    exact W.zret hx hb hr rfl (fun t ht hW => ⟨rfl, ht.trans hS.1⟩) (bw_nil hS.2) d_Mod_isCompare_23
  · have h := ite_f c1 h
    refine lv_iload_n hx hb d_Mod_isCompare_6 rfl (lv_at hl 0 rfl) ?_
    refine lv_bipush (v := 62) hx hb d_Mod_isCompare_7 (by decide) ?_
    refine lv_icmp_eq (tgt := 18) hx hb d_Mod_isCompare_9 (by decide) (fun c2 => ?_) (fun c2 => ?_)
    · have h := ite_t c2 h
      refine lv_iconst (v := 1) hx hb d_Mod_isCompare_18 (by decide) ?_
      refine lv_goto (tgt := 23) hx hb d_Mod_isCompare_19 (by decide) ?_
      obtain rfl := res1 h
      exact W.zret hx hb hr rfl (fun t ht hW => ⟨rfl, ht.trans hS.1⟩) (bw_nil hS.2) d_Mod_isCompare_23
    · have h := ite_f c2 h
      refine lv_iload_n hx hb d_Mod_isCompare_12 rfl (lv_at hl 0 rfl) ?_
      refine lv_bipush (v := 61) hx hb d_Mod_isCompare_13 (by decide) ?_
      refine lv_icmp_ne (tgt := 22) hx hb d_Mod_isCompare_15 (by decide) (fun c3 => ?_) (fun c3 => ?_)
      · have h := ite_f c3 h
        refine lv_iconst (v := 0) hx hb d_Mod_isCompare_22 (by decide) ?_
        obtain rfl := res1 h
        exact W.zret hx hb hr rfl (fun t ht hW => ⟨rfl, ht.trans hS.1⟩) (bw_nil hS.2) d_Mod_isCompare_23
      · have h := ite_t c3 h
        refine lv_iconst (v := 1) hx hb d_Mod_isCompare_18 (by decide) ?_
        refine lv_goto (tgt := 23) hx hb d_Mod_isCompare_19 (by decide) ?_
        obtain rfl := res1 h
        exact W.zret hx hb hr rfl (fun t ht hW => ⟨rfl, ht.trans hS.1⟩) (bw_nil hS.2) d_Mod_isCompare_23
def F_Mod_readMark (x1 : Int32) (o0 : Ob) : Option (Ob) :=
  if 0 ≤ (g32 o0 4 0) then (some (s32 o0 3 0 ((g32 o0 3 0) + (1 : Int32)))) else (bind1 (F_Mod_here o0) (fun v3 => if v3 = x1 then (some (s32 o0 3 0 ((g32 o0 3 0) + (1 : Int32)))) else (bind1 (F_Mod_failAt (g32 o0 3 0) o0) (fun o_6 => some (s32 o_6 3 0 ((g32 o_6 3 0) + (1 : Int32)))))))
abbrev ws_Mod_readMark : List Cond := Cond.code y_Mod_readMark b_Mod_readMark 2 (none : Option Jvm.ClassFile.FieldType) :: wsAll
abbrev rm_Mod_readMark : Room := { frames := 1, cells := 0, slots := 0, locals := 21 }
set_option maxHeartbeats 4000000 in
set_option maxRecDepth 100000 in
theorem c_Mod_readMark (l : Launch) (ct dC : Nat → ClassId) (dI : Nat → Nat → Nat) (a0 : Nat → Nat)  (sz : Nat) (x1 : Int32) (o0 : Ob) (n0 : Ob) (hF : F_Mod_readMark x1 o0 = some n0) : Met l y_Mod_readMark ws_Mod_readMark rm_Mod_readMark (bw_Pc [.ref (a0 0), .int x1] (dC, dI) vwCl (tyA ct) [wMod ct a0 o0] sz nx) (bw_Q (dC, dI) vwCl none [wMod ct a0 n0] (bw_A [adMod a0] sz)) 0 0 (bw_A [adMod a0] sz) := by
  refine Met.ofW (cc := b_Mod_readMark) (maxL := 2) (ret := (none : Option Jvm.ClassFile.FieldType)) (by decide) rfl ?_
  intro p e s m args below meth c s₁ B hml hv
  obtain ⟨rfl, hsz, hP, hK, hN0, hnx⟩ := hv
  have hx := B.exec
  have hb := B.bytes
  have hr := B.returns
  have hts : ∀ w ∈ wsAll, w.before [.ref (a0 0), .int x1].toArray s = true := fun w h9 => atoms_spec (ws := ws_Mod_readMark) B.pre w (List.mem_cons_of_mem _ h9)
  have hown : s.vm.findClass R_Mod = some m.cls := findClass_of_methodNamed B.named
  have hlocks := B.notSynchronized
  subst hsz
  have hN : bw_N (bw_A [adMod a0] s.heap.size) [adMod a0] := hN0.self s.heap.size
  generalize hAe : bw_A [adMod a0] s.heap.size = A at hN ⊢
  have hA : ∀ q : Nat, s.heap.size ≤ q → A q := fun q h => by rw [← hAe]; exact Or.inr h
  have hS : va_S A s.heap s.heap [] := va_S.rf
  have hl := lv_entry ([.ref (a0 0), .int x1]) (n := 2) (Nat.le_of_ble_eq_true rfl)
  rw [lg_entry_eq]
  generalize (lg_sl ([.ref (a0 0), .int x1]) ++ List.replicate (2 - (lg_sl ([.ref (a0 0), .int x1])).length) Slot.unset).toArray = ls at hl ⊢
  have hl : lv_has ls 2 [(0, .ref (a0 0)), (1, .int x1)] := hl
  have C0 : cx wsAll vwCl nx p s m [.ref (a0 0), .int x1].toArray meth c (dC, dI) (tyA ct) b_Mod_readMark 2 (none : Option Jvm.ClassFile.FieldType) R_Mod A [adMod a0] := ⟨hx, hb, hr, hml, hown, hlocks, hts, hK, hN, hA, hnx⟩
  have h := hF
  rw [F_Mod_readMark] at h
  refine lv_aload_n hx hb d_Mod_readMark_0 rfl (lv_at hl 0 rfl) ?_
  refine va_get (D := (dC, dI)) (ci := 6) (v := .int (g32 o0 4 0)) (C := R_Mod) (T := T_Mod) (N := 36) hx hb hts in_Mod hown hK (hP 0 _ rfl) 0 rfl rfl 4 (by decide) (hts _ fl_Mod_94) (fun _ h9 => h9) rfl d_Mod_readMark_1 ?_
  refine lv_if_ge (tgt := 23) hx hb d_Mod_readMark_4 (by decide) (fun c1 => ?_) (fun c1 => ?_)
  · have h := ite_t c1 h
    refine lv_aload_n hx hb d_Mod_readMark_23 rfl (lv_at hl 0 rfl) ?_
    refine lv_dup hx hb d_Mod_readMark_24 rfl ?_
    refine va_get (D := (dC, dI)) (ci := 6) (v := .int (g32 o0 3 0)) (C := R_Mod) (T := T_Mod) (N := 36) hx hb hts in_Mod hown hK (hP 0 _ rfl) 0 rfl rfl 3 (by decide) (hts _ fl_Mod_91) (fun _ h9 => h9) rfl d_Mod_readMark_25 ?_
    refine lv_iconst (v := 1) hx hb d_Mod_readMark_28 (by decide) ?_
    refine lv_iadd hx hb d_Mod_readMark_29 ?_
    refine pt_Mod_3 hx hb hts hown hK hP hN hS 0 rfl (hts _ fl_Mod_91) d_Mod_readMark_30 (fun H locs hP hS => ?_)
    have hP : bw_P (dC, dI) vwCl [wMod ct a0 (s32 o0 3 0 ((g32 o0 3 0) + (1 : Int32)))] H := hP
    obtain rfl := res1 h
    exact W.vret hx hb hr (fun t ht hW => ⟨rfl, by rw [ht]; exact hP, hS.F ht⟩) hS.2.2 d_Mod_readMark_33
  · have h := ite_f c1 h
    refine lv_aload_n hx hb d_Mod_readMark_7 rfl (lv_at hl 0 rfl) ?_
    obtain ⟨v3, hG2, h⟩ := bind1_some h
    refine bw_callR (va_runV (As := []) (rest := []) ⟨hx, hb, hml, hown, hts⟩ (c_Mod_here l ct dC dI a0 _ o0 v3 hG2) (cwV 0 hts g_Mod_111 rfl rfl rfl (by decide +kernel) ⟨Nat.le_of_ble_eq_true rfl, Nat.le_of_ble_eq_true rfl⟩) ⟨bw_blind nx_call, va_recv hK (hP 0 _ rfl) (ci := 6) (q0 := 0) rfl rfl, fun U hU hW => ⟨rfl, by rw [hU], by rw [hU]; exact hP.sub [0] rfl, va_K.moved hW.alike hK, (hN.sub [0] (by decide) rfl).weaken (fun _ _ => trivial), nx_warm hW hnx⟩⟩ rfl rfl hl.1 rfl (Nat.le_of_ble_eq_true rfl) d_Mod_readMark_8 ⟨Nat.le_of_ble_eq_true rfl, Nat.le_of_ble_eq_true rfl⟩) ?_
    refine lv_iload_n hx hb d_Mod_readMark_11 rfl (lv_at hl 1 rfl) ?_
    refine lv_icmp_eq (tgt := 23) hx hb d_Mod_readMark_12 (by decide) (fun c4 => ?_) (fun c4 => ?_)
    · have h := ite_t c4 h
      refine lv_aload_n hx hb d_Mod_readMark_23 rfl (lv_at hl 0 rfl) ?_
      refine lv_dup hx hb d_Mod_readMark_24 rfl ?_
      refine va_get (D := (dC, dI)) (ci := 6) (v := .int (g32 o0 3 0)) (C := R_Mod) (T := T_Mod) (N := 36) hx hb hts in_Mod hown hK (hP 0 _ rfl) 0 rfl rfl 3 (by decide) (hts _ fl_Mod_91) (fun _ h9 => h9) rfl d_Mod_readMark_25 ?_
      refine lv_iconst (v := 1) hx hb d_Mod_readMark_28 (by decide) ?_
      refine lv_iadd hx hb d_Mod_readMark_29 ?_
      refine pt_Mod_3 hx hb hts hown hK hP hN hS 0 rfl (hts _ fl_Mod_91) d_Mod_readMark_30 (fun H locs hP hS => ?_)
      have hP : bw_P (dC, dI) vwCl [wMod ct a0 (s32 o0 3 0 ((g32 o0 3 0) + (1 : Int32)))] H := hP
      obtain rfl := res1 h
      exact W.vret hx hb hr (fun t ht hW => ⟨rfl, by rw [ht]; exact hP, hS.F ht⟩) hS.2.2 d_Mod_readMark_33
    · have h := ite_f c4 h
      refine lv_aload_n hx hb d_Mod_readMark_15 rfl (lv_at hl 0 rfl) ?_
      refine lv_aload_n hx hb d_Mod_readMark_16 rfl (lv_at hl 0 rfl) ?_
      refine va_get (D := (dC, dI)) (ci := 6) (v := .int (g32 o0 3 0)) (C := R_Mod) (T := T_Mod) (N := 36) hx hb hts in_Mod hown hK (hP 0 _ rfl) 0 rfl rfl 3 (by decide) (hts _ fl_Mod_91) (fun _ h9 => h9) rfl d_Mod_readMark_17 ?_
      obtain ⟨o_6, hG5, h⟩ := bind1_some h
      refine bw_call (Lc := [wMod ct a0 o0]) (Lc' := [wMod ct a0 o_6]) (L' := [wMod ct a0 o_6]) [0] (va_runV (As := [.int (g32 o0 3 0)]) (rest := []) ⟨hx, hb, hml, hown, hts⟩ (c_Mod_failAt l ct dC dI a0 _ (g32 o0 3 0) o0 o_6 hG5) (cwV 1 hts g_Mod_119 rfl rfl rfl (by decide +kernel) ⟨Nat.le_of_ble_eq_true rfl, Nat.le_of_ble_eq_true rfl⟩) ⟨bw_blind nx_call, va_recv hK (hP 0 _ rfl) (ci := 6) (q0 := 0) rfl rfl, fun U hU hW => ⟨rfl, by rw [hU], by rw [hU]; exact hP.sub [0] rfl, va_K.moved hW.alike hK, (hN.sub [0] (by decide) rfl).weaken (fun _ _ => trivial), nx_warm hW hnx⟩⟩ rfl rfl hl.1 rfl (Nat.le_of_ble_eq_true rfl) d_Mod_readMark_20 ⟨Nat.le_of_ble_eq_true rfl, Nat.le_of_ble_eq_true rfl⟩) hP hN hS hA rfl rfl rfl (fun H locs hP hS => ?_)
      refine lv_aload_n hx hb d_Mod_readMark_23 rfl (lv_at hl 0 rfl) ?_
      refine lv_dup hx hb d_Mod_readMark_24 rfl ?_
      refine va_get (D := (dC, dI)) (ci := 6) (v := .int (g32 o_6 3 0)) (C := R_Mod) (T := T_Mod) (N := 36) hx hb hts in_Mod hown hK (hP 0 _ rfl) 0 rfl rfl 3 (by decide) (hts _ fl_Mod_91) (fun _ h9 => h9) rfl d_Mod_readMark_25 ?_
      refine lv_iconst (v := 1) hx hb d_Mod_readMark_28 (by decide) ?_
      refine lv_iadd hx hb d_Mod_readMark_29 ?_
      refine pt_Mod_3 hx hb hts hown hK hP hN hS 0 rfl (hts _ fl_Mod_91) d_Mod_readMark_30 (fun H locs hP hS => ?_)
      have hP : bw_P (dC, dI) vwCl [wMod ct a0 (s32 o_6 3 0 ((g32 o_6 3 0) + (1 : Int32)))] H := hP
      obtain rfl := res1 h
      exact W.vret hx hb hr (fun t ht hW => ⟨rfl, by rw [ht]; exact hP, hS.F ht⟩) hS.2.2 d_Mod_readMark_33
theorem g_Mod_148 : GoodIn wsAll (wsS R_Mod 148 y_Mod_isCompare ws_Mod_isCompare) := gd_S ml_Mod_148 st_Mod_isCompare ini_Mod cd_Mod_isCompare
theorem g_Mod_151 : GoodIn wsAll (wsV R_Mod 151 R_Mod y_Mod_readExpression ws_Mod_readExpression) := gd_V ml_Mod_151 im_Mod_readExpression se_Mod_readExpression ini_Mod cd_Mod_readExpression
def F_Mod_readCompare_27  (x1 : Int32) (o0 : Ob) : Option (Ob) :=
  if 0 ≤ (g32 o0 4 0) then (some (s32 o0 3 0 ((g32 o0 3 0) + (1 : Int32)))) else (bind1 (F_Mod_readExpression (s32 o0 3 0 ((g32 o0 3 0) + (1 : Int32)))) (fun o_11 => bind1 (F_Mod_emit (9 : Int32) x1 o_11) (fun o_13 => some o_13)))
def F_Mod_readCompare  (o0 : Ob) : Option (Ob) :=
  bind1 (F_Mod_here o0) (fun v2 => if 0 ≤ (g32 o0 4 0) then (F_Mod_readCompare_27 v2 o0) else (bind1 (F_Mod_isCompare v2) (fun v5 => if (b2i v5) = 0 then (bind1 (F_Mod_failAt (g32 o0 3 0) o0) (fun o_8 => F_Mod_readCompare_27 v2 o_8)) else (F_Mod_readCompare_27 v2 o0))))
abbrev ws_Mod_readCompare : List Cond := Cond.code y_Mod_readCompare b_Mod_readCompare 2 (none : Option Jvm.ClassFile.FieldType) :: wsAll
abbrev rm_Mod_readCompare : Room := { frames := 6, cells := 0, slots := 0, locals := 131 }
set_option maxHeartbeats 4000000 in
set_option maxRecDepth 100000 in
theorem k_Mod_readCompare_27 {p : Program} {l : Launch} {e : Env} {s : State} {m : MethodId} {args : Array Value} {below : List Frame} {meth : Method} {c : Code} {A : Nat → Prop} {ct dC : Nat → ClassId} {dI : Nat → Nat → Nat} {a0 : Nat → Nat}  {n0 : Ob}   (C0 : cx wsAll vwCl nx p s m args meth c (dC, dI) (tyA ct) b_Mod_readCompare 2 (none : Option Jvm.ClassFile.FieldType) R_Mod A [adMod a0])  : ∀ (x1 : Int32) (o0 : Ob) (H : Heap) (locs : List Loc) (ls : Array Slot), bw_P (dC, dI) vwCl [wMod ct a0 o0] H → va_S A s.heap H locs → lv_has ls 2 [(0, .ref (a0 0)), (1, .int x1)] → F_Mod_readCompare_27 x1 o0 = some n0 → W p l e (headSpec ws_Mod_readCompare rm_Mod_readCompare).room s m args below meth c H locs 0 0 (MQ below (bw_Q (dC, dI) vwCl none [wMod ct a0 n0] A) args s 0 0 A) (F0 m 27 ls []) := by
  obtain ⟨hx, hb, hr, hml, hown, hlocks, hts, hK, hN, hA, hnx⟩ := id C0
  intro x1 o0 H locs ls hP hS hl h
  rw [F_Mod_readCompare_27] at h
  refine lv_aload_n hx hb d_Mod_readCompare_27 rfl (lv_at hl 0 rfl) ?_
  refine lv_dup hx hb d_Mod_readCompare_28 rfl ?_
  refine va_get (D := (dC, dI)) (ci := 6) (v := .int (g32 o0 3 0)) (C := R_Mod) (T := T_Mod) (N := 36) hx hb hts in_Mod hown hK (hP 0 _ rfl) 0 rfl rfl 3 (by decide) (hts _ fl_Mod_91) (fun _ h9 => h9) rfl d_Mod_readCompare_29 ?_
  refine lv_iconst (v := 1) hx hb d_Mod_readCompare_32 (by decide) ?_
  refine lv_iadd hx hb d_Mod_readCompare_33 ?_
  refine pt_Mod_3 hx hb hts hown hK hP hN hS 0 rfl (hts _ fl_Mod_91) d_Mod_readCompare_34 (fun H locs hP hS => ?_)
  have hP : bw_P (dC, dI) vwCl [wMod ct a0 (s32 o0 3 0 ((g32 o0 3 0) + (1 : Int32)))] H := hP
  refine lv_aload_n hx hb d_Mod_readCompare_37 rfl (lv_at hl 0 rfl) ?_
  refine va_get (D := (dC, dI)) (ci := 6) (v := .int (g32 o0 4 0)) (C := R_Mod) (T := T_Mod) (N := 36) hx hb hts in_Mod hown hK (hP 0 _ rfl) 0 rfl rfl 4 (by decide) (hts _ fl_Mod_94) (fun _ h9 => h9) rfl d_Mod_readCompare_38 ?_
  refine lv_if_ge (tgt := 55) hx hb d_Mod_readCompare_41 (by decide) (fun c9 => ?_) (fun c9 => ?_)
  · have h := ite_t c9 h
    obtain rfl := res1 h
    exact W.vret hx hb hr (fun t ht hW => ⟨rfl, by rw [ht]; exact hP, hS.F ht⟩) hS.2.2 d_Mod_readCompare_55
  · have h := ite_f c9 h
    refine lv_aload_n hx hb d_Mod_readCompare_44 rfl (lv_at hl 0 rfl) ?_
    obtain ⟨o_11, hG10, h⟩ := bind1_some h
    refine bw_call (Lc := [wMod ct a0 (s32 o0 3 0 ((g32 o0 3 0) + (1 : Int32)))]) (Lc' := [wMod ct a0 o_11]) (L' := [wMod ct a0 o_11]) [0] (va_runV (As := []) (rest := []) ⟨hx, hb, hml, hown, hts⟩ (c_Mod_readExpression l ct dC dI a0 _ (s32 o0 3 0 ((g32 o0 3 0) + (1 : Int32))) o_11 hG10) (cwV 0 hts g_Mod_151 rfl rfl rfl (by decide +kernel) ⟨Nat.le_of_ble_eq_true rfl, Nat.le_of_ble_eq_true rfl⟩) ⟨bw_blind nx_call, va_recv hK (hP 0 _ rfl) (ci := 6) (q0 := 0) rfl rfl, fun U hU hW => ⟨rfl, by rw [hU], by rw [hU]; exact hP.sub [0] rfl, va_K.moved hW.alike hK, (hN.sub [0] (by decide) rfl).weaken (fun _ _ => trivial), nx_warm hW hnx⟩⟩ rfl rfl hl.1 rfl (Nat.le_of_ble_eq_true rfl) d_Mod_readCompare_45 ⟨Nat.le_of_ble_eq_true rfl, Nat.le_of_ble_eq_true rfl⟩) hP hN hS hA rfl rfl rfl (fun H locs hP hS => ?_)
    refine lv_aload_n hx hb d_Mod_readCompare_48 rfl (lv_at hl 0 rfl) ?_
    refine lv_bipush (v := 9) hx hb d_Mod_readCompare_49 (by decide) ?_
    refine lv_iload_n hx hb d_Mod_readCompare_51 rfl (lv_at hl 1 rfl) ?_
    obtain ⟨o_13, hG12, h⟩ := bind1_some h
    refine bw_call (Lc := [wMod ct a0 o_11]) (Lc' := [wMod ct a0 o_13]) (L' := [wMod ct a0 o_13]) [0] (va_runV (As := [.int (9 : Int32), .int x1]) (rest := []) ⟨hx, hb, hml, hown, hts⟩ (c_Mod_emit l ct dC dI a0 _ (9 : Int32) x1 o_11 o_13 hG12) (cwV 2 hts g_Mod_100 rfl rfl rfl (by decide +kernel) ⟨Nat.le_of_ble_eq_true rfl, Nat.le_of_ble_eq_true rfl⟩) ⟨bw_blind nx_call, va_recv hK (hP 0 _ rfl) (ci := 6) (q0 := 0) rfl rfl, fun U hU hW => ⟨rfl, by rw [hU], by rw [hU]; exact hP.sub [0] rfl, va_K.moved hW.alike hK, (hN.sub [0] (by decide) rfl).weaken (fun _ _ => trivial), nx_warm hW hnx⟩⟩ rfl rfl hl.1 rfl (Nat.le_of_ble_eq_true rfl) d_Mod_readCompare_52 ⟨Nat.le_of_ble_eq_true rfl, Nat.le_of_ble_eq_true rfl⟩) hP hN hS hA rfl rfl rfl (fun H locs hP hS => ?_)
    obtain rfl := res1 h
    exact W.vret hx hb hr (fun t ht hW => ⟨rfl, by rw [ht]; exact hP, hS.F ht⟩) hS.2.2 d_Mod_readCompare_55
set_option maxHeartbeats 4000000 in
set_option maxRecDepth 100000 in
theorem c_Mod_readCompare (l : Launch) (ct dC : Nat → ClassId) (dI : Nat → Nat → Nat) (a0 : Nat → Nat)  (sz : Nat)  (o0 : Ob) (n0 : Ob) (hF : F_Mod_readCompare o0 = some n0) : Met l y_Mod_readCompare ws_Mod_readCompare rm_Mod_readCompare (bw_Pc [.ref (a0 0)] (dC, dI) vwCl (tyA ct) [wMod ct a0 o0] sz nx) (bw_Q (dC, dI) vwCl none [wMod ct a0 n0] (bw_A [adMod a0] sz)) 0 0 (bw_A [adMod a0] sz) := by
  refine Met.ofW (cc := b_Mod_readCompare) (maxL := 2) (ret := (none : Option Jvm.ClassFile.FieldType)) (by decide) rfl ?_
  intro p e s m args below meth c s₁ B hml hv
  obtain ⟨rfl, hsz, hP, hK, hN0, hnx⟩ := hv
  have hx := B.exec
  have hb := B.bytes
  have hr := B.returns
  have hts : ∀ w ∈ wsAll, w.before [.ref (a0 0)].toArray s = true := fun w h9 => atoms_spec (ws := ws_Mod_readCompare) B.pre w (List.mem_cons_of_mem _ h9)
  have hown : s.vm.findClass R_Mod = some m.cls := findClass_of_methodNamed B.named
  have hlocks := B.notSynchronized
  subst hsz
  have hN : bw_N (bw_A [adMod a0] s.heap.size) [adMod a0] := hN0.self s.heap.size
  generalize hAe : bw_A [adMod a0] s.heap.size = A at hN ⊢
  have hA : ∀ q : Nat, s.heap.size ≤ q → A q := fun q h => by rw [← hAe]; exact Or.inr h
  have hS : va_S A s.heap s.heap [] := va_S.rf
  have hl := lv_entry ([.ref (a0 0)]) (n := 2) (Nat.le_of_ble_eq_true rfl)
  rw [lg_entry_eq]
  generalize (lg_sl ([.ref (a0 0)]) ++ List.replicate (2 - (lg_sl ([.ref (a0 0)])).length) Slot.unset).toArray = ls at hl ⊢
  have hl : lv_has ls 2 [(0, .ref (a0 0))] := hl
  have C0 : cx wsAll vwCl nx p s m [.ref (a0 0)].toArray meth c (dC, dI) (tyA ct) b_Mod_readCompare 2 (none : Option Jvm.ClassFile.FieldType) R_Mod A [adMod a0] := ⟨hx, hb, hr, hml, hown, hlocks, hts, hK, hN, hA, hnx⟩
  have h := hF
  rw [F_Mod_readCompare] at h
  refine lv_aload_n hx hb d_Mod_readCompare_0 rfl (lv_at hl 0 rfl) ?_
  obtain ⟨v2, hG1, h⟩ := bind1_some h
  refine bw_callR (va_runV (As := []) (rest := []) ⟨hx, hb, hml, hown, hts⟩ (c_Mod_here l ct dC dI a0 _ o0 v2 hG1) (cwV 0 hts g_Mod_111 rfl rfl rfl (by decide +kernel) ⟨Nat.le_of_ble_eq_true rfl, Nat.le_of_ble_eq_true rfl⟩) ⟨bw_blind nx_call, va_recv hK (hP 0 _ rfl) (ci := 6) (q0 := 0) rfl rfl, fun U hU hW => ⟨rfl, by rw [hU], by rw [hU]; exact hP.sub [0] rfl, va_K.moved hW.alike hK, (hN.sub [0] (by decide) rfl).weaken (fun _ _ => trivial), nx_warm hW hnx⟩⟩ rfl rfl hl.1 rfl (Nat.le_of_ble_eq_true rfl) d_Mod_readCompare_1 ⟨Nat.le_of_ble_eq_true rfl, Nat.le_of_ble_eq_true rfl⟩) ?_
  refine lv_istore_n (lv' := [(1, .int v2), (0, .ref (a0 0))]) hx hb d_Mod_readCompare_4 rfl hl (by decide) rfl (fun ls hl => ?_)
  refine lv_aload_n hx hb d_Mod_readCompare_5 rfl (lv_at hl 1 rfl) ?_
  refine va_get (D := (dC, dI)) (ci := 6) (v := .int (g32 o0 4 0)) (C := R_Mod) (T := T_Mod) (N := 36) hx hb hts in_Mod hown hK (hP 0 _ rfl) 0 rfl rfl 4 (by decide) (hts _ fl_Mod_94) (fun _ h9 => h9) rfl d_Mod_readCompare_6 ?_
  refine lv_if_ge (tgt := 27) hx hb d_Mod_readCompare_9 (by decide) (fun c3 => ?_) (fun c3 => ?_)
  · have h := ite_t c3 h
    exact k_Mod_readCompare_27 C0 v2 o0 _ _ _ hP hS (lv_sub hl [1, 0] rfl) h
  · have h := ite_f c3 h
    refine lv_iload_n hx hb d_Mod_readCompare_12 rfl (lv_at hl 0 rfl) ?_
    obtain ⟨v5, hG4, h⟩ := bind1_some h
    refine bw_callR (va_runS (As := [.int v2]) (rest := []) ⟨hx, hb, hml, hown, hts⟩ (c_Mod_isCompare l ct dC dI _ v2 v5 hG4) (cwS 1 hts g_Mod_148 rfl rfl rfl (by decide +kernel) ⟨Nat.le_of_ble_eq_true rfl, Nat.le_of_ble_eq_true rfl⟩) ⟨bw_blind nx_call, fun U hU hW => ⟨rfl, by rw [hU], by rw [hU]; exact hP.sub [] rfl, va_K.moved hW.alike hK, (hN.sub [] (by decide) rfl).weaken (fun _ _ => trivial), nx_warm hW hnx⟩⟩ rfl rfl hl.1 rfl (Nat.le_of_ble_eq_true rfl) d_Mod_readCompare_13 ⟨Nat.le_of_ble_eq_true rfl, Nat.le_of_ble_eq_true rfl⟩) ?_
    refine lv_if_ne (tgt := 27) hx hb d_Mod_readCompare_16 (by decide) (fun c6 => ?_) (fun c6 => ?_)
    · have h := ite_f c6 h
      exact k_Mod_readCompare_27 C0 v2 o0 _ _ _ hP hS (lv_sub hl [1, 0] rfl) h
    · have h := ite_t c6 h
      refine lv_aload_n hx hb d_Mod_readCompare_19 rfl (lv_at hl 1 rfl) ?_
      refine lv_aload_n hx hb d_Mod_readCompare_20 rfl (lv_at hl 1 rfl) ?_
      refine va_get (D := (dC, dI)) (ci := 6) (v := .int (g32 o0 3 0)) (C := R_Mod) (T := T_Mod) (N := 36) hx hb hts in_Mod hown hK (hP 0 _ rfl) 0 rfl rfl 3 (by decide) (hts _ fl_Mod_91) (fun _ h9 => h9) rfl d_Mod_readCompare_21 ?_
      obtain ⟨o_8, hG7, h⟩ := bind1_some h
      refine bw_call (Lc := [wMod ct a0 o0]) (Lc' := [wMod ct a0 o_8]) (L' := [wMod ct a0 o_8]) [0] (va_runV (As := [.int (g32 o0 3 0)]) (rest := []) ⟨hx, hb, hml, hown, hts⟩ (c_Mod_failAt l ct dC dI a0 _ (g32 o0 3 0) o0 o_8 hG7) (cwV 1 hts g_Mod_119 rfl rfl rfl (by decide +kernel) ⟨Nat.le_of_ble_eq_true rfl, Nat.le_of_ble_eq_true rfl⟩) ⟨bw_blind nx_call, va_recv hK (hP 0 _ rfl) (ci := 6) (q0 := 0) rfl rfl, fun U hU hW => ⟨rfl, by rw [hU], by rw [hU]; exact hP.sub [0] rfl, va_K.moved hW.alike hK, (hN.sub [0] (by decide) rfl).weaken (fun _ _ => trivial), nx_warm hW hnx⟩⟩ rfl rfl hl.1 rfl (Nat.le_of_ble_eq_true rfl) d_Mod_readCompare_24 ⟨Nat.le_of_ble_eq_true rfl, Nat.le_of_ble_eq_true rfl⟩) hP hN hS hA rfl rfl rfl (fun H locs hP hS => ?_)
      exact k_Mod_readCompare_27 C0 v2 o_8 _ _ _ hP hS (lv_sub hl [1, 0] rfl) h
theorem g_Mod_154 : GoodIn wsAll (wsV R_Mod 154 R_Mod y_Mod_readCompare ws_Mod_readCompare) := gd_V ml_Mod_154 im_Mod_readCompare se_Mod_readCompare ini_Mod cd_Mod_readCompare
theorem g_Mod_157 : GoodIn wsAll (wsV R_Mod 157 R_Mod y_Mod_readMark ws_Mod_readMark) := gd_V ml_Mod_157 im_Mod_readMark se_Mod_readMark ini_Mod cd_Mod_readMark
def F_Mod_readChoice_49 (k6 : Int32 → Ob → Option (Ob)) (x1 : Int32) (o0 : Ob) : Option (Ob) :=
  bind1 (F_Mod_readMark (58 : Int32) o0) (fun o_18 => bind1 (F_Mod_emit (10 : Int32) (0 : Int32) o_18) (fun o_20 => if 0 ≤ (g32 o_20 4 0) then (k6 (x1 + (1 : Int32)) o_20) else (bind1 (F_Mod_readExpression o_20) (fun o_23 => k6 (x1 + (1 : Int32)) o_23))))
def F_Mod_readChoice_6  : Nat → Int32 → Ob → Option (Ob)
  | 0, _, _ => none
  | n + 1, x1, o0 =>
    if 0 ≤ (g32 o0 4 0) then (some o0) else (if (4 : Int32) ≤ x1 then (some o0) else (bind1 (F_Mod_here o0) (fun v6 => bind1 (F_Mod_isCompare v6) (fun v8 => if (b2i v8) = 0 then (some o0) else (bind1 (F_Mod_readCompare o0) (fun o_11 => bind1 (F_Mod_readMark (63 : Int32) o_11) (fun o_13 => if 0 ≤ (g32 o_13 4 0) then (F_Mod_readChoice_49 (F_Mod_readChoice_6 n) x1 o_13) else (bind1 (F_Mod_readExpression o_13) (fun o_16 => F_Mod_readChoice_49 (F_Mod_readChoice_6 n) x1 o_16)))))))))
def F_Mod_readChoice  (o0 : Ob) : Option (Ob) :=
  bind1 (F_Mod_readExpression o0) (fun o_2 => F_Mod_readChoice_6 fuel (0 : Int32) o_2)
abbrev ws_Mod_readChoice : List Cond := Cond.code y_Mod_readChoice b_Mod_readChoice 2 (none : Option Jvm.ClassFile.FieldType) :: wsAll
abbrev rm_Mod_readChoice : Room := { frames := 7, cells := 0, slots := 0, locals := 152 }
set_option maxHeartbeats 4000000 in
set_option maxRecDepth 100000 in
theorem k_Mod_readChoice_49 {p : Program} {l : Launch} {e : Env} {s : State} {m : MethodId} {args : Array Value} {below : List Frame} {meth : Method} {c : Code} {A : Nat → Prop} {ct dC : Nat → ClassId} {dI : Nat → Nat → Nat} {a0 : Nat → Nat}  {n0 : Ob}  {k6 : Int32 → Ob → Option (Ob)} (C0 : cx wsAll vwCl nx p s m args meth c (dC, dI) (tyA ct) b_Mod_readChoice 2 (none : Option Jvm.ClassFile.FieldType) R_Mod A [adMod a0]) (hk6 : ∀ (x1 : Int32) (o0 : Ob) (H : Heap) (locs : List Loc) (ls : Array Slot), bw_P (dC, dI) vwCl [wMod ct a0 o0] H → va_S A s.heap H locs → lv_has ls 2 [(0, .ref (a0 0)), (1, .int x1)] → k6 x1 o0 = some n0 → W p l e (headSpec ws_Mod_readChoice rm_Mod_readChoice).room s m args below meth c H locs 0 0 (MQ below (bw_Q (dC, dI) vwCl none [wMod ct a0 n0] A) args s 0 0 A) (F0 m 6 ls [])) : ∀ (x1 : Int32) (o0 : Ob) (H : Heap) (locs : List Loc) (ls : Array Slot), bw_P (dC, dI) vwCl [wMod ct a0 o0] H → va_S A s.heap H locs → lv_has ls 2 [(0, .ref (a0 0)), (1, .int x1)] → F_Mod_readChoice_49 k6 x1 o0 = some n0 → W p l e (headSpec ws_Mod_readChoice rm_Mod_readChoice).room s m args below meth c H locs 0 0 (MQ below (bw_Q (dC, dI) vwCl none [wMod ct a0 n0] A) args s 0 0 A) (F0 m 49 ls []) := by
  obtain ⟨hx, hb, hr, hml, hown, hlocks, hts, hK, hN, hA, hnx⟩ := id C0
  intro x1 o0 H locs ls hP hS hl h
  rw [F_Mod_readChoice_49] at h
  refine lv_aload_n hx hb d_Mod_readChoice_49 rfl (lv_at hl 0 rfl) ?_
  refine lv_bipush (v := 58) hx hb d_Mod_readChoice_50 (by decide) ?_
  obtain ⟨o_18, hG17, h⟩ := bind1_some h
  refine bw_call (Lc := [wMod ct a0 o0]) (Lc' := [wMod ct a0 o_18]) (L' := [wMod ct a0 o_18]) [0] (va_runV (As := [.int (58 : Int32)]) (rest := []) ⟨hx, hb, hml, hown, hts⟩ (c_Mod_readMark l ct dC dI a0 _ (58 : Int32) o0 o_18 hG17) (cwV 1 hts g_Mod_157 rfl rfl rfl (by decide +kernel) ⟨Nat.le_of_ble_eq_true rfl, Nat.le_of_ble_eq_true rfl⟩) ⟨bw_blind nx_call, va_recv hK (hP 0 _ rfl) (ci := 6) (q0 := 0) rfl rfl, fun U hU hW => ⟨rfl, by rw [hU], by rw [hU]; exact hP.sub [0] rfl, va_K.moved hW.alike hK, (hN.sub [0] (by decide) rfl).weaken (fun _ _ => trivial), nx_warm hW hnx⟩⟩ rfl rfl hl.1 rfl (Nat.le_of_ble_eq_true rfl) d_Mod_readChoice_52 ⟨Nat.le_of_ble_eq_true rfl, Nat.le_of_ble_eq_true rfl⟩) hP hN hS hA rfl rfl rfl (fun H locs hP hS => ?_)
  refine lv_aload_n hx hb d_Mod_readChoice_55 rfl (lv_at hl 0 rfl) ?_
  refine lv_bipush (v := 10) hx hb d_Mod_readChoice_56 (by decide) ?_
  refine lv_iconst (v := 0) hx hb d_Mod_readChoice_58 (by decide) ?_
  obtain ⟨o_20, hG19, h⟩ := bind1_some h
  refine bw_call (Lc := [wMod ct a0 o_18]) (Lc' := [wMod ct a0 o_20]) (L' := [wMod ct a0 o_20]) [0] (va_runV (As := [.int (10 : Int32), .int (0 : Int32)]) (rest := []) ⟨hx, hb, hml, hown, hts⟩ (c_Mod_emit l ct dC dI a0 _ (10 : Int32) (0 : Int32) o_18 o_20 hG19) (cwV 2 hts g_Mod_100 rfl rfl rfl (by decide +kernel) ⟨Nat.le_of_ble_eq_true rfl, Nat.le_of_ble_eq_true rfl⟩) ⟨bw_blind nx_call, va_recv hK (hP 0 _ rfl) (ci := 6) (q0 := 0) rfl rfl, fun U hU hW => ⟨rfl, by rw [hU], by rw [hU]; exact hP.sub [0] rfl, va_K.moved hW.alike hK, (hN.sub [0] (by decide) rfl).weaken (fun _ _ => trivial), nx_warm hW hnx⟩⟩ rfl rfl hl.1 rfl (Nat.le_of_ble_eq_true rfl) d_Mod_readChoice_59 ⟨Nat.le_of_ble_eq_true rfl, Nat.le_of_ble_eq_true rfl⟩) hP hN hS hA rfl rfl rfl (fun H locs hP hS => ?_)
  refine lv_aload_n hx hb d_Mod_readChoice_62 rfl (lv_at hl 0 rfl) ?_
  refine va_get (D := (dC, dI)) (ci := 6) (v := .int (g32 o_20 4 0)) (C := R_Mod) (T := T_Mod) (N := 36) hx hb hts in_Mod hown hK (hP 0 _ rfl) 0 rfl rfl 4 (by decide) (hts _ fl_Mod_94) (fun _ h9 => h9) rfl d_Mod_readChoice_63 ?_
  refine lv_if_ge (tgt := 73) hx hb d_Mod_readChoice_66 (by decide) (fun c21 => ?_) (fun c21 => ?_)
  · have h := ite_t c21 h
    refine lv_iinc (v := (x1 + (1 : Int32))) (lv' := [(1, .int (x1 + (1 : Int32))), (0, .ref (a0 0))]) hx hb d_Mod_readChoice_73 hl (k := 1) rfl rfl (by decide) rfl (fun ls hl => ?_)
    refine lv_goto (tgt := 6) hx hb d_Mod_readChoice_76 (by decide) ?_
    exact hk6 (x1 + (1 : Int32)) o_20 _ _ _ hP hS (lv_sub hl [1, 0] rfl) h
  · have h := ite_f c21 h
    refine lv_aload_n hx hb d_Mod_readChoice_69 rfl (lv_at hl 0 rfl) ?_
    obtain ⟨o_23, hG22, h⟩ := bind1_some h
    refine bw_call (Lc := [wMod ct a0 o_20]) (Lc' := [wMod ct a0 o_23]) (L' := [wMod ct a0 o_23]) [0] (va_runV (As := []) (rest := []) ⟨hx, hb, hml, hown, hts⟩ (c_Mod_readExpression l ct dC dI a0 _ o_20 o_23 hG22) (cwV 0 hts g_Mod_151 rfl rfl rfl (by decide +kernel) ⟨Nat.le_of_ble_eq_true rfl, Nat.le_of_ble_eq_true rfl⟩) ⟨bw_blind nx_call, va_recv hK (hP 0 _ rfl) (ci := 6) (q0 := 0) rfl rfl, fun U hU hW => ⟨rfl, by rw [hU], by rw [hU]; exact hP.sub [0] rfl, va_K.moved hW.alike hK, (hN.sub [0] (by decide) rfl).weaken (fun _ _ => trivial), nx_warm hW hnx⟩⟩ rfl rfl hl.1 rfl (Nat.le_of_ble_eq_true rfl) d_Mod_readChoice_70 ⟨Nat.le_of_ble_eq_true rfl, Nat.le_of_ble_eq_true rfl⟩) hP hN hS hA rfl rfl rfl (fun H locs hP hS => ?_)
    refine lv_iinc (v := (x1 + (1 : Int32))) (lv' := [(1, .int (x1 + (1 : Int32))), (0, .ref (a0 0))]) hx hb d_Mod_readChoice_73 hl (k := 1) rfl rfl (by decide) rfl (fun ls hl => ?_)
    refine lv_goto (tgt := 6) hx hb d_Mod_readChoice_76 (by decide) ?_
    exact hk6 (x1 + (1 : Int32)) o_23 _ _ _ hP hS (lv_sub hl [1, 0] rfl) h
set_option maxHeartbeats 4000000 in
set_option maxRecDepth 100000 in
theorem k_Mod_readChoice_6 {p : Program} {l : Launch} {e : Env} {s : State} {m : MethodId} {args : Array Value} {below : List Frame} {meth : Method} {c : Code} {A : Nat → Prop} {ct dC : Nat → ClassId} {dI : Nat → Nat → Nat} {a0 : Nat → Nat}  {n0 : Ob}   (C0 : cx wsAll vwCl nx p s m args meth c (dC, dI) (tyA ct) b_Mod_readChoice 2 (none : Option Jvm.ClassFile.FieldType) R_Mod A [adMod a0])  : ∀ (n : Nat) (x1 : Int32) (o0 : Ob) (H : Heap) (locs : List Loc) (ls : Array Slot), bw_P (dC, dI) vwCl [wMod ct a0 o0] H → va_S A s.heap H locs → lv_has ls 2 [(0, .ref (a0 0)), (1, .int x1)] → F_Mod_readChoice_6 n x1 o0 = some n0 → W p l e (headSpec ws_Mod_readChoice rm_Mod_readChoice).room s m args below meth c H locs 0 0 (MQ below (bw_Q (dC, dI) vwCl none [wMod ct a0 n0] A) args s 0 0 A) (F0 m 6 ls []) := by
  obtain ⟨hx, hb, hr, hml, hown, hlocks, hts, hK, hN, hA, hnx⟩ := id C0
  intro n
  induction n with
  | zero =>
    intro x1 o0 H locs ls hP hS hl h
    cases h
  | succ n ih =>
    intro x1 o0 H locs ls hP hS hl h
    rw [F_Mod_readChoice_6] at h
    refine lv_aload_n hx hb d_Mod_readChoice_6 rfl (lv_at hl 0 rfl) ?_
    refine va_get (D := (dC, dI)) (ci := 6) (v := .int (g32 o0 4 0)) (C := R_Mod) (T := T_Mod) (N := 36) hx hb hts in_Mod hown hK (hP 0 _ rfl) 0 rfl rfl 4 (by decide) (hts _ fl_Mod_94) (fun _ h9 => h9) rfl d_Mod_readChoice_7 ?_
    refine lv_if_ge (tgt := 79) hx hb d_Mod_readChoice_10 (by decide) (fun c3 => ?_) (fun c3 => ?_)
    · have h := ite_t c3 h
      obtain rfl := res1 h
      exact W.vret hx hb hr (fun t ht hW => ⟨rfl, by rw [ht]; exact hP, hS.F ht⟩) hS.2.2 d_Mod_readChoice_79
    · have h := ite_f c3 h
      refine lv_iload_n hx hb d_Mod_readChoice_13 rfl (lv_at hl 1 rfl) ?_
      refine lv_iconst (v := 4) hx hb d_Mod_readChoice_14 (by decide) ?_
      refine lv_icmp_ge (tgt := 79) hx hb d_Mod_readChoice_15 (by decide) (fun c4 => ?_) (fun c4 => ?_)
      · have h := ite_t c4 h
        obtain rfl := res1 h
        exact W.vret hx hb hr (fun t ht hW => ⟨rfl, by rw [ht]; exact hP, hS.F ht⟩) hS.2.2 d_Mod_readChoice_79
      · have h := ite_f c4 h
        refine lv_aload_n hx hb d_Mod_readChoice_18 rfl (lv_at hl 0 rfl) ?_
        obtain ⟨v6, hG5, h⟩ := bind1_some h
        refine bw_callR (va_runV (As := []) (rest := []) ⟨hx, hb, hml, hown, hts⟩ (c_Mod_here l ct dC dI a0 _ o0 v6 hG5) (cwV 0 hts g_Mod_111 rfl rfl rfl (by decide +kernel) ⟨Nat.le_of_ble_eq_true rfl, Nat.le_of_ble_eq_true rfl⟩) ⟨bw_blind nx_call, va_recv hK (hP 0 _ rfl) (ci := 6) (q0 := 0) rfl rfl, fun U hU hW => ⟨rfl, by rw [hU], by rw [hU]; exact hP.sub [0] rfl, va_K.moved hW.alike hK, (hN.sub [0] (by decide) rfl).weaken (fun _ _ => trivial), nx_warm hW hnx⟩⟩ rfl rfl hl.1 rfl (Nat.le_of_ble_eq_true rfl) d_Mod_readChoice_19 ⟨Nat.le_of_ble_eq_true rfl, Nat.le_of_ble_eq_true rfl⟩) ?_
        obtain ⟨v8, hG7, h⟩ := bind1_some h
        refine bw_callR (va_runS (As := [.int v6]) (rest := []) ⟨hx, hb, hml, hown, hts⟩ (c_Mod_isCompare l ct dC dI _ v6 v8 hG7) (cwS 1 hts g_Mod_148 rfl rfl rfl (by decide +kernel) ⟨Nat.le_of_ble_eq_true rfl, Nat.le_of_ble_eq_true rfl⟩) ⟨bw_blind nx_call, fun U hU hW => ⟨rfl, by rw [hU], by rw [hU]; exact hP.sub [] rfl, va_K.moved hW.alike hK, (hN.sub [] (by decide) rfl).weaken (fun _ _ => trivial), nx_warm hW hnx⟩⟩ rfl rfl hl.1 rfl (Nat.le_of_ble_eq_true rfl) d_Mod_readChoice_22 ⟨Nat.le_of_ble_eq_true rfl, Nat.le_of_ble_eq_true rfl⟩) ?_
        refine lv_if_eq (tgt := 79) hx hb d_Mod_readChoice_25 (by decide) (fun c9 => ?_) (fun c9 => ?_)
        · have h := ite_t c9 h
          obtain rfl := res1 h
          exact W.vret hx hb hr (fun t ht hW => ⟨rfl, by rw [ht]; exact hP, hS.F ht⟩) hS.2.2 d_Mod_readChoice_79
        · have h := ite_f c9 h
          refine lv_aload_n hx hb d_Mod_readChoice_28 rfl (lv_at hl 0 rfl) ?_
          obtain ⟨o_11, hG10, h⟩ := bind1_some h
          refine bw_call (Lc := [wMod ct a0 o0]) (Lc' := [wMod ct a0 o_11]) (L' := [wMod ct a0 o_11]) [0] (va_runV (As := []) (rest := []) ⟨hx, hb, hml, hown, hts⟩ (c_Mod_readCompare l ct dC dI a0 _ o0 o_11 hG10) (cwV 0 hts g_Mod_154 rfl rfl rfl (by decide +kernel) ⟨Nat.le_of_ble_eq_true rfl, Nat.le_of_ble_eq_true rfl⟩) ⟨bw_blind nx_call, va_recv hK (hP 0 _ rfl) (ci := 6) (q0 := 0) rfl rfl, fun U hU hW => ⟨rfl, by rw [hU], by rw [hU]; exact hP.sub [0] rfl, va_K.moved hW.alike hK, (hN.sub [0] (by decide) rfl).weaken (fun _ _ => trivial), nx_warm hW hnx⟩⟩ rfl rfl hl.1 rfl (Nat.le_of_ble_eq_true rfl) d_Mod_readChoice_29 ⟨Nat.le_of_ble_eq_true rfl, Nat.le_of_ble_eq_true rfl⟩) hP hN hS hA rfl rfl rfl (fun H locs hP hS => ?_)
          refine lv_aload_n hx hb d_Mod_readChoice_32 rfl (lv_at hl 0 rfl) ?_
          refine lv_bipush (v := 63) hx hb d_Mod_readChoice_33 (by decide) ?_
          obtain ⟨o_13, hG12, h⟩ := bind1_some h
          refine bw_call (Lc := [wMod ct a0 o_11]) (Lc' := [wMod ct a0 o_13]) (L' := [wMod ct a0 o_13]) [0] (va_runV (As := [.int (63 : Int32)]) (rest := []) ⟨hx, hb, hml, hown, hts⟩ (c_Mod_readMark l ct dC dI a0 _ (63 : Int32) o_11 o_13 hG12) (cwV 1 hts g_Mod_157 rfl rfl rfl (by decide +kernel) ⟨Nat.le_of_ble_eq_true rfl, Nat.le_of_ble_eq_true rfl⟩) ⟨bw_blind nx_call, va_recv hK (hP 0 _ rfl) (ci := 6) (q0 := 0) rfl rfl, fun U hU hW => ⟨rfl, by rw [hU], by rw [hU]; exact hP.sub [0] rfl, va_K.moved hW.alike hK, (hN.sub [0] (by decide) rfl).weaken (fun _ _ => trivial), nx_warm hW hnx⟩⟩ rfl rfl hl.1 rfl (Nat.le_of_ble_eq_true rfl) d_Mod_readChoice_35 ⟨Nat.le_of_ble_eq_true rfl, Nat.le_of_ble_eq_true rfl⟩) hP hN hS hA rfl rfl rfl (fun H locs hP hS => ?_)
          refine lv_aload_n hx hb d_Mod_readChoice_38 rfl (lv_at hl 0 rfl) ?_
          refine va_get (D := (dC, dI)) (ci := 6) (v := .int (g32 o_13 4 0)) (C := R_Mod) (T := T_Mod) (N := 36) hx hb hts in_Mod hown hK (hP 0 _ rfl) 0 rfl rfl 4 (by decide) (hts _ fl_Mod_94) (fun _ h9 => h9) rfl d_Mod_readChoice_39 ?_
          refine lv_if_ge (tgt := 49) hx hb d_Mod_readChoice_42 (by decide) (fun c14 => ?_) (fun c14 => ?_)
          · have h := ite_t c14 h
            exact k_Mod_readChoice_49 C0 ih x1 o_13 _ _ _ hP hS (lv_sub hl [0, 1] rfl) h
          · have h := ite_f c14 h
            refine lv_aload_n hx hb d_Mod_readChoice_45 rfl (lv_at hl 0 rfl) ?_
            obtain ⟨o_16, hG15, h⟩ := bind1_some h
            refine bw_call (Lc := [wMod ct a0 o_13]) (Lc' := [wMod ct a0 o_16]) (L' := [wMod ct a0 o_16]) [0] (va_runV (As := []) (rest := []) ⟨hx, hb, hml, hown, hts⟩ (c_Mod_readExpression l ct dC dI a0 _ o_13 o_16 hG15) (cwV 0 hts g_Mod_151 rfl rfl rfl (by decide +kernel) ⟨Nat.le_of_ble_eq_true rfl, Nat.le_of_ble_eq_true rfl⟩) ⟨bw_blind nx_call, va_recv hK (hP 0 _ rfl) (ci := 6) (q0 := 0) rfl rfl, fun U hU hW => ⟨rfl, by rw [hU], by rw [hU]; exact hP.sub [0] rfl, va_K.moved hW.alike hK, (hN.sub [0] (by decide) rfl).weaken (fun _ _ => trivial), nx_warm hW hnx⟩⟩ rfl rfl hl.1 rfl (Nat.le_of_ble_eq_true rfl) d_Mod_readChoice_46 ⟨Nat.le_of_ble_eq_true rfl, Nat.le_of_ble_eq_true rfl⟩) hP hN hS hA rfl rfl rfl (fun H locs hP hS => ?_)
            exact k_Mod_readChoice_49 C0 ih x1 o_16 _ _ _ hP hS (lv_sub hl [0, 1] rfl) h
set_option maxHeartbeats 4000000 in
set_option maxRecDepth 100000 in
theorem c_Mod_readChoice (l : Launch) (ct dC : Nat → ClassId) (dI : Nat → Nat → Nat) (a0 : Nat → Nat)  (sz : Nat)  (o0 : Ob) (n0 : Ob) (hF : F_Mod_readChoice o0 = some n0) : Met l y_Mod_readChoice ws_Mod_readChoice rm_Mod_readChoice (bw_Pc [.ref (a0 0)] (dC, dI) vwCl (tyA ct) [wMod ct a0 o0] sz nx) (bw_Q (dC, dI) vwCl none [wMod ct a0 n0] (bw_A [adMod a0] sz)) 0 0 (bw_A [adMod a0] sz) := by
  refine Met.ofW (cc := b_Mod_readChoice) (maxL := 2) (ret := (none : Option Jvm.ClassFile.FieldType)) (by decide) rfl ?_
  intro p e s m args below meth c s₁ B hml hv
  obtain ⟨rfl, hsz, hP, hK, hN0, hnx⟩ := hv
  have hx := B.exec
  have hb := B.bytes
  have hr := B.returns
  have hts : ∀ w ∈ wsAll, w.before [.ref (a0 0)].toArray s = true := fun w h9 => atoms_spec (ws := ws_Mod_readChoice) B.pre w (List.mem_cons_of_mem _ h9)
  have hown : s.vm.findClass R_Mod = some m.cls := findClass_of_methodNamed B.named
  have hlocks := B.notSynchronized
  subst hsz
  have hN : bw_N (bw_A [adMod a0] s.heap.size) [adMod a0] := hN0.self s.heap.size
  generalize hAe : bw_A [adMod a0] s.heap.size = A at hN ⊢
  have hA : ∀ q : Nat, s.heap.size ≤ q → A q := fun q h => by rw [← hAe]; exact Or.inr h
  have hS : va_S A s.heap s.heap [] := va_S.rf
  have hl := lv_entry ([.ref (a0 0)]) (n := 2) (Nat.le_of_ble_eq_true rfl)
  rw [lg_entry_eq]
  generalize (lg_sl ([.ref (a0 0)]) ++ List.replicate (2 - (lg_sl ([.ref (a0 0)])).length) Slot.unset).toArray = ls at hl ⊢
  have hl : lv_has ls 2 [(0, .ref (a0 0))] := hl
  have C0 : cx wsAll vwCl nx p s m [.ref (a0 0)].toArray meth c (dC, dI) (tyA ct) b_Mod_readChoice 2 (none : Option Jvm.ClassFile.FieldType) R_Mod A [adMod a0] := ⟨hx, hb, hr, hml, hown, hlocks, hts, hK, hN, hA, hnx⟩
  have h := hF
  rw [F_Mod_readChoice] at h
  refine lv_aload_n hx hb d_Mod_readChoice_0 rfl (lv_at hl 0 rfl) ?_
  obtain ⟨o_2, hG1, h⟩ := bind1_some h
  refine bw_call (Lc := [wMod ct a0 o0]) (Lc' := [wMod ct a0 o_2]) (L' := [wMod ct a0 o_2]) [0] (va_runV (As := []) (rest := []) ⟨hx, hb, hml, hown, hts⟩ (c_Mod_readExpression l ct dC dI a0 _ o0 o_2 hG1) (cwV 0 hts g_Mod_151 rfl rfl rfl (by decide +kernel) ⟨Nat.le_of_ble_eq_true rfl, Nat.le_of_ble_eq_true rfl⟩) ⟨bw_blind nx_call, va_recv hK (hP 0 _ rfl) (ci := 6) (q0 := 0) rfl rfl, fun U hU hW => ⟨rfl, by rw [hU], by rw [hU]; exact hP.sub [0] rfl, va_K.moved hW.alike hK, (hN.sub [0] (by decide) rfl).weaken (fun _ _ => trivial), nx_warm hW hnx⟩⟩ rfl rfl hl.1 rfl (Nat.le_of_ble_eq_true rfl) d_Mod_readChoice_1 ⟨Nat.le_of_ble_eq_true rfl, Nat.le_of_ble_eq_true rfl⟩) hP hN hS hA rfl rfl rfl (fun H locs hP hS => ?_)
  refine lv_iconst (v := 0) hx hb d_Mod_readChoice_4 (by decide) ?_
  refine lv_istore_n (lv' := [(1, .int (0 : Int32)), (0, .ref (a0 0))]) hx hb d_Mod_readChoice_5 rfl hl (by decide) rfl (fun ls hl => ?_)
  exact k_Mod_readChoice_6 C0 fuel (0 : Int32) o_2 _ _ _ hP hS (lv_sub hl [1, 0] rfl) h
def F_Mod_isDefined_4 (o0 : Ob)  : Nat → Int32 → Int32 → Int32 → Option (Bool)
  | 0, _, _, _ => none
  | n + 1, x1, x2, x3 =>
    chk (inb (1 : Int32) 2) (if (g32 o0 8 (Int32.toNatClampNeg (1 : Int32))) ≤ x3 then (chk (isB x2) (some (decide (¬ x2 = 0)))) else (if x2 = 0 then (chk (inb ((25 : Int32) + x3) 50) (if (g32 o0 10 (Int32.toNatClampNeg ((25 : Int32) + x3))) = x1 then (F_Mod_isDefined_4 o0 n x1 (1 : Int32) (x3 + (1 : Int32))) else (F_Mod_isDefined_4 o0 n x1 (0 : Int32) (x3 + (1 : Int32))))) else (F_Mod_isDefined_4 o0 n x1 (1 : Int32) (x3 + (1 : Int32)))))
def F_Mod_isDefined (x1 : Int32) (o0 : Ob) : Option (Bool) :=
  F_Mod_isDefined_4 o0 fuel x1 (0 : Int32) (0 : Int32)
abbrev ws_Mod_isDefined : List Cond := Cond.code y_Mod_isDefined b_Mod_isDefined 4 (some .boolean) :: wsAll
abbrev rm_Mod_isDefined : Room := { frames := 0, cells := 0, slots := 0, locals := 0 }
set_option maxHeartbeats 4000000 in
set_option maxRecDepth 100000 in
theorem k_Mod_isDefined_4 {p : Program} {l : Launch} {e : Env} {s : State} {m : MethodId} {args : Array Value} {below : List Frame} {meth : Method} {c : Code} {A : Nat → Prop} {ct dC : Nat → ClassId} {dI : Nat → Nat → Nat} {a0 : Nat → Nat}  {r : Bool} {o0 : Ob}  (C0 : cx wsAll vwCl nx p s m args meth c (dC, dI) (tyA ct) b_Mod_isDefined 4 (some .boolean) R_Mod A [adMod a0])  : ∀ (n : Nat) (x1 : Int32) (x2 : Int32) (x3 : Int32) (H : Heap) (locs : List Loc) (ls : Array Slot), bw_P (dC, dI) vwCl [wMod ct a0 o0] H → (H = s.heap ∧ locs = []) → lv_has ls 4 [(0, .ref (a0 0)), (1, .int x1), (2, .int x2), (3, .int x3)] → F_Mod_isDefined_4 o0 n x1 x2 x3 = some r → W p l e (headSpec ws_Mod_isDefined rm_Mod_isDefined).room s m args below meth c H locs 0 0 (MQ below (bw_QR (some (.int (b2i r)))) args s 0 0 (fun _ => False)) (F0 m 4 ls []) := by
  obtain ⟨hx, hb, hr, hml, hown, hlocks, hts, hK, hN, hA, hnx⟩ := id C0
  intro n
  induction n with
  | zero =>
    intro x1 x2 x3 H locs ls hP hS hl h
    cases h
  | succ n ih =>
    intro x1 x2 x3 H locs ls hP hS hl h
    rw [F_Mod_isDefined_4] at h
    refine lv_iload_n hx hb d_Mod_isDefined_4 rfl (lv_at hl 3 rfl) ?_
    refine lv_aload_n hx hb d_Mod_isDefined_5 rfl (lv_at hl 0 rfl) ?_
    refine va_get (D := (dC, dI)) (ci := 6) (v := .ref (a0 5)) (C := R_Mod) (T := T_Mod) (N := 36) hx hb hts in_Mod hown hK (hP 0 _ rfl) 0 rfl rfl 8 (by decide) (hts _ fl_Mod_22) (fun _ h9 => h9) rfl d_Mod_isDefined_6 ?_
    refine lv_iconst (v := 1) hx hb d_Mod_isDefined_9 (by decide) ?_
    obtain ⟨hi1, h⟩ := chk_some h
    refine va_iald (f := g32 o0 8) hx hb hK (hP 0 _ rfl) 5 0 rfl rfl (inb_in hi1) d_Mod_isDefined_10 ?_
    refine lv_icmp_ge (tgt := 43) hx hb d_Mod_isDefined_11 (by decide) (fun c2 => ?_) (fun c2 => ?_)
    · have h := ite_t c2 h
      refine lv_iload_n hx hb d_Mod_isDefined_43 rfl (lv_at hl 2 rfl) ?_
      obtain ⟨hb3, h⟩ := chk_some h
      rw [isB_of hb3]
      obtain rfl := res1 h
      exact W.zret hx hb hr (b2i_nar _) (fun t ht hW => ⟨rfl, ht.trans hS.1⟩) (bw_nil hS.2) d_Mod_isDefined_44
    · have h := ite_f c2 h
      refine lv_iload_n hx hb d_Mod_isDefined_14 rfl (lv_at hl 2 rfl) ?_
      refine lv_if_ne (tgt := 31) hx hb d_Mod_isDefined_15 (by decide) (fun c4 => ?_) (fun c4 => ?_)
      · have h := ite_f c4 h
        refine lv_iconst (v := 1) hx hb d_Mod_isDefined_31 (by decide) ?_
        refine lv_goto (tgt := 36) hx hb d_Mod_isDefined_32 (by decide) ?_
        refine lv_istore_n (lv' := [(2, .int (1 : Int32)), (0, .ref (a0 0)), (1, .int x1), (3, .int x3)]) hx hb d_Mod_isDefined_36 rfl hl (by decide) rfl (fun ls hl => ?_)
        refine lv_iinc (v := (x3 + (1 : Int32))) (lv' := [(3, .int (x3 + (1 : Int32))), (2, .int (1 : Int32)), (0, .ref (a0 0)), (1, .int x1)]) hx hb d_Mod_isDefined_37 hl (k := 3) rfl rfl (by decide) rfl (fun ls hl => ?_)
        refine lv_goto (tgt := 4) hx hb d_Mod_isDefined_40 (by decide) ?_
        exact ih x1 (1 : Int32) (x3 + (1 : Int32)) _ _ _ hP hS (lv_sub hl [2, 3, 1, 0] rfl) h
      · have h := ite_t c4 h
        refine lv_aload_n hx hb d_Mod_isDefined_18 rfl (lv_at hl 0 rfl) ?_
        refine va_get (D := (dC, dI)) (ci := 6) (v := .ref (a0 7)) (C := R_Mod) (T := T_Mod) (N := 36) hx hb hts in_Mod hown hK (hP 0 _ rfl) 0 rfl rfl 10 (by decide) (hts _ fl_Mod_28) (fun _ h9 => h9) rfl d_Mod_isDefined_19 ?_
        refine lv_bipush (v := 25) hx hb d_Mod_isDefined_22 (by decide) ?_
        refine lv_iload_n hx hb d_Mod_isDefined_24 rfl (lv_at hl 3 rfl) ?_
        refine lv_iadd hx hb d_Mod_isDefined_25 ?_
        obtain ⟨hi5, h⟩ := chk_some h
        refine va_iald (f := g32 o0 10) hx hb hK (hP 0 _ rfl) 7 0 rfl rfl (inb_in hi5) d_Mod_isDefined_26 ?_
        refine lv_iload_n hx hb d_Mod_isDefined_27 rfl (lv_at hl 1 rfl) ?_
        refine lv_icmp_ne (tgt := 35) hx hb d_Mod_isDefined_28 (by decide) (fun c6 => ?_) (fun c6 => ?_)
        · have h := ite_f c6 h
          refine lv_iconst (v := 0) hx hb d_Mod_isDefined_35 (by decide) ?_
          refine lv_istore_n (lv' := [(2, .int (0 : Int32)), (0, .ref (a0 0)), (1, .int x1), (3, .int x3)]) hx hb d_Mod_isDefined_36 rfl hl (by decide) rfl (fun ls hl => ?_)
          refine lv_iinc (v := (x3 + (1 : Int32))) (lv' := [(3, .int (x3 + (1 : Int32))), (2, .int (0 : Int32)), (0, .ref (a0 0)), (1, .int x1)]) hx hb d_Mod_isDefined_37 hl (k := 3) rfl rfl (by decide) rfl (fun ls hl => ?_)
          refine lv_goto (tgt := 4) hx hb d_Mod_isDefined_40 (by decide) ?_
          exact ih x1 (0 : Int32) (x3 + (1 : Int32)) _ _ _ hP hS (lv_sub hl [2, 3, 1, 0] rfl) h
        · have h := ite_t c6 h
          refine lv_iconst (v := 1) hx hb d_Mod_isDefined_31 (by decide) ?_
          refine lv_goto (tgt := 36) hx hb d_Mod_isDefined_32 (by decide) ?_
          refine lv_istore_n (lv' := [(2, .int (1 : Int32)), (0, .ref (a0 0)), (1, .int x1), (3, .int x3)]) hx hb d_Mod_isDefined_36 rfl hl (by decide) rfl (fun ls hl => ?_)
          refine lv_iinc (v := (x3 + (1 : Int32))) (lv' := [(3, .int (x3 + (1 : Int32))), (2, .int (1 : Int32)), (0, .ref (a0 0)), (1, .int x1)]) hx hb d_Mod_isDefined_37 hl (k := 3) rfl rfl (by decide) rfl (fun ls hl => ?_)
          refine lv_goto (tgt := 4) hx hb d_Mod_isDefined_40 (by decide) ?_
          exact ih x1 (1 : Int32) (x3 + (1 : Int32)) _ _ _ hP hS (lv_sub hl [2, 3, 1, 0] rfl) h
set_option maxHeartbeats 4000000 in
set_option maxRecDepth 100000 in
theorem c_Mod_isDefined (l : Launch) (ct dC : Nat → ClassId) (dI : Nat → Nat → Nat) (a0 : Nat → Nat)  (sz : Nat) (x1 : Int32) (o0 : Ob) (r : Bool) (hF : F_Mod_isDefined x1 o0 = some r) : Met l y_Mod_isDefined ws_Mod_isDefined rm_Mod_isDefined (bw_Pc [.ref (a0 0), .int x1] (dC, dI) vwCl (tyA ct) [wMod ct a0 o0] sz nx) (bw_QR (some (.int (b2i r)))) 0 0 (fun _ => False) := by
  refine Met.ofW (cc := b_Mod_isDefined) (maxL := 4) (ret := (some .boolean)) (by decide) rfl ?_
  intro p e s m args below meth c s₁ B hml hv
  obtain ⟨rfl, hsz, hP, hK, hN0, hnx⟩ := hv
  have hx := B.exec
  have hb := B.bytes
  have hr := B.returns
  have hts : ∀ w ∈ wsAll, w.before [.ref (a0 0), .int x1].toArray s = true := fun w h9 => atoms_spec (ws := ws_Mod_isDefined) B.pre w (List.mem_cons_of_mem _ h9)
  have hown : s.vm.findClass R_Mod = some m.cls := findClass_of_methodNamed B.named
  have hlocks := B.notSynchronized
  subst hsz
  have hN : bw_N (fun _ => True) [adMod a0] := hN0
  generalize hAe : (fun _ : Nat => True) = A at hN
  have hA : ∀ q : Nat, s.heap.size ≤ q → A q := fun q _ => by rw [← hAe]; trivial
  have hS : s.heap = s.heap ∧ ([] : List Loc) = [] := ⟨rfl, rfl⟩
  have hl := lv_entry ([.ref (a0 0), .int x1]) (n := 4) (Nat.le_of_ble_eq_true rfl)
  rw [lg_entry_eq]
  generalize (lg_sl ([.ref (a0 0), .int x1]) ++ List.replicate (4 - (lg_sl ([.ref (a0 0), .int x1])).length) Slot.unset).toArray = ls at hl ⊢
  have hl : lv_has ls 4 [(0, .ref (a0 0)), (1, .int x1)] := hl
  have C0 : cx wsAll vwCl nx p s m [.ref (a0 0), .int x1].toArray meth c (dC, dI) (tyA ct) b_Mod_isDefined 4 (some .boolean) R_Mod A [adMod a0] := ⟨hx, hb, hr, hml, hown, hlocks, hts, hK, hN, hA, hnx⟩
  have h := hF
  rw [F_Mod_isDefined] at h
  refine lv_iconst (v := 0) hx hb d_Mod_isDefined_0 (by decide) ?_
  refine lv_istore_n (lv' := [(2, .int (0 : Int32)), (0, .ref (a0 0)), (1, .int x1)]) hx hb d_Mod_isDefined_1 rfl hl (by decide) rfl (fun ls hl => ?_)
  refine lv_iconst (v := 0) hx hb d_Mod_isDefined_2 (by decide) ?_
  refine lv_istore_n (lv' := [(3, .int (0 : Int32)), (2, .int (0 : Int32)), (0, .ref (a0 0)), (1, .int x1)]) hx hb d_Mod_isDefined_3 rfl hl (by decide) rfl (fun ls hl => ?_)
  exact k_Mod_isDefined_4 C0 fuel x1 (0 : Int32) (0 : Int32) _ _ _ hP hS (lv_sub hl [2, 3, 1, 0] rfl) h
theorem g_Mod_160 : GoodIn wsAll (wsV R_Mod 160 R_Mod y_Mod_isDefined ws_Mod_isDefined) := gd_V ml_Mod_160 im_Mod_isDefined se_Mod_isDefined ini_Mod cd_Mod_isDefined
theorem g_Mod_163 : GoodIn wsAll (wsV R_Mod 163 R_Mod y_Mod_readChoice ws_Mod_readChoice) := gd_V ml_Mod_163 im_Mod_readChoice se_Mod_readChoice ini_Mod cd_Mod_readChoice
def F_Mod_readStatement_189  (x1 : Int32) (o0 : Ob) : Option (Ob) :=
  chk (inb (1 : Int32) 2) (if (50 : Int32) ≤ (x1 + (1 : Int32)) then (chk (inb (49 : Int32) 50) (some (s32 (s32 o0 8 (Int32.toNatClampNeg (1 : Int32)) ((g32 o0 8 (Int32.toNatClampNeg (1 : Int32))) + (1 : Int32))) 9 (Int32.toNatClampNeg (49 : Int32)) (g32 o0 7 (Int32.toNatClampNeg (1 : Int32)))))) else (chk (inb (x1 + (1 : Int32)) 50) (some (s32 (s32 o0 8 (Int32.toNatClampNeg (1 : Int32)) ((g32 o0 8 (Int32.toNatClampNeg (1 : Int32))) + (1 : Int32))) 9 (Int32.toNatClampNeg (x1 + (1 : Int32))) (g32 o0 7 (Int32.toNatClampNeg (1 : Int32)))))))
def F_Mod_readStatement_143  (x1 : Int32) (x5 : Int32) (o0 : Ob) : Option (Ob) :=
  bind1 (F_Mod_readMark (61 : Int32) (s32 o0 3 0 ((g32 o0 3 0) + (1 : Int32)))) (fun o_39 => chk (inb x1 50) (if 0 ≤ (g32 o_39 4 0) then (F_Mod_readStatement_189 x1 (s32 o_39 10 (Int32.toNatClampNeg x1) x5)) else (bind1 (F_Mod_readChoice (s32 o_39 10 (Int32.toNatClampNeg x1) x5)) (fun o_43 => F_Mod_readStatement_189 x1 o_43))))
def F_Mod_readStatement_110  (x1 : Int32) (x2 : Int32) (x3 : Int32) (x4 : Int32) (o0 : Ob) : Option (Ob) :=
  if 0 ≤ (g32 o0 4 0) then (F_Mod_readStatement_143 x1 (((6 : Int32) * (x2 - (65 : Int32))) + x4) o0) else (bind1 (F_Mod_isDefined (((6 : Int32) * (x2 - (65 : Int32))) + x4) o0) (fun v34 => if (b2i v34) = 0 then (F_Mod_readStatement_143 x1 (((6 : Int32) * (x2 - (65 : Int32))) + x4) o0) else (bind1 (F_Mod_failAt x3 o0) (fun o_37 => F_Mod_readStatement_143 x1 (((6 : Int32) * (x2 - (65 : Int32))) + x4) o_37))))
def F_Mod_readStatement  (o0 : Ob) : Option (Ob) :=
  chk (inb (1 : Int32) 2) (bind1 (F_Mod_here o0) (fun v3 => chk (inb ((25 : Int32) + (g32 o0 8 (Int32.toNatClampNeg (1 : Int32)))) 50) (if v3 = (33 : Int32) then (bind1 (F_Mod_readExpression (s32 (s32 (s32 o0 9 (Int32.toNatClampNeg ((25 : Int32) + (g32 o0 8 (Int32.toNatClampNeg (1 : Int32))))) (g32 o0 7 (Int32.toNatClampNeg (1 : Int32)))) 10 (Int32.toNatClampNeg ((25 : Int32) + (g32 o0 8 (Int32.toNatClampNeg (1 : Int32))))) (-1 : Int32)) 3 0 ((g32 o0 3 0) + (1 : Int32)))) (fun o_22 => bind1 (F_Mod_readCompare o_22) (fun o_24 => F_Mod_readStatement_189 ((25 : Int32) + (g32 o0 8 (Int32.toNatClampNeg (1 : Int32)))) o_24))) else (if v3 < (65 : Int32) then (bind1 (F_Mod_failAt (g32 o0 3 0) (s32 (s32 o0 9 (Int32.toNatClampNeg ((25 : Int32) + (g32 o0 8 (Int32.toNatClampNeg (1 : Int32))))) (g32 o0 7 (Int32.toNatClampNeg (1 : Int32)))) 10 (Int32.toNatClampNeg ((25 : Int32) + (g32 o0 8 (Int32.toNatClampNeg (1 : Int32))))) (-1 : Int32))) (fun o_10 => F_Mod_readStatement_189 ((25 : Int32) + (g32 o0 8 (Int32.toNatClampNeg (1 : Int32)))) o_10)) else (if (74 : Int32) < v3 then (bind1 (F_Mod_failAt (g32 o0 3 0) (s32 (s32 o0 9 (Int32.toNatClampNeg ((25 : Int32) + (g32 o0 8 (Int32.toNatClampNeg (1 : Int32))))) (g32 o0 7 (Int32.toNatClampNeg (1 : Int32)))) 10 (Int32.toNatClampNeg ((25 : Int32) + (g32 o0 8 (Int32.toNatClampNeg (1 : Int32))))) (-1 : Int32))) (fun o_13 => F_Mod_readStatement_189 ((25 : Int32) + (g32 o0 8 (Int32.toNatClampNeg (1 : Int32)))) o_13)) else (bind1 (F_Mod_here (s32 (s32 (s32 o0 9 (Int32.toNatClampNeg ((25 : Int32) + (g32 o0 8 (Int32.toNatClampNeg (1 : Int32))))) (g32 o0 7 (Int32.toNatClampNeg (1 : Int32)))) 10 (Int32.toNatClampNeg ((25 : Int32) + (g32 o0 8 (Int32.toNatClampNeg (1 : Int32))))) (-1 : Int32)) 3 0 ((g32 o0 3 0) + (1 : Int32)))) (fun v15 => bind1 (F_Mod_measureOf v15) (fun v17 => if 0 ≤ v17 then (F_Mod_readStatement_110 ((25 : Int32) + (g32 o0 8 (Int32.toNatClampNeg (1 : Int32)))) v3 (g32 o0 3 0) v17 (s32 (s32 (s32 o0 9 (Int32.toNatClampNeg ((25 : Int32) + (g32 o0 8 (Int32.toNatClampNeg (1 : Int32))))) (g32 o0 7 (Int32.toNatClampNeg (1 : Int32)))) 10 (Int32.toNatClampNeg ((25 : Int32) + (g32 o0 8 (Int32.toNatClampNeg (1 : Int32))))) (-1 : Int32)) 3 0 ((g32 o0 3 0) + (1 : Int32)))) else (bind1 (F_Mod_failAt ((g32 o0 3 0) + (1 : Int32)) (s32 (s32 (s32 o0 9 (Int32.toNatClampNeg ((25 : Int32) + (g32 o0 8 (Int32.toNatClampNeg (1 : Int32))))) (g32 o0 7 (Int32.toNatClampNeg (1 : Int32)))) 10 (Int32.toNatClampNeg ((25 : Int32) + (g32 o0 8 (Int32.toNatClampNeg (1 : Int32))))) (-1 : Int32)) 3 0 ((g32 o0 3 0) + (1 : Int32)))) (fun o_20 => F_Mod_readStatement_110 ((25 : Int32) + (g32 o0 8 (Int32.toNatClampNeg (1 : Int32)))) v3 (g32 o0 3 0) v17 o_20))))))))))
abbrev ws_Mod_readStatement : List Cond := Cond.code y_Mod_readStatement b_Mod_readStatement 6 (none : Option Jvm.ClassFile.FieldType) :: wsAll
abbrev rm_Mod_readStatement : Room := { frames := 8, cells := 0, slots := 0, locals := 173 }
set_option maxHeartbeats 4000000 in
set_option maxRecDepth 100000 in
theorem k_Mod_readStatement_189 {p : Program} {l : Launch} {e : Env} {s : State} {m : MethodId} {args : Array Value} {below : List Frame} {meth : Method} {c : Code} {A : Nat → Prop} {ct dC : Nat → ClassId} {dI : Nat → Nat → Nat} {a0 : Nat → Nat}  {n0 : Ob}   (C0 : cx wsAll vwCl nx p s m args meth c (dC, dI) (tyA ct) b_Mod_readStatement 6 (none : Option Jvm.ClassFile.FieldType) R_Mod A [adMod a0])  : ∀ (x1 : Int32) (o0 : Ob) (H : Heap) (locs : List Loc) (ls : Array Slot), bw_P (dC, dI) vwCl [wMod ct a0 o0] H → va_S A s.heap H locs → lv_has ls 6 [(0, .ref (a0 0)), (1, .int x1)] → F_Mod_readStatement_189 x1 o0 = some n0 → W p l e (headSpec ws_Mod_readStatement rm_Mod_readStatement).room s m args below meth c H locs 0 0 (MQ below (bw_Q (dC, dI) vwCl none [wMod ct a0 n0] A) args s 0 0 A) (F0 m 189 ls []) := by
  obtain ⟨hx, hb, hr, hml, hown, hlocks, hts, hK, hN, hA, hnx⟩ := id C0
  intro x1 o0 H locs ls hP hS hl h
  rw [F_Mod_readStatement_189] at h
  refine lv_aload_n hx hb d_Mod_readStatement_189 rfl (lv_at hl 0 rfl) ?_
  refine va_get (D := (dC, dI)) (ci := 6) (v := .ref (a0 5)) (C := R_Mod) (T := T_Mod) (N := 36) hx hb hts in_Mod hown hK (hP 0 _ rfl) 0 rfl rfl 8 (by decide) (hts _ fl_Mod_22) (fun _ h9 => h9) rfl d_Mod_readStatement_190 ?_
  refine lv_iconst (v := 1) hx hb d_Mod_readStatement_193 (by decide) ?_
  refine lv_dup2_11 hx hb d_Mod_readStatement_194 rfl rfl ?_
  obtain ⟨hi25, h⟩ := chk_some h
  refine va_iald (f := g32 o0 8) hx hb hK (hP 0 _ rfl) 5 0 rfl rfl (inb_in hi25) d_Mod_readStatement_195 ?_
  refine lv_iconst (v := 1) hx hb d_Mod_readStatement_196 (by decide) ?_
  refine lv_iadd hx hb d_Mod_readStatement_197 ?_
  refine st_Mod_8 hx hb hK hP hN hS 0 rfl (inb_in hi25) d_Mod_readStatement_198 (fun H locs hP hS => ?_)
  have hP : bw_P (dC, dI) vwCl [wMod ct a0 (s32 o0 8 (Int32.toNatClampNeg (1 : Int32)) ((g32 o0 8 (Int32.toNatClampNeg (1 : Int32))) + (1 : Int32)))] H := hP
  refine lv_aload_n hx hb d_Mod_readStatement_199 rfl (lv_at hl 0 rfl) ?_
  refine va_get (D := (dC, dI)) (ci := 6) (v := .ref (a0 6)) (C := R_Mod) (T := T_Mod) (N := 36) hx hb hts in_Mod hown hK (hP 0 _ rfl) 0 rfl rfl 9 (by decide) (hts _ fl_Mod_25) (fun _ h9 => h9) rfl d_Mod_readStatement_200 ?_
  refine lv_iload_n hx hb d_Mod_readStatement_203 rfl (lv_at hl 1 rfl) ?_
  refine lv_iconst (v := 1) hx hb d_Mod_readStatement_204 (by decide) ?_
  refine lv_iadd hx hb d_Mod_readStatement_205 ?_
  refine lv_bipush (v := 50) hx hb d_Mod_readStatement_206 (by decide) ?_
  refine lv_icmp_ge (tgt := 217) hx hb d_Mod_readStatement_208 (by decide) (fun c27 => ?_) (fun c27 => ?_)
  · have h := ite_t c27 h
    refine lv_bipush (v := 49) hx hb d_Mod_readStatement_217 (by decide) ?_
    refine lv_aload_n hx hb d_Mod_readStatement_219 rfl (lv_at hl 0 rfl) ?_
    refine va_get (D := (dC, dI)) (ci := 6) (v := .ref (a0 4)) (C := R_Mod) (T := T_Mod) (N := 36) hx hb hts in_Mod hown hK (hP 0 _ rfl) 0 rfl rfl 7 (by decide) (hts _ fl_Mod_19) (fun _ h9 => h9) rfl d_Mod_readStatement_220 ?_
    refine lv_iconst (v := 1) hx hb d_Mod_readStatement_223 (by decide) ?_
    refine va_iald (f := g32 o0 7) hx hb hK (hP 0 _ rfl) 4 0 rfl rfl (inb_in hi25) d_Mod_readStatement_224 ?_
    obtain ⟨hi29, h⟩ := chk_some h
    refine st_Mod_9 hx hb hK hP hN hS 0 rfl (inb_in hi29) d_Mod_readStatement_225 (fun H locs hP hS => ?_)
    have hP : bw_P (dC, dI) vwCl [wMod ct a0 (s32 (s32 o0 8 (Int32.toNatClampNeg (1 : Int32)) ((g32 o0 8 (Int32.toNatClampNeg (1 : Int32))) + (1 : Int32))) 9 (Int32.toNatClampNeg (49 : Int32)) (g32 o0 7 (Int32.toNatClampNeg (1 : Int32))))] H := hP
    obtain rfl := res1 h
    exact W.vret hx hb hr (fun t ht hW => ⟨rfl, by rw [ht]; exact hP, hS.F ht⟩) hS.2.2 d_Mod_readStatement_226
  · have h := ite_f c27 h
    refine lv_iload_n hx hb d_Mod_readStatement_211 rfl (lv_at hl 1 rfl) ?_
    refine lv_iconst (v := 1) hx hb d_Mod_readStatement_212 (by decide) ?_
    refine lv_iadd hx hb d_Mod_readStatement_213 ?_
    refine lv_goto (tgt := 219) hx hb d_Mod_readStatement_214 (by decide) ?_
    refine lv_aload_n hx hb d_Mod_readStatement_219 rfl (lv_at hl 0 rfl) ?_
    refine va_get (D := (dC, dI)) (ci := 6) (v := .ref (a0 4)) (C := R_Mod) (T := T_Mod) (N := 36) hx hb hts in_Mod hown hK (hP 0 _ rfl) 0 rfl rfl 7 (by decide) (hts _ fl_Mod_19) (fun _ h9 => h9) rfl d_Mod_readStatement_220 ?_
    refine lv_iconst (v := 1) hx hb d_Mod_readStatement_223 (by decide) ?_
    refine va_iald (f := g32 o0 7) hx hb hK (hP 0 _ rfl) 4 0 rfl rfl (inb_in hi25) d_Mod_readStatement_224 ?_
    obtain ⟨hi31, h⟩ := chk_some h
    refine st_Mod_9 hx hb hK hP hN hS 0 rfl (inb_in hi31) d_Mod_readStatement_225 (fun H locs hP hS => ?_)
    have hP : bw_P (dC, dI) vwCl [wMod ct a0 (s32 (s32 o0 8 (Int32.toNatClampNeg (1 : Int32)) ((g32 o0 8 (Int32.toNatClampNeg (1 : Int32))) + (1 : Int32))) 9 (Int32.toNatClampNeg (x1 + (1 : Int32))) (g32 o0 7 (Int32.toNatClampNeg (1 : Int32))))] H := hP
    obtain rfl := res1 h
    exact W.vret hx hb hr (fun t ht hW => ⟨rfl, by rw [ht]; exact hP, hS.F ht⟩) hS.2.2 d_Mod_readStatement_226
set_option maxHeartbeats 4000000 in
set_option maxRecDepth 100000 in
theorem k_Mod_readStatement_143 {p : Program} {l : Launch} {e : Env} {s : State} {m : MethodId} {args : Array Value} {below : List Frame} {meth : Method} {c : Code} {A : Nat → Prop} {ct dC : Nat → ClassId} {dI : Nat → Nat → Nat} {a0 : Nat → Nat}  {n0 : Ob}   (C0 : cx wsAll vwCl nx p s m args meth c (dC, dI) (tyA ct) b_Mod_readStatement 6 (none : Option Jvm.ClassFile.FieldType) R_Mod A [adMod a0])  : ∀ (x1 : Int32) (x5 : Int32) (o0 : Ob) (H : Heap) (locs : List Loc) (ls : Array Slot), bw_P (dC, dI) vwCl [wMod ct a0 o0] H → va_S A s.heap H locs → lv_has ls 6 [(0, .ref (a0 0)), (1, .int x1), (5, .int x5)] → F_Mod_readStatement_143 x1 x5 o0 = some n0 → W p l e (headSpec ws_Mod_readStatement rm_Mod_readStatement).room s m args below meth c H locs 0 0 (MQ below (bw_Q (dC, dI) vwCl none [wMod ct a0 n0] A) args s 0 0 A) (F0 m 143 ls []) := by
  obtain ⟨hx, hb, hr, hml, hown, hlocks, hts, hK, hN, hA, hnx⟩ := id C0
  intro x1 x5 o0 H locs ls hP hS hl h
  rw [F_Mod_readStatement_143] at h
  refine lv_aload_n hx hb d_Mod_readStatement_143 rfl (lv_at hl 0 rfl) ?_
  refine lv_dup hx hb d_Mod_readStatement_144 rfl ?_
  refine va_get (D := (dC, dI)) (ci := 6) (v := .int (g32 o0 3 0)) (C := R_Mod) (T := T_Mod) (N := 36) hx hb hts in_Mod hown hK (hP 0 _ rfl) 0 rfl rfl 3 (by decide) (hts _ fl_Mod_91) (fun _ h9 => h9) rfl d_Mod_readStatement_145 ?_
  refine lv_iconst (v := 1) hx hb d_Mod_readStatement_148 (by decide) ?_
  refine lv_iadd hx hb d_Mod_readStatement_149 ?_
  refine pt_Mod_3 hx hb hts hown hK hP hN hS 0 rfl (hts _ fl_Mod_91) d_Mod_readStatement_150 (fun H locs hP hS => ?_)
  have hP : bw_P (dC, dI) vwCl [wMod ct a0 (s32 o0 3 0 ((g32 o0 3 0) + (1 : Int32)))] H := hP
  refine lv_aload_n hx hb d_Mod_readStatement_153 rfl (lv_at hl 0 rfl) ?_
  refine lv_bipush (v := 61) hx hb d_Mod_readStatement_154 (by decide) ?_
  obtain ⟨o_39, hG38, h⟩ := bind1_some h
  refine bw_call (Lc := [wMod ct a0 (s32 o0 3 0 ((g32 o0 3 0) + (1 : Int32)))]) (Lc' := [wMod ct a0 o_39]) (L' := [wMod ct a0 o_39]) [0] (va_runV (As := [.int (61 : Int32)]) (rest := []) ⟨hx, hb, hml, hown, hts⟩ (c_Mod_readMark l ct dC dI a0 _ (61 : Int32) (s32 o0 3 0 ((g32 o0 3 0) + (1 : Int32))) o_39 hG38) (cwV 1 hts g_Mod_157 rfl rfl rfl (by decide +kernel) ⟨Nat.le_of_ble_eq_true rfl, Nat.le_of_ble_eq_true rfl⟩) ⟨bw_blind nx_call, va_recv hK (hP 0 _ rfl) (ci := 6) (q0 := 0) rfl rfl, fun U hU hW => ⟨rfl, by rw [hU], by rw [hU]; exact hP.sub [0] rfl, va_K.moved hW.alike hK, (hN.sub [0] (by decide) rfl).weaken (fun _ _ => trivial), nx_warm hW hnx⟩⟩ rfl rfl hl.1 rfl (Nat.le_of_ble_eq_true rfl) d_Mod_readStatement_156 ⟨Nat.le_of_ble_eq_true rfl, Nat.le_of_ble_eq_true rfl⟩) hP hN hS hA rfl rfl rfl (fun H locs hP hS => ?_)
  refine lv_aload_n hx hb d_Mod_readStatement_159 rfl (lv_at hl 0 rfl) ?_
  refine va_get (D := (dC, dI)) (ci := 6) (v := .ref (a0 7)) (C := R_Mod) (T := T_Mod) (N := 36) hx hb hts in_Mod hown hK (hP 0 _ rfl) 0 rfl rfl 10 (by decide) (hts _ fl_Mod_28) (fun _ h9 => h9) rfl d_Mod_readStatement_160 ?_
  refine lv_iload_n hx hb d_Mod_readStatement_163 rfl (lv_at hl 1 rfl) ?_
  refine lv_iload hx hb d_Mod_readStatement_164 (lv_at hl 2 rfl) ?_
  obtain ⟨hi40, h⟩ := chk_some h
  refine st_Mod_10 hx hb hK hP hN hS 0 rfl (inb_in hi40) d_Mod_readStatement_166 (fun H locs hP hS => ?_)
  have hP : bw_P (dC, dI) vwCl [wMod ct a0 (s32 o_39 10 (Int32.toNatClampNeg x1) x5)] H := hP
  refine lv_aload_n hx hb d_Mod_readStatement_167 rfl (lv_at hl 0 rfl) ?_
  refine va_get (D := (dC, dI)) (ci := 6) (v := .int (g32 o_39 4 0)) (C := R_Mod) (T := T_Mod) (N := 36) hx hb hts in_Mod hown hK (hP 0 _ rfl) 0 rfl rfl 4 (by decide) (hts _ fl_Mod_94) (fun _ h9 => h9) rfl d_Mod_readStatement_168 ?_
  refine lv_if_ge (tgt := 178) hx hb d_Mod_readStatement_171 (by decide) (fun c41 => ?_) (fun c41 => ?_)
  · have h := ite_t c41 h
    refine lv_goto (tgt := 189) hx hb d_Mod_readStatement_178 (by decide) ?_
    exact k_Mod_readStatement_189 C0 x1 (s32 o_39 10 (Int32.toNatClampNeg x1) x5) _ _ _ hP hS (lv_sub hl [0, 1] rfl) h
  · have h := ite_f c41 h
    refine lv_aload_n hx hb d_Mod_readStatement_174 rfl (lv_at hl 0 rfl) ?_
    obtain ⟨o_43, hG42, h⟩ := bind1_some h
    refine bw_call (Lc := [wMod ct a0 (s32 o_39 10 (Int32.toNatClampNeg x1) x5)]) (Lc' := [wMod ct a0 o_43]) (L' := [wMod ct a0 o_43]) [0] (va_runV (As := []) (rest := []) ⟨hx, hb, hml, hown, hts⟩ (c_Mod_readChoice l ct dC dI a0 _ (s32 o_39 10 (Int32.toNatClampNeg x1) x5) o_43 hG42) (cwV 0 hts g_Mod_163 rfl rfl rfl (by decide +kernel) ⟨Nat.le_of_ble_eq_true rfl, Nat.le_of_ble_eq_true rfl⟩) ⟨bw_blind nx_call, va_recv hK (hP 0 _ rfl) (ci := 6) (q0 := 0) rfl rfl, fun U hU hW => ⟨rfl, by rw [hU], by rw [hU]; exact hP.sub [0] rfl, va_K.moved hW.alike hK, (hN.sub [0] (by decide) rfl).weaken (fun _ _ => trivial), nx_warm hW hnx⟩⟩ rfl rfl hl.1 rfl (Nat.le_of_ble_eq_true rfl) d_Mod_readStatement_175 ⟨Nat.le_of_ble_eq_true rfl, Nat.le_of_ble_eq_true rfl⟩) hP hN hS hA rfl rfl rfl (fun H locs hP hS => ?_)
    refine lv_goto (tgt := 189) hx hb d_Mod_readStatement_178 (by decide) ?_
    exact k_Mod_readStatement_189 C0 x1 o_43 _ _ _ hP hS (lv_sub hl [0, 1] rfl) h
set_option maxHeartbeats 4000000 in
set_option maxRecDepth 100000 in
theorem k_Mod_readStatement_110 {p : Program} {l : Launch} {e : Env} {s : State} {m : MethodId} {args : Array Value} {below : List Frame} {meth : Method} {c : Code} {A : Nat → Prop} {ct dC : Nat → ClassId} {dI : Nat → Nat → Nat} {a0 : Nat → Nat}  {n0 : Ob}   (C0 : cx wsAll vwCl nx p s m args meth c (dC, dI) (tyA ct) b_Mod_readStatement 6 (none : Option Jvm.ClassFile.FieldType) R_Mod A [adMod a0])  : ∀ (x1 : Int32) (x2 : Int32) (x3 : Int32) (x4 : Int32) (o0 : Ob) (H : Heap) (locs : List Loc) (ls : Array Slot), bw_P (dC, dI) vwCl [wMod ct a0 o0] H → va_S A s.heap H locs → lv_has ls 6 [(0, .ref (a0 0)), (1, .int x1), (2, .int x2), (3, .int x3), (4, .int x4)] → F_Mod_readStatement_110 x1 x2 x3 x4 o0 = some n0 → W p l e (headSpec ws_Mod_readStatement rm_Mod_readStatement).room s m args below meth c H locs 0 0 (MQ below (bw_Q (dC, dI) vwCl none [wMod ct a0 n0] A) args s 0 0 A) (F0 m 110 ls []) := by
  obtain ⟨hx, hb, hr, hml, hown, hlocks, hts, hK, hN, hA, hnx⟩ := id C0
  intro x1 x2 x3 x4 o0 H locs ls hP hS hl h
  rw [F_Mod_readStatement_110] at h
  refine lv_bipush (v := 6) hx hb d_Mod_readStatement_110 (by decide) ?_
  refine lv_iload_n hx hb d_Mod_readStatement_112 rfl (lv_at hl 2 rfl) ?_
  refine lv_bipush (v := 65) hx hb d_Mod_readStatement_113 (by decide) ?_
  refine lv_isub hx hb d_Mod_readStatement_115 ?_
  refine lv_imul hx hb d_Mod_readStatement_116 ?_
  refine lv_iload hx hb d_Mod_readStatement_117 (lv_at hl 4 rfl) ?_
  refine lv_iadd hx hb d_Mod_readStatement_119 ?_
  refine lv_istore (lv' := [(5, .int (((6 : Int32) * (x2 - (65 : Int32))) + x4)), (0, .ref (a0 0)), (1, .int x1), (2, .int x2), (3, .int x3), (4, .int x4)]) hx hb d_Mod_readStatement_120 hl (by decide) rfl (fun ls hl => ?_)
  refine lv_aload_n hx hb d_Mod_readStatement_122 rfl (lv_at hl 1 rfl) ?_
  refine va_get (D := (dC, dI)) (ci := 6) (v := .int (g32 o0 4 0)) (C := R_Mod) (T := T_Mod) (N := 36) hx hb hts in_Mod hown hK (hP 0 _ rfl) 0 rfl rfl 4 (by decide) (hts _ fl_Mod_94) (fun _ h9 => h9) rfl d_Mod_readStatement_123 ?_
  refine lv_if_ge (tgt := 143) hx hb d_Mod_readStatement_126 (by decide) (fun c32 => ?_) (fun c32 => ?_)
  · have h := ite_t c32 h
    exact k_Mod_readStatement_143 C0 x1 (((6 : Int32) * (x2 - (65 : Int32))) + x4) o0 _ _ _ hP hS (lv_sub hl [1, 2, 0] rfl) h
  · have h := ite_f c32 h
    refine lv_aload_n hx hb d_Mod_readStatement_129 rfl (lv_at hl 1 rfl) ?_
    refine lv_iload hx hb d_Mod_readStatement_130 (lv_at hl 0 rfl) ?_
    obtain ⟨v34, hG33, h⟩ := bind1_some h
    refine bw_callR (va_runV (As := [.int (((6 : Int32) * (x2 - (65 : Int32))) + x4)]) (rest := []) ⟨hx, hb, hml, hown, hts⟩ (c_Mod_isDefined l ct dC dI a0 _ (((6 : Int32) * (x2 - (65 : Int32))) + x4) o0 v34 hG33) (cwV 1 hts g_Mod_160 rfl rfl rfl (by decide +kernel) ⟨Nat.le_of_ble_eq_true rfl, Nat.le_of_ble_eq_true rfl⟩) ⟨bw_blind nx_call, va_recv hK (hP 0 _ rfl) (ci := 6) (q0 := 0) rfl rfl, fun U hU hW => ⟨rfl, by rw [hU], by rw [hU]; exact hP.sub [0] rfl, va_K.moved hW.alike hK, (hN.sub [0] (by decide) rfl).weaken (fun _ _ => trivial), nx_warm hW hnx⟩⟩ rfl rfl hl.1 rfl (Nat.le_of_ble_eq_true rfl) d_Mod_readStatement_132 ⟨Nat.le_of_ble_eq_true rfl, Nat.le_of_ble_eq_true rfl⟩) ?_
    refine lv_if_eq (tgt := 143) hx hb d_Mod_readStatement_135 (by decide) (fun c35 => ?_) (fun c35 => ?_)
    · have h := ite_t c35 h
      exact k_Mod_readStatement_143 C0 x1 (((6 : Int32) * (x2 - (65 : Int32))) + x4) o0 _ _ _ hP hS (lv_sub hl [1, 2, 0] rfl) h
    · have h := ite_f c35 h
      refine lv_aload_n hx hb d_Mod_readStatement_138 rfl (lv_at hl 1 rfl) ?_
      refine lv_iload_n hx hb d_Mod_readStatement_139 rfl (lv_at hl 4 rfl) ?_
      obtain ⟨o_37, hG36, h⟩ := bind1_some h
      refine bw_call (Lc := [wMod ct a0 o0]) (Lc' := [wMod ct a0 o_37]) (L' := [wMod ct a0 o_37]) [0] (va_runV (As := [.int x3]) (rest := []) ⟨hx, hb, hml, hown, hts⟩ (c_Mod_failAt l ct dC dI a0 _ x3 o0 o_37 hG36) (cwV 1 hts g_Mod_119 rfl rfl rfl (by decide +kernel) ⟨Nat.le_of_ble_eq_true rfl, Nat.le_of_ble_eq_true rfl⟩) ⟨bw_blind nx_call, va_recv hK (hP 0 _ rfl) (ci := 6) (q0 := 0) rfl rfl, fun U hU hW => ⟨rfl, by rw [hU], by rw [hU]; exact hP.sub [0] rfl, va_K.moved hW.alike hK, (hN.sub [0] (by decide) rfl).weaken (fun _ _ => trivial), nx_warm hW hnx⟩⟩ rfl rfl hl.1 rfl (Nat.le_of_ble_eq_true rfl) d_Mod_readStatement_140 ⟨Nat.le_of_ble_eq_true rfl, Nat.le_of_ble_eq_true rfl⟩) hP hN hS hA rfl rfl rfl (fun H locs hP hS => ?_)
      exact k_Mod_readStatement_143 C0 x1 (((6 : Int32) * (x2 - (65 : Int32))) + x4) o_37 _ _ _ hP hS (lv_sub hl [1, 2, 0] rfl) h
set_option maxHeartbeats 4000000 in
set_option maxRecDepth 100000 in
theorem c_Mod_readStatement (l : Launch) (ct dC : Nat → ClassId) (dI : Nat → Nat → Nat) (a0 : Nat → Nat)  (sz : Nat)  (o0 : Ob) (n0 : Ob) (hF : F_Mod_readStatement o0 = some n0) : Met l y_Mod_readStatement ws_Mod_readStatement rm_Mod_readStatement (bw_Pc [.ref (a0 0)] (dC, dI) vwCl (tyA ct) [wMod ct a0 o0] sz nx) (bw_Q (dC, dI) vwCl none [wMod ct a0 n0] (bw_A [adMod a0] sz)) 0 0 (bw_A [adMod a0] sz) := by
  refine Met.ofW (cc := b_Mod_readStatement) (maxL := 6) (ret := (none : Option Jvm.ClassFile.FieldType)) (by decide) rfl ?_
  intro p e s m args below meth c s₁ B hml hv
  obtain ⟨rfl, hsz, hP, hK, hN0, hnx⟩ := hv
  have hx := B.exec
  have hb := B.bytes
  have hr := B.returns
  have hts : ∀ w ∈ wsAll, w.before [.ref (a0 0)].toArray s = true := fun w h9 => atoms_spec (ws := ws_Mod_readStatement) B.pre w (List.mem_cons_of_mem _ h9)
  have hown : s.vm.findClass R_Mod = some m.cls := findClass_of_methodNamed B.named
  have hlocks := B.notSynchronized
  subst hsz
  have hN : bw_N (bw_A [adMod a0] s.heap.size) [adMod a0] := hN0.self s.heap.size
  generalize hAe : bw_A [adMod a0] s.heap.size = A at hN ⊢
  have hA : ∀ q : Nat, s.heap.size ≤ q → A q := fun q h => by rw [← hAe]; exact Or.inr h
  have hS : va_S A s.heap s.heap [] := va_S.rf
  have hl := lv_entry ([.ref (a0 0)]) (n := 6) (Nat.le_of_ble_eq_true rfl)
  rw [lg_entry_eq]
  generalize (lg_sl ([.ref (a0 0)]) ++ List.replicate (6 - (lg_sl ([.ref (a0 0)])).length) Slot.unset).toArray = ls at hl ⊢
  have hl : lv_has ls 6 [(0, .ref (a0 0))] := hl
  have C0 : cx wsAll vwCl nx p s m [.ref (a0 0)].toArray meth c (dC, dI) (tyA ct) b_Mod_readStatement 6 (none : Option Jvm.ClassFile.FieldType) R_Mod A [adMod a0] := ⟨hx, hb, hr, hml, hown, hlocks, hts, hK, hN, hA, hnx⟩
  have h := hF
  rw [F_Mod_readStatement] at h
  refine lv_bipush (v := 25) hx hb d_Mod_readStatement_0 (by decide) ?_
  refine lv_aload_n hx hb d_Mod_readStatement_2 rfl (lv_at hl 0 rfl) ?_
  refine va_get (D := (dC, dI)) (ci := 6) (v := .ref (a0 5)) (C := R_Mod) (T := T_Mod) (N := 36) hx hb hts in_Mod hown hK (hP 0 _ rfl) 0 rfl rfl 8 (by decide) (hts _ fl_Mod_22) (fun _ h9 => h9) rfl d_Mod_readStatement_3 ?_
  refine lv_iconst (v := 1) hx hb d_Mod_readStatement_6 (by decide) ?_
  obtain ⟨hi1, h⟩ := chk_some h
  refine va_iald (f := g32 o0 8) hx hb hK (hP 0 _ rfl) 5 0 rfl rfl (inb_in hi1) d_Mod_readStatement_7 ?_
  refine lv_iadd hx hb d_Mod_readStatement_8 ?_
  refine lv_istore_n (lv' := [(1, .int ((25 : Int32) + (g32 o0 8 (Int32.toNatClampNeg (1 : Int32))))), (0, .ref (a0 0))]) hx hb d_Mod_readStatement_9 rfl hl (by decide) rfl (fun ls hl => ?_)
  refine lv_aload_n hx hb d_Mod_readStatement_10 rfl (lv_at hl 1 rfl) ?_
  obtain ⟨v3, hG2, h⟩ := bind1_some h
  refine bw_callR (va_runV (As := []) (rest := []) ⟨hx, hb, hml, hown, hts⟩ (c_Mod_here l ct dC dI a0 _ o0 v3 hG2) (cwV 0 hts g_Mod_111 rfl rfl rfl (by decide +kernel) ⟨Nat.le_of_ble_eq_true rfl, Nat.le_of_ble_eq_true rfl⟩) ⟨bw_blind nx_call, va_recv hK (hP 0 _ rfl) (ci := 6) (q0 := 0) rfl rfl, fun U hU hW => ⟨rfl, by rw [hU], by rw [hU]; exact hP.sub [0] rfl, va_K.moved hW.alike hK, (hN.sub [0] (by decide) rfl).weaken (fun _ _ => trivial), nx_warm hW hnx⟩⟩ rfl rfl hl.1 rfl (Nat.le_of_ble_eq_true rfl) d_Mod_readStatement_11 ⟨Nat.le_of_ble_eq_true rfl, Nat.le_of_ble_eq_true rfl⟩) ?_
  refine lv_istore_n (lv' := [(2, .int v3), (1, .int ((25 : Int32) + (g32 o0 8 (Int32.toNatClampNeg (1 : Int32))))), (0, .ref (a0 0))]) hx hb d_Mod_readStatement_14 rfl hl (by decide) rfl (fun ls hl => ?_)
  refine lv_aload_n hx hb d_Mod_readStatement_15 rfl (lv_at hl 2 rfl) ?_
  refine va_get (D := (dC, dI)) (ci := 6) (v := .ref (a0 6)) (C := R_Mod) (T := T_Mod) (N := 36) hx hb hts in_Mod hown hK (hP 0 _ rfl) 0 rfl rfl 9 (by decide) (hts _ fl_Mod_25) (fun _ h9 => h9) rfl d_Mod_readStatement_16 ?_
  refine lv_iload_n hx hb d_Mod_readStatement_19 rfl (lv_at hl 1 rfl) ?_
  refine lv_aload_n hx hb d_Mod_readStatement_20 rfl (lv_at hl 2 rfl) ?_
  refine va_get (D := (dC, dI)) (ci := 6) (v := .ref (a0 4)) (C := R_Mod) (T := T_Mod) (N := 36) hx hb hts in_Mod hown hK (hP 0 _ rfl) 0 rfl rfl 7 (by decide) (hts _ fl_Mod_19) (fun _ h9 => h9) rfl d_Mod_readStatement_21 ?_
  refine lv_iconst (v := 1) hx hb d_Mod_readStatement_24 (by decide) ?_
  refine va_iald (f := g32 o0 7) hx hb hK (hP 0 _ rfl) 4 0 rfl rfl (inb_in hi1) d_Mod_readStatement_25 ?_
  obtain ⟨hi5, h⟩ := chk_some h
  refine st_Mod_9 hx hb hK hP hN hS 0 rfl (inb_in hi5) d_Mod_readStatement_26 (fun H locs hP hS => ?_)
  have hP : bw_P (dC, dI) vwCl [wMod ct a0 (s32 o0 9 (Int32.toNatClampNeg ((25 : Int32) + (g32 o0 8 (Int32.toNatClampNeg (1 : Int32))))) (g32 o0 7 (Int32.toNatClampNeg (1 : Int32))))] H := hP
  refine lv_aload_n hx hb d_Mod_readStatement_27 rfl (lv_at hl 2 rfl) ?_
  refine va_get (D := (dC, dI)) (ci := 6) (v := .ref (a0 7)) (C := R_Mod) (T := T_Mod) (N := 36) hx hb hts in_Mod hown hK (hP 0 _ rfl) 0 rfl rfl 10 (by decide) (hts _ fl_Mod_28) (fun _ h9 => h9) rfl d_Mod_readStatement_28 ?_
  refine lv_iload_n hx hb d_Mod_readStatement_31 rfl (lv_at hl 1 rfl) ?_
  refine lv_iconst (v := -1) hx hb d_Mod_readStatement_32 (by decide) ?_
  refine st_Mod_10 hx hb hK hP hN hS 0 rfl (inb_in hi5) d_Mod_readStatement_33 (fun H locs hP hS => ?_)
  have hP : bw_P (dC, dI) vwCl [wMod ct a0 (s32 (s32 o0 9 (Int32.toNatClampNeg ((25 : Int32) + (g32 o0 8 (Int32.toNatClampNeg (1 : Int32))))) (g32 o0 7 (Int32.toNatClampNeg (1 : Int32)))) 10 (Int32.toNatClampNeg ((25 : Int32) + (g32 o0 8 (Int32.toNatClampNeg (1 : Int32))))) (-1 : Int32))] H := hP
  refine lv_iload_n hx hb d_Mod_readStatement_34 rfl (lv_at hl 0 rfl) ?_
  refine lv_bipush (v := 33) hx hb d_Mod_readStatement_35 (by decide) ?_
  refine lv_icmp_ne (tgt := 61) hx hb d_Mod_readStatement_37 (by decide) (fun c7 => ?_) (fun c7 => ?_)
  · have h := ite_f c7 h
    refine lv_iload_n hx hb d_Mod_readStatement_61 rfl (lv_at hl 0 rfl) ?_
    refine lv_bipush (v := 65) hx hb d_Mod_readStatement_62 (by decide) ?_
    refine lv_icmp_lt (tgt := 181) hx hb d_Mod_readStatement_64 (by decide) (fun c8 => ?_) (fun c8 => ?_)
    · have h := ite_t c8 h
      refine lv_aload_n hx hb d_Mod_readStatement_181 rfl (lv_at hl 2 rfl) ?_
      refine lv_aload_n hx hb d_Mod_readStatement_182 rfl (lv_at hl 2 rfl) ?_
      refine va_get (D := (dC, dI)) (ci := 6) (v := .int (g32 o0 3 0)) (C := R_Mod) (T := T_Mod) (N := 36) hx hb hts in_Mod hown hK (hP 0 _ rfl) 0 rfl rfl 3 (by decide) (hts _ fl_Mod_91) (fun _ h9 => h9) rfl d_Mod_readStatement_183 ?_
      obtain ⟨o_10, hG9, h⟩ := bind1_some h
      refine bw_call (Lc := [wMod ct a0 (s32 (s32 o0 9 (Int32.toNatClampNeg ((25 : Int32) + (g32 o0 8 (Int32.toNatClampNeg (1 : Int32))))) (g32 o0 7 (Int32.toNatClampNeg (1 : Int32)))) 10 (Int32.toNatClampNeg ((25 : Int32) + (g32 o0 8 (Int32.toNatClampNeg (1 : Int32))))) (-1 : Int32))]) (Lc' := [wMod ct a0 o_10]) (L' := [wMod ct a0 o_10]) [0] (va_runV (As := [.int (g32 o0 3 0)]) (rest := []) ⟨hx, hb, hml, hown, hts⟩ (c_Mod_failAt l ct dC dI a0 _ (g32 o0 3 0) (s32 (s32 o0 9 (Int32.toNatClampNeg ((25 : Int32) + (g32 o0 8 (Int32.toNatClampNeg (1 : Int32))))) (g32 o0 7 (Int32.toNatClampNeg (1 : Int32)))) 10 (Int32.toNatClampNeg ((25 : Int32) + (g32 o0 8 (Int32.toNatClampNeg (1 : Int32))))) (-1 : Int32)) o_10 hG9) (cwV 1 hts g_Mod_119 rfl rfl rfl (by decide +kernel) ⟨Nat.le_of_ble_eq_true rfl, Nat.le_of_ble_eq_true rfl⟩) ⟨bw_blind nx_call, va_recv hK (hP 0 _ rfl) (ci := 6) (q0 := 0) rfl rfl, fun U hU hW => ⟨rfl, by rw [hU], by rw [hU]; exact hP.sub [0] rfl, va_K.moved hW.alike hK, (hN.sub [0] (by decide) rfl).weaken (fun _ _ => trivial), nx_warm hW hnx⟩⟩ rfl rfl hl.1 rfl (Nat.le_of_ble_eq_true rfl) d_Mod_readStatement_186 ⟨Nat.le_of_ble_eq_true rfl, Nat.le_of_ble_eq_true rfl⟩) hP hN hS hA rfl rfl rfl (fun H locs hP hS => ?_)
      exact k_Mod_readStatement_189 C0 ((25 : Int32) + (g32 o0 8 (Int32.toNatClampNeg (1 : Int32)))) o_10 _ _ _ hP hS (lv_sub hl [2, 1] rfl) h
    · have h := ite_f c8 h
      refine lv_iload_n hx hb d_Mod_readStatement_67 rfl (lv_at hl 0 rfl) ?_
      refine lv_bipush (v := 74) hx hb d_Mod_readStatement_68 (by decide) ?_
      refine lv_icmp_gt (tgt := 181) hx hb d_Mod_readStatement_70 (by decide) (fun c11 => ?_) (fun c11 => ?_)
      · have h := ite_t c11 h
        refine lv_aload_n hx hb d_Mod_readStatement_181 rfl (lv_at hl 2 rfl) ?_
        refine lv_aload_n hx hb d_Mod_readStatement_182 rfl (lv_at hl 2 rfl) ?_
        refine va_get (D := (dC, dI)) (ci := 6) (v := .int (g32 o0 3 0)) (C := R_Mod) (T := T_Mod) (N := 36) hx hb hts in_Mod hown hK (hP 0 _ rfl) 0 rfl rfl 3 (by decide) (hts _ fl_Mod_91) (fun _ h9 => h9) rfl d_Mod_readStatement_183 ?_
        obtain ⟨o_13, hG12, h⟩ := bind1_some h
        refine bw_call (Lc := [wMod ct a0 (s32 (s32 o0 9 (Int32.toNatClampNeg ((25 : Int32) + (g32 o0 8 (Int32.toNatClampNeg (1 : Int32))))) (g32 o0 7 (Int32.toNatClampNeg (1 : Int32)))) 10 (Int32.toNatClampNeg ((25 : Int32) + (g32 o0 8 (Int32.toNatClampNeg (1 : Int32))))) (-1 : Int32))]) (Lc' := [wMod ct a0 o_13]) (L' := [wMod ct a0 o_13]) [0] (va_runV (As := [.int (g32 o0 3 0)]) (rest := []) ⟨hx, hb, hml, hown, hts⟩ (c_Mod_failAt l ct dC dI a0 _ (g32 o0 3 0) (s32 (s32 o0 9 (Int32.toNatClampNeg ((25 : Int32) + (g32 o0 8 (Int32.toNatClampNeg (1 : Int32))))) (g32 o0 7 (Int32.toNatClampNeg (1 : Int32)))) 10 (Int32.toNatClampNeg ((25 : Int32) + (g32 o0 8 (Int32.toNatClampNeg (1 : Int32))))) (-1 : Int32)) o_13 hG12) (cwV 1 hts g_Mod_119 rfl rfl rfl (by decide +kernel) ⟨Nat.le_of_ble_eq_true rfl, Nat.le_of_ble_eq_true rfl⟩) ⟨bw_blind nx_call, va_recv hK (hP 0 _ rfl) (ci := 6) (q0 := 0) rfl rfl, fun U hU hW => ⟨rfl, by rw [hU], by rw [hU]; exact hP.sub [0] rfl, va_K.moved hW.alike hK, (hN.sub [0] (by decide) rfl).weaken (fun _ _ => trivial), nx_warm hW hnx⟩⟩ rfl rfl hl.1 rfl (Nat.le_of_ble_eq_true rfl) d_Mod_readStatement_186 ⟨Nat.le_of_ble_eq_true rfl, Nat.le_of_ble_eq_true rfl⟩) hP hN hS hA rfl rfl rfl (fun H locs hP hS => ?_)
        exact k_Mod_readStatement_189 C0 ((25 : Int32) + (g32 o0 8 (Int32.toNatClampNeg (1 : Int32)))) o_13 _ _ _ hP hS (lv_sub hl [2, 1] rfl) h
      · have h := ite_f c11 h
        refine lv_aload_n hx hb d_Mod_readStatement_73 rfl (lv_at hl 2 rfl) ?_
        refine va_get (D := (dC, dI)) (ci := 6) (v := .int (g32 o0 3 0)) (C := R_Mod) (T := T_Mod) (N := 36) hx hb hts in_Mod hown hK (hP 0 _ rfl) 0 rfl rfl 3 (by decide) (hts _ fl_Mod_91) (fun _ h9 => h9) rfl d_Mod_readStatement_74 ?_
        refine lv_istore_n (lv' := [(3, .int (g32 o0 3 0)), (2, .int v3), (1, .int ((25 : Int32) + (g32 o0 8 (Int32.toNatClampNeg (1 : Int32))))), (0, .ref (a0 0))]) hx hb d_Mod_readStatement_77 rfl hl (by decide) rfl (fun ls hl => ?_)
        refine lv_aload_n hx hb d_Mod_readStatement_78 rfl (lv_at hl 3 rfl) ?_
        refine lv_dup hx hb d_Mod_readStatement_79 rfl ?_
        refine va_get (D := (dC, dI)) (ci := 6) (v := .int (g32 o0 3 0)) (C := R_Mod) (T := T_Mod) (N := 36) hx hb hts in_Mod hown hK (hP 0 _ rfl) 0 rfl rfl 3 (by decide) (hts _ fl_Mod_91) (fun _ h9 => h9) rfl d_Mod_readStatement_80 ?_
        refine lv_iconst (v := 1) hx hb d_Mod_readStatement_83 (by decide) ?_
        refine lv_iadd hx hb d_Mod_readStatement_84 ?_
        refine pt_Mod_3 hx hb hts hown hK hP hN hS 0 rfl (hts _ fl_Mod_91) d_Mod_readStatement_85 (fun H locs hP hS => ?_)
        have hP : bw_P (dC, dI) vwCl [wMod ct a0 (s32 (s32 (s32 o0 9 (Int32.toNatClampNeg ((25 : Int32) + (g32 o0 8 (Int32.toNatClampNeg (1 : Int32))))) (g32 o0 7 (Int32.toNatClampNeg (1 : Int32)))) 10 (Int32.toNatClampNeg ((25 : Int32) + (g32 o0 8 (Int32.toNatClampNeg (1 : Int32))))) (-1 : Int32)) 3 0 ((g32 o0 3 0) + (1 : Int32)))] H := hP
        refine lv_aload_n hx hb d_Mod_readStatement_88 rfl (lv_at hl 3 rfl) ?_
        obtain ⟨v15, hG14, h⟩ := bind1_some h
        refine bw_callR (va_runV (As := []) (rest := []) ⟨hx, hb, hml, hown, hts⟩ (c_Mod_here l ct dC dI a0 _ (s32 (s32 (s32 o0 9 (Int32.toNatClampNeg ((25 : Int32) + (g32 o0 8 (Int32.toNatClampNeg (1 : Int32))))) (g32 o0 7 (Int32.toNatClampNeg (1 : Int32)))) 10 (Int32.toNatClampNeg ((25 : Int32) + (g32 o0 8 (Int32.toNatClampNeg (1 : Int32))))) (-1 : Int32)) 3 0 ((g32 o0 3 0) + (1 : Int32))) v15 hG14) (cwV 0 hts g_Mod_111 rfl rfl rfl (by decide +kernel) ⟨Nat.le_of_ble_eq_true rfl, Nat.le_of_ble_eq_true rfl⟩) ⟨bw_blind nx_call, va_recv hK (hP 0 _ rfl) (ci := 6) (q0 := 0) rfl rfl, fun U hU hW => ⟨rfl, by rw [hU], by rw [hU]; exact hP.sub [0] rfl, va_K.moved hW.alike hK, (hN.sub [0] (by decide) rfl).weaken (fun _ _ => trivial), nx_warm hW hnx⟩⟩ rfl rfl hl.1 rfl (Nat.le_of_ble_eq_true rfl) d_Mod_readStatement_89 ⟨Nat.le_of_ble_eq_true rfl, Nat.le_of_ble_eq_true rfl⟩) ?_
        obtain ⟨v17, hG16, h⟩ := bind1_some h
        refine bw_callR (va_runS (As := [.int v15]) (rest := []) ⟨hx, hb, hml, hown, hts⟩ (c_Mod_measureOf l ct dC dI _ v15 v17 hG16) (cwS 1 hts g_Mod_130 rfl rfl rfl (by decide +kernel) ⟨Nat.le_of_ble_eq_true rfl, Nat.le_of_ble_eq_true rfl⟩) ⟨bw_blind nx_call, fun U hU hW => ⟨rfl, by rw [hU], by rw [hU]; exact hP.sub [] rfl, va_K.moved hW.alike hK, (hN.sub [] (by decide) rfl).weaken (fun _ _ => trivial), nx_warm hW hnx⟩⟩ rfl rfl hl.1 rfl (Nat.le_of_ble_eq_true rfl) d_Mod_readStatement_92 ⟨Nat.le_of_ble_eq_true rfl, Nat.le_of_ble_eq_true rfl⟩) ?_
        refine lv_istore (lv' := [(4, .int v17), (3, .int (g32 o0 3 0)), (2, .int v3), (1, .int ((25 : Int32) + (g32 o0 8 (Int32.toNatClampNeg (1 : Int32))))), (0, .ref (a0 0))]) hx hb d_Mod_readStatement_95 hl (by decide) rfl (fun ls hl => ?_)
        refine lv_iload hx hb d_Mod_readStatement_97 (lv_at hl 0 rfl) ?_
        refine lv_if_ge (tgt := 110) hx hb d_Mod_readStatement_99 (by decide) (fun c18 => ?_) (fun c18 => ?_)
        · have h := ite_t c18 h
          exact k_Mod_readStatement_110 C0 ((25 : Int32) + (g32 o0 8 (Int32.toNatClampNeg (1 : Int32)))) v3 (g32 o0 3 0) v17 (s32 (s32 (s32 o0 9 (Int32.toNatClampNeg ((25 : Int32) + (g32 o0 8 (Int32.toNatClampNeg (1 : Int32))))) (g32 o0 7 (Int32.toNatClampNeg (1 : Int32)))) 10 (Int32.toNatClampNeg ((25 : Int32) + (g32 o0 8 (Int32.toNatClampNeg (1 : Int32))))) (-1 : Int32)) 3 0 ((g32 o0 3 0) + (1 : Int32))) _ _ _ hP hS (lv_sub hl [4, 3, 2, 1, 0] rfl) h
        · have h := ite_f c18 h
          refine lv_aload_n hx hb d_Mod_readStatement_102 rfl (lv_at hl 4 rfl) ?_
          refine lv_aload_n hx hb d_Mod_readStatement_103 rfl (lv_at hl 4 rfl) ?_
          refine va_get (D := (dC, dI)) (ci := 6) (v := .int ((g32 o0 3 0) + (1 : Int32))) (C := R_Mod) (T := T_Mod) (N := 36) hx hb hts in_Mod hown hK (hP 0 _ rfl) 0 rfl rfl 3 (by decide) (hts _ fl_Mod_91) (fun _ h9 => h9) rfl d_Mod_readStatement_104 ?_
          obtain ⟨o_20, hG19, h⟩ := bind1_some h
          refine bw_call (Lc := [wMod ct a0 (s32 (s32 (s32 o0 9 (Int32.toNatClampNeg ((25 : Int32) + (g32 o0 8 (Int32.toNatClampNeg (1 : Int32))))) (g32 o0 7 (Int32.toNatClampNeg (1 : Int32)))) 10 (Int32.toNatClampNeg ((25 : Int32) + (g32 o0 8 (Int32.toNatClampNeg (1 : Int32))))) (-1 : Int32)) 3 0 ((g32 o0 3 0) + (1 : Int32)))]) (Lc' := [wMod ct a0 o_20]) (L' := [wMod ct a0 o_20]) [0] (va_runV (As := [.int ((g32 o0 3 0) + (1 : Int32))]) (rest := []) ⟨hx, hb, hml, hown, hts⟩ (c_Mod_failAt l ct dC dI a0 _ ((g32 o0 3 0) + (1 : Int32)) (s32 (s32 (s32 o0 9 (Int32.toNatClampNeg ((25 : Int32) + (g32 o0 8 (Int32.toNatClampNeg (1 : Int32))))) (g32 o0 7 (Int32.toNatClampNeg (1 : Int32)))) 10 (Int32.toNatClampNeg ((25 : Int32) + (g32 o0 8 (Int32.toNatClampNeg (1 : Int32))))) (-1 : Int32)) 3 0 ((g32 o0 3 0) + (1 : Int32))) o_20 hG19) (cwV 1 hts g_Mod_119 rfl rfl rfl (by decide +kernel) ⟨Nat.le_of_ble_eq_true rfl, Nat.le_of_ble_eq_true rfl⟩) ⟨bw_blind nx_call, va_recv hK (hP 0 _ rfl) (ci := 6) (q0 := 0) rfl rfl, fun U hU hW => ⟨rfl, by rw [hU], by rw [hU]; exact hP.sub [0] rfl, va_K.moved hW.alike hK, (hN.sub [0] (by decide) rfl).weaken (fun _ _ => trivial), nx_warm hW hnx⟩⟩ rfl rfl hl.1 rfl (Nat.le_of_ble_eq_true rfl) d_Mod_readStatement_107 ⟨Nat.le_of_ble_eq_true rfl, Nat.le_of_ble_eq_true rfl⟩) hP hN hS hA rfl rfl rfl (fun H locs hP hS => ?_)
          exact k_Mod_readStatement_110 C0 ((25 : Int32) + (g32 o0 8 (Int32.toNatClampNeg (1 : Int32)))) v3 (g32 o0 3 0) v17 o_20 _ _ _ hP hS (lv_sub hl [4, 3, 2, 1, 0] rfl) h
  · have h := ite_t c7 h
    refine lv_aload_n hx hb d_Mod_readStatement_40 rfl (lv_at hl 2 rfl) ?_
    refine lv_dup hx hb d_Mod_readStatement_41 rfl ?_
    refine va_get (D := (dC, dI)) (ci := 6) (v := .int (g32 o0 3 0)) (C := R_Mod) (T := T_Mod) (N := 36) hx hb hts in_Mod hown hK (hP 0 _ rfl) 0 rfl rfl 3 (by decide) (hts _ fl_Mod_91) (fun _ h9 => h9) rfl d_Mod_readStatement_42 ?_
    refine lv_iconst (v := 1) hx hb d_Mod_readStatement_45 (by decide) ?_
    refine lv_iadd hx hb d_Mod_readStatement_46 ?_
    refine pt_Mod_3 hx hb hts hown hK hP hN hS 0 rfl (hts _ fl_Mod_91) d_Mod_readStatement_47 (fun H locs hP hS => ?_)
    have hP : bw_P (dC, dI) vwCl [wMod ct a0 (s32 (s32 (s32 o0 9 (Int32.toNatClampNeg ((25 : Int32) + (g32 o0 8 (Int32.toNatClampNeg (1 : Int32))))) (g32 o0 7 (Int32.toNatClampNeg (1 : Int32)))) 10 (Int32.toNatClampNeg ((25 : Int32) + (g32 o0 8 (Int32.toNatClampNeg (1 : Int32))))) (-1 : Int32)) 3 0 ((g32 o0 3 0) + (1 : Int32)))] H := hP
    refine lv_aload_n hx hb d_Mod_readStatement_50 rfl (lv_at hl 2 rfl) ?_
    obtain ⟨o_22, hG21, h⟩ := bind1_some h
    refine bw_call (Lc := [wMod ct a0 (s32 (s32 (s32 o0 9 (Int32.toNatClampNeg ((25 : Int32) + (g32 o0 8 (Int32.toNatClampNeg (1 : Int32))))) (g32 o0 7 (Int32.toNatClampNeg (1 : Int32)))) 10 (Int32.toNatClampNeg ((25 : Int32) + (g32 o0 8 (Int32.toNatClampNeg (1 : Int32))))) (-1 : Int32)) 3 0 ((g32 o0 3 0) + (1 : Int32)))]) (Lc' := [wMod ct a0 o_22]) (L' := [wMod ct a0 o_22]) [0] (va_runV (As := []) (rest := []) ⟨hx, hb, hml, hown, hts⟩ (c_Mod_readExpression l ct dC dI a0 _ (s32 (s32 (s32 o0 9 (Int32.toNatClampNeg ((25 : Int32) + (g32 o0 8 (Int32.toNatClampNeg (1 : Int32))))) (g32 o0 7 (Int32.toNatClampNeg (1 : Int32)))) 10 (Int32.toNatClampNeg ((25 : Int32) + (g32 o0 8 (Int32.toNatClampNeg (1 : Int32))))) (-1 : Int32)) 3 0 ((g32 o0 3 0) + (1 : Int32))) o_22 hG21) (cwV 0 hts g_Mod_151 rfl rfl rfl (by decide +kernel) ⟨Nat.le_of_ble_eq_true rfl, Nat.le_of_ble_eq_true rfl⟩) ⟨bw_blind nx_call, va_recv hK (hP 0 _ rfl) (ci := 6) (q0 := 0) rfl rfl, fun U hU hW => ⟨rfl, by rw [hU], by rw [hU]; exact hP.sub [0] rfl, va_K.moved hW.alike hK, (hN.sub [0] (by decide) rfl).weaken (fun _ _ => trivial), nx_warm hW hnx⟩⟩ rfl rfl hl.1 rfl (Nat.le_of_ble_eq_true rfl) d_Mod_readStatement_51 ⟨Nat.le_of_ble_eq_true rfl, Nat.le_of_ble_eq_true rfl⟩) hP hN hS hA rfl rfl rfl (fun H locs hP hS => ?_)
    refine lv_aload_n hx hb d_Mod_readStatement_54 rfl (lv_at hl 2 rfl) ?_
    obtain ⟨o_24, hG23, h⟩ := bind1_some h
    refine bw_call (Lc := [wMod ct a0 o_22]) (Lc' := [wMod ct a0 o_24]) (L' := [wMod ct a0 o_24]) [0] (va_runV (As := []) (rest := []) ⟨hx, hb, hml, hown, hts⟩ (c_Mod_readCompare l ct dC dI a0 _ o_22 o_24 hG23) (cwV 0 hts g_Mod_154 rfl rfl rfl (by decide +kernel) ⟨Nat.le_of_ble_eq_true rfl, Nat.le_of_ble_eq_true rfl⟩) ⟨bw_blind nx_call, va_recv hK (hP 0 _ rfl) (ci := 6) (q0 := 0) rfl rfl, fun U hU hW => ⟨rfl, by rw [hU], by rw [hU]; exact hP.sub [0] rfl, va_K.moved hW.alike hK, (hN.sub [0] (by decide) rfl).weaken (fun _ _ => trivial), nx_warm hW hnx⟩⟩ rfl rfl hl.1 rfl (Nat.le_of_ble_eq_true rfl) d_Mod_readStatement_55 ⟨Nat.le_of_ble_eq_true rfl, Nat.le_of_ble_eq_true rfl⟩) hP hN hS hA rfl rfl rfl (fun H locs hP hS => ?_)
    refine lv_goto (tgt := 189) hx hb d_Mod_readStatement_58 (by decide) ?_
    exact k_Mod_readStatement_189 C0 ((25 : Int32) + (g32 o0 8 (Int32.toNatClampNeg (1 : Int32)))) o_24 _ _ _ hP hS (lv_sub hl [2, 1] rfl) h
def F_Mod_closeNeeds_124 (k108 : Int32 → Ob → Option (Ob)) (k116 : Int32 → Int32 → Ob → Option (Ob)) : Nat → Int32 → Int32 → Int32 → Ob → Option (Ob)
  | 0, _, _, _, _ => none
  | n + 1, x1, x2, x3, o0 =>
    if (60 : Int32) ≤ x3 then (k116 x1 (x2 + (1 : Int32)) o0) else (chk (inb (((60 : Int32) * x2) + x3) 3600) (if (g32 o0 18 (Int32.toNatClampNeg (((60 : Int32) * x2) + x3))) = 0 then (chk (inb (((60 : Int32) * x2) + x1) 3600) (if (g32 o0 18 (Int32.toNatClampNeg (((60 : Int32) * x2) + x1))) = 0 then (F_Mod_closeNeeds_124 k108 k116 n x1 x2 (x3 + (1 : Int32)) (s32 o0 18 (Int32.toNatClampNeg (((60 : Int32) * x2) + x3)) (vp_nar .boolean (0 : Int32)))) else (chk (inb (((60 : Int32) * x1) + x3) 3600) (if (g32 o0 18 (Int32.toNatClampNeg (((60 : Int32) * x1) + x3))) = 0 then (F_Mod_closeNeeds_124 k108 k116 n x1 x2 (x3 + (1 : Int32)) (s32 o0 18 (Int32.toNatClampNeg (((60 : Int32) * x2) + x3)) (vp_nar .boolean (0 : Int32)))) else (F_Mod_closeNeeds_124 k108 k116 n x1 x2 (x3 + (1 : Int32)) (s32 o0 18 (Int32.toNatClampNeg (((60 : Int32) * x2) + x3)) (vp_nar .boolean (1 : Int32)))))))) else (F_Mod_closeNeeds_124 k108 k116 n x1 x2 (x3 + (1 : Int32)) (s32 o0 18 (Int32.toNatClampNeg (((60 : Int32) * x2) + x3)) (vp_nar .boolean (1 : Int32))))))
def F_Mod_closeNeeds_116 (k108 : Int32 → Ob → Option (Ob)) : Nat → Int32 → Int32 → Ob → Option (Ob)
  | 0, _, _, _ => none
  | n + 1, x1, x2, o0 =>
    if (60 : Int32) ≤ x2 then (k108 (x1 + (1 : Int32)) o0) else (F_Mod_closeNeeds_124 k108 (F_Mod_closeNeeds_116 k108 n) fuel x1 x2 (0 : Int32) o0)
def F_Mod_closeNeeds_108  : Nat → Int32 → Ob → Option (Ob)
  | 0, _, _ => none
  | n + 1, x1, o0 =>
    if (60 : Int32) ≤ x1 then (some o0) else (F_Mod_closeNeeds_116 (F_Mod_closeNeeds_108 n) fuel x1 (0 : Int32) o0)
def F_Mod_closeNeeds_41 (k24 : Int32 → Ob → Option (Ob)) : Nat → Int32 → Int32 → Ob → Option (Ob)
  | 0, _, _, _ => none
  | n + 1, x1, x2, o0 =>
    chk (inb (x1 + (1 : Int32)) 50) (if (g32 o0 9 (Int32.toNatClampNeg (x1 + (1 : Int32)))) ≤ x2 then (k24 (x1 + (1 : Int32)) o0) else (chk (inb x1 50) (if (g32 o0 10 (Int32.toNatClampNeg x1)) < 0 then (k24 (x1 + (1 : Int32)) o0) else (chk (inb x2 1000) (if (g32 o0 5 (Int32.toNatClampNeg x2)) = (3 : Int32) then (chk (inb (((60 : Int32) * (g32 o0 10 (Int32.toNatClampNeg x1))) + (g32 o0 6 (Int32.toNatClampNeg x2))) 3600) (F_Mod_closeNeeds_41 k24 n x1 (x2 + (1 : Int32)) (s32 o0 18 (Int32.toNatClampNeg (((60 : Int32) * (g32 o0 10 (Int32.toNatClampNeg x1))) + (g32 o0 6 (Int32.toNatClampNeg x2)))) (vp_nar .boolean (1 : Int32))))) else (F_Mod_closeNeeds_41 k24 n x1 (x2 + (1 : Int32)) o0))))))
def F_Mod_closeNeeds_24  : Nat → Int32 → Ob → Option (Ob)
  | 0, _, _ => none
  | n + 1, x1, o0 =>
    chk (inb (0 : Int32) 2) (if (g32 o0 8 (Int32.toNatClampNeg (0 : Int32))) ≤ x1 then (F_Mod_closeNeeds_108 fuel (0 : Int32) o0) else (chk (inb x1 50) (F_Mod_closeNeeds_41 (F_Mod_closeNeeds_24 n) fuel x1 (g32 o0 9 (Int32.toNatClampNeg x1)) o0)))
def F_Mod_closeNeeds_2  : Nat → Int32 → Ob → Option (Ob)
  | 0, _, _ => none
  | n + 1, x1, o0 =>
    if (3600 : Int32) ≤ x1 then (F_Mod_closeNeeds_24 fuel (0 : Int32) o0) else (chk (inb x1 3600) (F_Mod_closeNeeds_2 n (x1 + (1 : Int32)) (s32 o0 18 (Int32.toNatClampNeg x1) (vp_nar .boolean (0 : Int32)))))
def F_Mod_closeNeeds  (o0 : Ob) : Option (Ob) :=
  F_Mod_closeNeeds_2 fuel (0 : Int32) o0
abbrev ws_Mod_closeNeeds : List Cond := Cond.code y_Mod_closeNeeds b_Mod_closeNeeds 4 (none : Option Jvm.ClassFile.FieldType) :: wsAll
abbrev rm_Mod_closeNeeds : Room := { frames := 0, cells := 0, slots := 0, locals := 0 }
set_option maxHeartbeats 4000000 in
set_option maxRecDepth 100000 in
theorem k_Mod_closeNeeds_124 {p : Program} {l : Launch} {e : Env} {s : State} {m : MethodId} {args : Array Value} {below : List Frame} {meth : Method} {c : Code} {A : Nat → Prop} {ct dC : Nat → ClassId} {dI : Nat → Nat → Nat} {a0 : Nat → Nat}  {n0 : Ob}  {k108 : Int32 → Ob → Option (Ob)} {k116 : Int32 → Int32 → Ob → Option (Ob)} (C0 : cx wsAll vwCl nx p s m args meth c (dC, dI) (tyA ct) b_Mod_closeNeeds 4 (none : Option Jvm.ClassFile.FieldType) R_Mod A [adMod a0]) (hk108 : ∀ (x1 : Int32) (o0 : Ob) (H : Heap) (locs : List Loc) (ls : Array Slot), bw_P (dC, dI) vwCl [wMod ct a0 o0] H → va_S A s.heap H locs → lv_has ls 4 [(0, .ref (a0 0)), (1, .int x1)] → k108 x1 o0 = some n0 → W p l e (headSpec ws_Mod_closeNeeds rm_Mod_closeNeeds).room s m args below meth c H locs 0 0 (MQ below (bw_Q (dC, dI) vwCl none [wMod ct a0 n0] A) args s 0 0 A) (F0 m 108 ls [])) (hk116 : ∀ (x1 : Int32) (x2 : Int32) (o0 : Ob) (H : Heap) (locs : List Loc) (ls : Array Slot), bw_P (dC, dI) vwCl [wMod ct a0 o0] H → va_S A s.heap H locs → lv_has ls 4 [(0, .ref (a0 0)), (1, .int x1), (2, .int x2)] → k116 x1 x2 o0 = some n0 → W p l e (headSpec ws_Mod_closeNeeds rm_Mod_closeNeeds).room s m args below meth c H locs 0 0 (MQ below (bw_Q (dC, dI) vwCl none [wMod ct a0 n0] A) args s 0 0 A) (F0 m 116 ls [])) : ∀ (n : Nat) (x1 : Int32) (x2 : Int32) (x3 : Int32) (o0 : Ob) (H : Heap) (locs : List Loc) (ls : Array Slot), bw_P (dC, dI) vwCl [wMod ct a0 o0] H → va_S A s.heap H locs → lv_has ls 4 [(0, .ref (a0 0)), (1, .int x1), (2, .int x2), (3, .int x3)] → F_Mod_closeNeeds_124 k108 k116 n x1 x2 x3 o0 = some n0 → W p l e (headSpec ws_Mod_closeNeeds rm_Mod_closeNeeds).room s m args below meth c H locs 0 0 (MQ below (bw_Q (dC, dI) vwCl none [wMod ct a0 n0] A) args s 0 0 A) (F0 m 124 ls []) := by
  obtain ⟨hx, hb, hr, hml, hown, hlocks, hts, hK, hN, hA, hnx⟩ := id C0
  intro n
  induction n with
  | zero =>
    intro x1 x2 x3 o0 H locs ls hP hS hl h
    cases h
  | succ n ih =>
    intro x1 x2 x3 o0 H locs ls hP hS hl h
    rw [F_Mod_closeNeeds_124] at h
    refine lv_iload_n hx hb d_Mod_closeNeeds_124 rfl (lv_at hl 3 rfl) ?_
    refine lv_bipush (v := 60) hx hb d_Mod_closeNeeds_125 (by decide) ?_
    refine lv_icmp_ge (tgt := 194) hx hb d_Mod_closeNeeds_127 (by decide) (fun c17 => ?_) (fun c17 => ?_)
    · have h := ite_t c17 h
      refine lv_iinc (v := (x2 + (1 : Int32))) (lv' := [(2, .int (x2 + (1 : Int32))), (0, .ref (a0 0)), (1, .int x1), (3, .int x3)]) hx hb d_Mod_closeNeeds_194 hl (k := 2) rfl rfl (by decide) rfl (fun ls hl => ?_)
      refine lv_goto (tgt := 116) hx hb d_Mod_closeNeeds_197 (by decide) ?_
      exact hk116 x1 (x2 + (1 : Int32)) o0 _ _ _ hP hS (lv_sub hl [1, 2, 0] rfl) h
    · have h := ite_f c17 h
      refine lv_aload_n hx hb d_Mod_closeNeeds_130 rfl (lv_at hl 0 rfl) ?_
      refine va_get (D := (dC, dI)) (ci := 6) (v := .ref (a0 12)) (C := R_Mod) (T := T_Mod) (N := 36) hx hb hts in_Mod hown hK (hP 0 _ rfl) 0 rfl rfl 18 (by decide) (hts _ fl_Mod_44) (fun _ h9 => h9) rfl d_Mod_closeNeeds_131 ?_
      refine lv_bipush (v := 60) hx hb d_Mod_closeNeeds_134 (by decide) ?_
      refine lv_iload_n hx hb d_Mod_closeNeeds_136 rfl (lv_at hl 2 rfl) ?_
      refine lv_imul hx hb d_Mod_closeNeeds_137 ?_
      refine lv_iload_n hx hb d_Mod_closeNeeds_138 rfl (lv_at hl 3 rfl) ?_
      refine lv_iadd hx hb d_Mod_closeNeeds_139 ?_
      refine lv_aload_n hx hb d_Mod_closeNeeds_140 rfl (lv_at hl 0 rfl) ?_
      refine va_get (D := (dC, dI)) (ci := 6) (v := .ref (a0 12)) (C := R_Mod) (T := T_Mod) (N := 36) hx hb hts in_Mod hown hK (hP 0 _ rfl) 0 rfl rfl 18 (by decide) (hts _ fl_Mod_44) (fun _ h9 => h9) rfl d_Mod_closeNeeds_141 ?_
      refine lv_bipush (v := 60) hx hb d_Mod_closeNeeds_144 (by decide) ?_
      refine lv_iload_n hx hb d_Mod_closeNeeds_146 rfl (lv_at hl 2 rfl) ?_
      refine lv_imul hx hb d_Mod_closeNeeds_147 ?_
      refine lv_iload_n hx hb d_Mod_closeNeeds_148 rfl (lv_at hl 3 rfl) ?_
      refine lv_iadd hx hb d_Mod_closeNeeds_149 ?_
      obtain ⟨hi18, h⟩ := chk_some h
      refine va_zald (f := g32 o0 18) hx hb hK (hP 0 _ rfl) 12 3 rfl rfl (inb_in hi18) d_Mod_closeNeeds_150 ?_
      refine lv_if_ne (tgt := 182) hx hb d_Mod_closeNeeds_151 (by decide) (fun c19 => ?_) (fun c19 => ?_)
      · have h := ite_f c19 h
        refine lv_iconst (v := 1) hx hb d_Mod_closeNeeds_182 (by decide) ?_
        refine lv_goto (tgt := 187) hx hb d_Mod_closeNeeds_183 (by decide) ?_
        refine st_Mod_18 hx hb hK hP hN hS 0 rfl (inb_in hi18) d_Mod_closeNeeds_187 (fun H locs hP hS => ?_)
        have hP : bw_P (dC, dI) vwCl [wMod ct a0 (s32 o0 18 (Int32.toNatClampNeg (((60 : Int32) * x2) + x3)) (vp_nar .boolean (1 : Int32)))] H := hP
        refine lv_iinc (v := (x3 + (1 : Int32))) (lv' := [(3, .int (x3 + (1 : Int32))), (0, .ref (a0 0)), (1, .int x1), (2, .int x2)]) hx hb d_Mod_closeNeeds_188 hl (k := 3) rfl rfl (by decide) rfl (fun ls hl => ?_)
        refine lv_goto (tgt := 124) hx hb d_Mod_closeNeeds_191 (by decide) ?_
        exact ih x1 x2 (x3 + (1 : Int32)) (s32 o0 18 (Int32.toNatClampNeg (((60 : Int32) * x2) + x3)) (vp_nar .boolean (1 : Int32))) _ _ _ hP hS (lv_sub hl [1, 2, 3, 0] rfl) h
      · have h := ite_t c19 h
        refine lv_aload_n hx hb d_Mod_closeNeeds_154 rfl (lv_at hl 0 rfl) ?_
        refine va_get (D := (dC, dI)) (ci := 6) (v := .ref (a0 12)) (C := R_Mod) (T := T_Mod) (N := 36) hx hb hts in_Mod hown hK (hP 0 _ rfl) 0 rfl rfl 18 (by decide) (hts _ fl_Mod_44) (fun _ h9 => h9) rfl d_Mod_closeNeeds_155 ?_
        refine lv_bipush (v := 60) hx hb d_Mod_closeNeeds_158 (by decide) ?_
        refine lv_iload_n hx hb d_Mod_closeNeeds_160 rfl (lv_at hl 2 rfl) ?_
        refine lv_imul hx hb d_Mod_closeNeeds_161 ?_
        refine lv_iload_n hx hb d_Mod_closeNeeds_162 rfl (lv_at hl 1 rfl) ?_
        refine lv_iadd hx hb d_Mod_closeNeeds_163 ?_
        obtain ⟨hi21, h⟩ := chk_some h
        refine va_zald (f := g32 o0 18) hx hb hK (hP 0 _ rfl) 12 3 rfl rfl (inb_in hi21) d_Mod_closeNeeds_164 ?_
        refine lv_if_eq (tgt := 186) hx hb d_Mod_closeNeeds_165 (by decide) (fun c22 => ?_) (fun c22 => ?_)
        · have h := ite_t c22 h
          refine lv_iconst (v := 0) hx hb d_Mod_closeNeeds_186 (by decide) ?_
          refine st_Mod_18 hx hb hK hP hN hS 0 rfl (inb_in hi18) d_Mod_closeNeeds_187 (fun H locs hP hS => ?_)
          have hP : bw_P (dC, dI) vwCl [wMod ct a0 (s32 o0 18 (Int32.toNatClampNeg (((60 : Int32) * x2) + x3)) (vp_nar .boolean (0 : Int32)))] H := hP
          refine lv_iinc (v := (x3 + (1 : Int32))) (lv' := [(3, .int (x3 + (1 : Int32))), (0, .ref (a0 0)), (1, .int x1), (2, .int x2)]) hx hb d_Mod_closeNeeds_188 hl (k := 3) rfl rfl (by decide) rfl (fun ls hl => ?_)
          refine lv_goto (tgt := 124) hx hb d_Mod_closeNeeds_191 (by decide) ?_
          exact ih x1 x2 (x3 + (1 : Int32)) (s32 o0 18 (Int32.toNatClampNeg (((60 : Int32) * x2) + x3)) (vp_nar .boolean (0 : Int32))) _ _ _ hP hS (lv_sub hl [1, 2, 3, 0] rfl) h
        · have h := ite_f c22 h
          refine lv_aload_n hx hb d_Mod_closeNeeds_168 rfl (lv_at hl 0 rfl) ?_
          refine va_get (D := (dC, dI)) (ci := 6) (v := .ref (a0 12)) (C := R_Mod) (T := T_Mod) (N := 36) hx hb hts in_Mod hown hK (hP 0 _ rfl) 0 rfl rfl 18 (by decide) (hts _ fl_Mod_44) (fun _ h9 => h9) rfl d_Mod_closeNeeds_169 ?_
          refine lv_bipush (v := 60) hx hb d_Mod_closeNeeds_172 (by decide) ?_
          refine lv_iload_n hx hb d_Mod_closeNeeds_174 rfl (lv_at hl 1 rfl) ?_
          refine lv_imul hx hb d_Mod_closeNeeds_175 ?_
          refine lv_iload_n hx hb d_Mod_closeNeeds_176 rfl (lv_at hl 3 rfl) ?_
          refine lv_iadd hx hb d_Mod_closeNeeds_177 ?_
          obtain ⟨hi24, h⟩ := chk_some h
          refine va_zald (f := g32 o0 18) hx hb hK (hP 0 _ rfl) 12 3 rfl rfl (inb_in hi24) d_Mod_closeNeeds_178 ?_
          refine lv_if_eq (tgt := 186) hx hb d_Mod_closeNeeds_179 (by decide) (fun c25 => ?_) (fun c25 => ?_)
          · have h := ite_t c25 h
            refine lv_iconst (v := 0) hx hb d_Mod_closeNeeds_186 (by decide) ?_
            refine st_Mod_18 hx hb hK hP hN hS 0 rfl (inb_in hi18) d_Mod_closeNeeds_187 (fun H locs hP hS => ?_)
            have hP : bw_P (dC, dI) vwCl [wMod ct a0 (s32 o0 18 (Int32.toNatClampNeg (((60 : Int32) * x2) + x3)) (vp_nar .boolean (0 : Int32)))] H := hP
            refine lv_iinc (v := (x3 + (1 : Int32))) (lv' := [(3, .int (x3 + (1 : Int32))), (0, .ref (a0 0)), (1, .int x1), (2, .int x2)]) hx hb d_Mod_closeNeeds_188 hl (k := 3) rfl rfl (by decide) rfl (fun ls hl => ?_)
            refine lv_goto (tgt := 124) hx hb d_Mod_closeNeeds_191 (by decide) ?_
            exact ih x1 x2 (x3 + (1 : Int32)) (s32 o0 18 (Int32.toNatClampNeg (((60 : Int32) * x2) + x3)) (vp_nar .boolean (0 : Int32))) _ _ _ hP hS (lv_sub hl [1, 2, 3, 0] rfl) h
          · have h := ite_f c25 h
            refine lv_iconst (v := 1) hx hb d_Mod_closeNeeds_182 (by decide) ?_
            refine lv_goto (tgt := 187) hx hb d_Mod_closeNeeds_183 (by decide) ?_
            refine st_Mod_18 hx hb hK hP hN hS 0 rfl (inb_in hi18) d_Mod_closeNeeds_187 (fun H locs hP hS => ?_)
            have hP : bw_P (dC, dI) vwCl [wMod ct a0 (s32 o0 18 (Int32.toNatClampNeg (((60 : Int32) * x2) + x3)) (vp_nar .boolean (1 : Int32)))] H := hP
            refine lv_iinc (v := (x3 + (1 : Int32))) (lv' := [(3, .int (x3 + (1 : Int32))), (0, .ref (a0 0)), (1, .int x1), (2, .int x2)]) hx hb d_Mod_closeNeeds_188 hl (k := 3) rfl rfl (by decide) rfl (fun ls hl => ?_)
            refine lv_goto (tgt := 124) hx hb d_Mod_closeNeeds_191 (by decide) ?_
            exact ih x1 x2 (x3 + (1 : Int32)) (s32 o0 18 (Int32.toNatClampNeg (((60 : Int32) * x2) + x3)) (vp_nar .boolean (1 : Int32))) _ _ _ hP hS (lv_sub hl [1, 2, 3, 0] rfl) h
set_option maxHeartbeats 4000000 in
set_option maxRecDepth 100000 in
theorem k_Mod_closeNeeds_116 {p : Program} {l : Launch} {e : Env} {s : State} {m : MethodId} {args : Array Value} {below : List Frame} {meth : Method} {c : Code} {A : Nat → Prop} {ct dC : Nat → ClassId} {dI : Nat → Nat → Nat} {a0 : Nat → Nat}  {n0 : Ob}  {k108 : Int32 → Ob → Option (Ob)} (C0 : cx wsAll vwCl nx p s m args meth c (dC, dI) (tyA ct) b_Mod_closeNeeds 4 (none : Option Jvm.ClassFile.FieldType) R_Mod A [adMod a0]) (hk108 : ∀ (x1 : Int32) (o0 : Ob) (H : Heap) (locs : List Loc) (ls : Array Slot), bw_P (dC, dI) vwCl [wMod ct a0 o0] H → va_S A s.heap H locs → lv_has ls 4 [(0, .ref (a0 0)), (1, .int x1)] → k108 x1 o0 = some n0 → W p l e (headSpec ws_Mod_closeNeeds rm_Mod_closeNeeds).room s m args below meth c H locs 0 0 (MQ below (bw_Q (dC, dI) vwCl none [wMod ct a0 n0] A) args s 0 0 A) (F0 m 108 ls [])) : ∀ (n : Nat) (x1 : Int32) (x2 : Int32) (o0 : Ob) (H : Heap) (locs : List Loc) (ls : Array Slot), bw_P (dC, dI) vwCl [wMod ct a0 o0] H → va_S A s.heap H locs → lv_has ls 4 [(0, .ref (a0 0)), (1, .int x1), (2, .int x2)] → F_Mod_closeNeeds_116 k108 n x1 x2 o0 = some n0 → W p l e (headSpec ws_Mod_closeNeeds rm_Mod_closeNeeds).room s m args below meth c H locs 0 0 (MQ below (bw_Q (dC, dI) vwCl none [wMod ct a0 n0] A) args s 0 0 A) (F0 m 116 ls []) := by
  obtain ⟨hx, hb, hr, hml, hown, hlocks, hts, hK, hN, hA, hnx⟩ := id C0
  intro n
  induction n with
  | zero =>
    intro x1 x2 o0 H locs ls hP hS hl h
    cases h
  | succ n ih =>
    intro x1 x2 o0 H locs ls hP hS hl h
    rw [F_Mod_closeNeeds_116] at h
    refine lv_iload_n hx hb d_Mod_closeNeeds_116 rfl (lv_at hl 2 rfl) ?_
    refine lv_bipush (v := 60) hx hb d_Mod_closeNeeds_117 (by decide) ?_
    refine lv_icmp_ge (tgt := 200) hx hb d_Mod_closeNeeds_119 (by decide) (fun c16 => ?_) (fun c16 => ?_)
    · have h := ite_t c16 h
      refine lv_iinc (v := (x1 + (1 : Int32))) (lv' := [(1, .int (x1 + (1 : Int32))), (0, .ref (a0 0)), (2, .int x2)]) hx hb d_Mod_closeNeeds_200 hl (k := 1) rfl rfl (by decide) rfl (fun ls hl => ?_)
      refine lv_goto (tgt := 108) hx hb d_Mod_closeNeeds_203 (by decide) ?_
      exact hk108 (x1 + (1 : Int32)) o0 _ _ _ hP hS (lv_sub hl [1, 0] rfl) h
    · have h := ite_f c16 h
      refine lv_iconst (v := 0) hx hb d_Mod_closeNeeds_122 (by decide) ?_
      refine lv_istore_n (lv' := [(3, .int (0 : Int32)), (0, .ref (a0 0)), (1, .int x1), (2, .int x2)]) hx hb d_Mod_closeNeeds_123 rfl hl (by decide) rfl (fun ls hl => ?_)
      exact k_Mod_closeNeeds_124 C0 hk108 ih fuel x1 x2 (0 : Int32) o0 _ _ _ hP hS (lv_sub hl [1, 2, 3, 0] rfl) h
set_option maxHeartbeats 4000000 in
set_option maxRecDepth 100000 in
theorem k_Mod_closeNeeds_108 {p : Program} {l : Launch} {e : Env} {s : State} {m : MethodId} {args : Array Value} {below : List Frame} {meth : Method} {c : Code} {A : Nat → Prop} {ct dC : Nat → ClassId} {dI : Nat → Nat → Nat} {a0 : Nat → Nat}  {n0 : Ob}   (C0 : cx wsAll vwCl nx p s m args meth c (dC, dI) (tyA ct) b_Mod_closeNeeds 4 (none : Option Jvm.ClassFile.FieldType) R_Mod A [adMod a0])  : ∀ (n : Nat) (x1 : Int32) (o0 : Ob) (H : Heap) (locs : List Loc) (ls : Array Slot), bw_P (dC, dI) vwCl [wMod ct a0 o0] H → va_S A s.heap H locs → lv_has ls 4 [(0, .ref (a0 0)), (1, .int x1)] → F_Mod_closeNeeds_108 n x1 o0 = some n0 → W p l e (headSpec ws_Mod_closeNeeds rm_Mod_closeNeeds).room s m args below meth c H locs 0 0 (MQ below (bw_Q (dC, dI) vwCl none [wMod ct a0 n0] A) args s 0 0 A) (F0 m 108 ls []) := by
  obtain ⟨hx, hb, hr, hml, hown, hlocks, hts, hK, hN, hA, hnx⟩ := id C0
  intro n
  induction n with
  | zero =>
    intro x1 o0 H locs ls hP hS hl h
    cases h
  | succ n ih =>
    intro x1 o0 H locs ls hP hS hl h
    rw [F_Mod_closeNeeds_108] at h
    refine lv_iload_n hx hb d_Mod_closeNeeds_108 rfl (lv_at hl 1 rfl) ?_
    refine lv_bipush (v := 60) hx hb d_Mod_closeNeeds_109 (by decide) ?_
    refine lv_icmp_ge (tgt := 206) hx hb d_Mod_closeNeeds_111 (by decide) (fun c6 => ?_) (fun c6 => ?_)
    · have h := ite_t c6 h
      obtain rfl := res1 h
      exact W.vret hx hb hr (fun t ht hW => ⟨rfl, by rw [ht]; exact hP, hS.F ht⟩) hS.2.2 d_Mod_closeNeeds_206
    · have h := ite_f c6 h
      refine lv_iconst (v := 0) hx hb d_Mod_closeNeeds_114 (by decide) ?_
      refine lv_istore_n (lv' := [(2, .int (0 : Int32)), (0, .ref (a0 0)), (1, .int x1)]) hx hb d_Mod_closeNeeds_115 rfl hl (by decide) rfl (fun ls hl => ?_)
      exact k_Mod_closeNeeds_116 C0 ih fuel x1 (0 : Int32) o0 _ _ _ hP hS (lv_sub hl [1, 2, 0] rfl) h
set_option maxHeartbeats 4000000 in
set_option maxRecDepth 100000 in
theorem k_Mod_closeNeeds_41 {p : Program} {l : Launch} {e : Env} {s : State} {m : MethodId} {args : Array Value} {below : List Frame} {meth : Method} {c : Code} {A : Nat → Prop} {ct dC : Nat → ClassId} {dI : Nat → Nat → Nat} {a0 : Nat → Nat}  {n0 : Ob}  {k24 : Int32 → Ob → Option (Ob)} (C0 : cx wsAll vwCl nx p s m args meth c (dC, dI) (tyA ct) b_Mod_closeNeeds 4 (none : Option Jvm.ClassFile.FieldType) R_Mod A [adMod a0]) (hk24 : ∀ (x1 : Int32) (o0 : Ob) (H : Heap) (locs : List Loc) (ls : Array Slot), bw_P (dC, dI) vwCl [wMod ct a0 o0] H → va_S A s.heap H locs → lv_has ls 4 [(0, .ref (a0 0)), (1, .int x1)] → k24 x1 o0 = some n0 → W p l e (headSpec ws_Mod_closeNeeds rm_Mod_closeNeeds).room s m args below meth c H locs 0 0 (MQ below (bw_Q (dC, dI) vwCl none [wMod ct a0 n0] A) args s 0 0 A) (F0 m 24 ls [])) : ∀ (n : Nat) (x1 : Int32) (x2 : Int32) (o0 : Ob) (H : Heap) (locs : List Loc) (ls : Array Slot), bw_P (dC, dI) vwCl [wMod ct a0 o0] H → va_S A s.heap H locs → lv_has ls 4 [(0, .ref (a0 0)), (1, .int x1), (2, .int x2)] → F_Mod_closeNeeds_41 k24 n x1 x2 o0 = some n0 → W p l e (headSpec ws_Mod_closeNeeds rm_Mod_closeNeeds).room s m args below meth c H locs 0 0 (MQ below (bw_Q (dC, dI) vwCl none [wMod ct a0 n0] A) args s 0 0 A) (F0 m 41 ls []) := by
  obtain ⟨hx, hb, hr, hml, hown, hlocks, hts, hK, hN, hA, hnx⟩ := id C0
  intro n
  induction n with
  | zero =>
    intro x1 x2 o0 H locs ls hP hS hl h
    cases h
  | succ n ih =>
    intro x1 x2 o0 H locs ls hP hS hl h
    rw [F_Mod_closeNeeds_41] at h
    refine lv_iload_n hx hb d_Mod_closeNeeds_41 rfl (lv_at hl 2 rfl) ?_
    refine lv_aload_n hx hb d_Mod_closeNeeds_42 rfl (lv_at hl 0 rfl) ?_
    refine va_get (D := (dC, dI)) (ci := 6) (v := .ref (a0 6)) (C := R_Mod) (T := T_Mod) (N := 36) hx hb hts in_Mod hown hK (hP 0 _ rfl) 0 rfl rfl 9 (by decide) (hts _ fl_Mod_25) (fun _ h9 => h9) rfl d_Mod_closeNeeds_43 ?_
    refine lv_iload_n hx hb d_Mod_closeNeeds_46 rfl (lv_at hl 1 rfl) ?_
    refine lv_iconst (v := 1) hx hb d_Mod_closeNeeds_47 (by decide) ?_
    refine lv_iadd hx hb d_Mod_closeNeeds_48 ?_
    obtain ⟨hi7, h⟩ := chk_some h
    refine va_iald (f := g32 o0 9) hx hb hK (hP 0 _ rfl) 6 0 rfl rfl (inb_in hi7) d_Mod_closeNeeds_49 ?_
    refine lv_icmp_ge (tgt := 100) hx hb d_Mod_closeNeeds_50 (by decide) (fun c8 => ?_) (fun c8 => ?_)
    · have h := ite_t c8 h
      refine lv_iinc (v := (x1 + (1 : Int32))) (lv' := [(1, .int (x1 + (1 : Int32))), (0, .ref (a0 0)), (2, .int x2)]) hx hb d_Mod_closeNeeds_100 hl (k := 1) rfl rfl (by decide) rfl (fun ls hl => ?_)
      refine lv_goto (tgt := 24) hx hb d_Mod_closeNeeds_103 (by decide) ?_
      exact hk24 (x1 + (1 : Int32)) o0 _ _ _ hP hS (lv_sub hl [1, 0] rfl) h
    · have h := ite_f c8 h
      refine lv_aload_n hx hb d_Mod_closeNeeds_53 rfl (lv_at hl 0 rfl) ?_
      refine va_get (D := (dC, dI)) (ci := 6) (v := .ref (a0 7)) (C := R_Mod) (T := T_Mod) (N := 36) hx hb hts in_Mod hown hK (hP 0 _ rfl) 0 rfl rfl 10 (by decide) (hts _ fl_Mod_28) (fun _ h9 => h9) rfl d_Mod_closeNeeds_54 ?_
      refine lv_iload_n hx hb d_Mod_closeNeeds_57 rfl (lv_at hl 1 rfl) ?_
      obtain ⟨hi9, h⟩ := chk_some h
      refine va_iald (f := g32 o0 10) hx hb hK (hP 0 _ rfl) 7 0 rfl rfl (inb_in hi9) d_Mod_closeNeeds_58 ?_
      refine lv_if_lt (tgt := 100) hx hb d_Mod_closeNeeds_59 (by decide) (fun c10 => ?_) (fun c10 => ?_)
      · have h := ite_t c10 h
        refine lv_iinc (v := (x1 + (1 : Int32))) (lv' := [(1, .int (x1 + (1 : Int32))), (0, .ref (a0 0)), (2, .int x2)]) hx hb d_Mod_closeNeeds_100 hl (k := 1) rfl rfl (by decide) rfl (fun ls hl => ?_)
        refine lv_goto (tgt := 24) hx hb d_Mod_closeNeeds_103 (by decide) ?_
        exact hk24 (x1 + (1 : Int32)) o0 _ _ _ hP hS (lv_sub hl [1, 0] rfl) h
      · have h := ite_f c10 h
        refine lv_aload_n hx hb d_Mod_closeNeeds_62 rfl (lv_at hl 0 rfl) ?_
        refine va_get (D := (dC, dI)) (ci := 6) (v := .ref (a0 2)) (C := R_Mod) (T := T_Mod) (N := 36) hx hb hts in_Mod hown hK (hP 0 _ rfl) 0 rfl rfl 5 (by decide) (hts _ fl_Mod_13) (fun _ h9 => h9) rfl d_Mod_closeNeeds_63 ?_
        refine lv_iload_n hx hb d_Mod_closeNeeds_66 rfl (lv_at hl 2 rfl) ?_
        obtain ⟨hi11, h⟩ := chk_some h
        refine va_iald (f := g32 o0 5) hx hb hK (hP 0 _ rfl) 2 0 rfl rfl (inb_in hi11) d_Mod_closeNeeds_67 ?_
        refine lv_iconst (v := 3) hx hb d_Mod_closeNeeds_68 (by decide) ?_
        refine lv_icmp_ne (tgt := 94) hx hb d_Mod_closeNeeds_69 (by decide) (fun c12 => ?_) (fun c12 => ?_)
        · have h := ite_f c12 h
          refine lv_iinc (v := (x2 + (1 : Int32))) (lv' := [(2, .int (x2 + (1 : Int32))), (0, .ref (a0 0)), (1, .int x1)]) hx hb d_Mod_closeNeeds_94 hl (k := 2) rfl rfl (by decide) rfl (fun ls hl => ?_)
          refine lv_goto (tgt := 41) hx hb d_Mod_closeNeeds_97 (by decide) ?_
          exact ih x1 (x2 + (1 : Int32)) o0 _ _ _ hP hS (lv_sub hl [1, 2, 0] rfl) h
        · have h := ite_t c12 h
          refine lv_aload_n hx hb d_Mod_closeNeeds_72 rfl (lv_at hl 0 rfl) ?_
          refine va_get (D := (dC, dI)) (ci := 6) (v := .ref (a0 12)) (C := R_Mod) (T := T_Mod) (N := 36) hx hb hts in_Mod hown hK (hP 0 _ rfl) 0 rfl rfl 18 (by decide) (hts _ fl_Mod_44) (fun _ h9 => h9) rfl d_Mod_closeNeeds_73 ?_
          refine lv_bipush (v := 60) hx hb d_Mod_closeNeeds_76 (by decide) ?_
          refine lv_aload_n hx hb d_Mod_closeNeeds_78 rfl (lv_at hl 0 rfl) ?_
          refine va_get (D := (dC, dI)) (ci := 6) (v := .ref (a0 7)) (C := R_Mod) (T := T_Mod) (N := 36) hx hb hts in_Mod hown hK (hP 0 _ rfl) 0 rfl rfl 10 (by decide) (hts _ fl_Mod_28) (fun _ h9 => h9) rfl d_Mod_closeNeeds_79 ?_
          refine lv_iload_n hx hb d_Mod_closeNeeds_82 rfl (lv_at hl 1 rfl) ?_
          refine va_iald (f := g32 o0 10) hx hb hK (hP 0 _ rfl) 7 0 rfl rfl (inb_in hi9) d_Mod_closeNeeds_83 ?_
          refine lv_imul hx hb d_Mod_closeNeeds_84 ?_
          refine lv_aload_n hx hb d_Mod_closeNeeds_85 rfl (lv_at hl 0 rfl) ?_
          refine va_get (D := (dC, dI)) (ci := 6) (v := .ref (a0 3)) (C := R_Mod) (T := T_Mod) (N := 36) hx hb hts in_Mod hown hK (hP 0 _ rfl) 0 rfl rfl 6 (by decide) (hts _ fl_Mod_16) (fun _ h9 => h9) rfl d_Mod_closeNeeds_86 ?_
          refine lv_iload_n hx hb d_Mod_closeNeeds_89 rfl (lv_at hl 2 rfl) ?_
          refine va_iald (f := g32 o0 6) hx hb hK (hP 0 _ rfl) 3 0 rfl rfl (inb_in hi11) d_Mod_closeNeeds_90 ?_
          refine lv_iadd hx hb d_Mod_closeNeeds_91 ?_
          refine lv_iconst (v := 1) hx hb d_Mod_closeNeeds_92 (by decide) ?_
          obtain ⟨hi15, h⟩ := chk_some h
          refine st_Mod_18 hx hb hK hP hN hS 0 rfl (inb_in hi15) d_Mod_closeNeeds_93 (fun H locs hP hS => ?_)
          have hP : bw_P (dC, dI) vwCl [wMod ct a0 (s32 o0 18 (Int32.toNatClampNeg (((60 : Int32) * (g32 o0 10 (Int32.toNatClampNeg x1))) + (g32 o0 6 (Int32.toNatClampNeg x2)))) (vp_nar .boolean (1 : Int32)))] H := hP
          refine lv_iinc (v := (x2 + (1 : Int32))) (lv' := [(2, .int (x2 + (1 : Int32))), (0, .ref (a0 0)), (1, .int x1)]) hx hb d_Mod_closeNeeds_94 hl (k := 2) rfl rfl (by decide) rfl (fun ls hl => ?_)
          refine lv_goto (tgt := 41) hx hb d_Mod_closeNeeds_97 (by decide) ?_
          exact ih x1 (x2 + (1 : Int32)) (s32 o0 18 (Int32.toNatClampNeg (((60 : Int32) * (g32 o0 10 (Int32.toNatClampNeg x1))) + (g32 o0 6 (Int32.toNatClampNeg x2)))) (vp_nar .boolean (1 : Int32))) _ _ _ hP hS (lv_sub hl [1, 2, 0] rfl) h
set_option maxHeartbeats 4000000 in
set_option maxRecDepth 100000 in
theorem k_Mod_closeNeeds_24 {p : Program} {l : Launch} {e : Env} {s : State} {m : MethodId} {args : Array Value} {below : List Frame} {meth : Method} {c : Code} {A : Nat → Prop} {ct dC : Nat → ClassId} {dI : Nat → Nat → Nat} {a0 : Nat → Nat}  {n0 : Ob}   (C0 : cx wsAll vwCl nx p s m args meth c (dC, dI) (tyA ct) b_Mod_closeNeeds 4 (none : Option Jvm.ClassFile.FieldType) R_Mod A [adMod a0])  : ∀ (n : Nat) (x1 : Int32) (o0 : Ob) (H : Heap) (locs : List Loc) (ls : Array Slot), bw_P (dC, dI) vwCl [wMod ct a0 o0] H → va_S A s.heap H locs → lv_has ls 4 [(0, .ref (a0 0)), (1, .int x1)] → F_Mod_closeNeeds_24 n x1 o0 = some n0 → W p l e (headSpec ws_Mod_closeNeeds rm_Mod_closeNeeds).room s m args below meth c H locs 0 0 (MQ below (bw_Q (dC, dI) vwCl none [wMod ct a0 n0] A) args s 0 0 A) (F0 m 24 ls []) := by
  obtain ⟨hx, hb, hr, hml, hown, hlocks, hts, hK, hN, hA, hnx⟩ := id C0
  intro n
  induction n with
  | zero =>
    intro x1 o0 H locs ls hP hS hl h
    cases h
  | succ n ih =>
    intro x1 o0 H locs ls hP hS hl h
    rw [F_Mod_closeNeeds_24] at h
    refine lv_iload_n hx hb d_Mod_closeNeeds_24 rfl (lv_at hl 1 rfl) ?_
    refine lv_aload_n hx hb d_Mod_closeNeeds_25 rfl (lv_at hl 0 rfl) ?_
    refine va_get (D := (dC, dI)) (ci := 6) (v := .ref (a0 5)) (C := R_Mod) (T := T_Mod) (N := 36) hx hb hts in_Mod hown hK (hP 0 _ rfl) 0 rfl rfl 8 (by decide) (hts _ fl_Mod_22) (fun _ h9 => h9) rfl d_Mod_closeNeeds_26 ?_
    refine lv_iconst (v := 0) hx hb d_Mod_closeNeeds_29 (by decide) ?_
    obtain ⟨hi3, h⟩ := chk_some h
    refine va_iald (f := g32 o0 8) hx hb hK (hP 0 _ rfl) 5 0 rfl rfl (inb_in hi3) d_Mod_closeNeeds_30 ?_
    refine lv_icmp_ge (tgt := 106) hx hb d_Mod_closeNeeds_31 (by decide) (fun c4 => ?_) (fun c4 => ?_)
    · have h := ite_t c4 h
      refine lv_iconst (v := 0) hx hb d_Mod_closeNeeds_106 (by decide) ?_
      refine lv_istore_n (lv' := [(1, .int (0 : Int32)), (0, .ref (a0 0))]) hx hb d_Mod_closeNeeds_107 rfl hl (by decide) rfl (fun ls hl => ?_)
      exact k_Mod_closeNeeds_108 C0 fuel (0 : Int32) o0 _ _ _ hP hS (lv_sub hl [1, 0] rfl) h
    · have h := ite_f c4 h
      refine lv_aload_n hx hb d_Mod_closeNeeds_34 rfl (lv_at hl 0 rfl) ?_
      refine va_get (D := (dC, dI)) (ci := 6) (v := .ref (a0 6)) (C := R_Mod) (T := T_Mod) (N := 36) hx hb hts in_Mod hown hK (hP 0 _ rfl) 0 rfl rfl 9 (by decide) (hts _ fl_Mod_25) (fun _ h9 => h9) rfl d_Mod_closeNeeds_35 ?_
      refine lv_iload_n hx hb d_Mod_closeNeeds_38 rfl (lv_at hl 1 rfl) ?_
      obtain ⟨hi5, h⟩ := chk_some h
      refine va_iald (f := g32 o0 9) hx hb hK (hP 0 _ rfl) 6 0 rfl rfl (inb_in hi5) d_Mod_closeNeeds_39 ?_
      refine lv_istore_n (lv' := [(2, .int (g32 o0 9 (Int32.toNatClampNeg x1))), (0, .ref (a0 0)), (1, .int x1)]) hx hb d_Mod_closeNeeds_40 rfl hl (by decide) rfl (fun ls hl => ?_)
      exact k_Mod_closeNeeds_41 C0 ih fuel x1 (g32 o0 9 (Int32.toNatClampNeg x1)) o0 _ _ _ hP hS (lv_sub hl [1, 2, 0] rfl) h
set_option maxHeartbeats 4000000 in
set_option maxRecDepth 100000 in
theorem k_Mod_closeNeeds_2 {p : Program} {l : Launch} {e : Env} {s : State} {m : MethodId} {args : Array Value} {below : List Frame} {meth : Method} {c : Code} {A : Nat → Prop} {ct dC : Nat → ClassId} {dI : Nat → Nat → Nat} {a0 : Nat → Nat}  {n0 : Ob}   (C0 : cx wsAll vwCl nx p s m args meth c (dC, dI) (tyA ct) b_Mod_closeNeeds 4 (none : Option Jvm.ClassFile.FieldType) R_Mod A [adMod a0])  : ∀ (n : Nat) (x1 : Int32) (o0 : Ob) (H : Heap) (locs : List Loc) (ls : Array Slot), bw_P (dC, dI) vwCl [wMod ct a0 o0] H → va_S A s.heap H locs → lv_has ls 4 [(0, .ref (a0 0)), (1, .int x1)] → F_Mod_closeNeeds_2 n x1 o0 = some n0 → W p l e (headSpec ws_Mod_closeNeeds rm_Mod_closeNeeds).room s m args below meth c H locs 0 0 (MQ below (bw_Q (dC, dI) vwCl none [wMod ct a0 n0] A) args s 0 0 A) (F0 m 2 ls []) := by
  obtain ⟨hx, hb, hr, hml, hown, hlocks, hts, hK, hN, hA, hnx⟩ := id C0
  intro n
  induction n with
  | zero =>
    intro x1 o0 H locs ls hP hS hl h
    cases h
  | succ n ih =>
    intro x1 o0 H locs ls hP hS hl h
    rw [F_Mod_closeNeeds_2] at h
    refine lv_iload_n hx hb d_Mod_closeNeeds_2 rfl (lv_at hl 1 rfl) ?_
    refine lv_sipush (v := 3600) hx hb d_Mod_closeNeeds_3 (by decide) ?_
    refine lv_icmp_ge (tgt := 22) hx hb d_Mod_closeNeeds_6 (by decide) (fun c1 => ?_) (fun c1 => ?_)
    · have h := ite_t c1 h
      refine lv_iconst (v := 0) hx hb d_Mod_closeNeeds_22 (by decide) ?_
      refine lv_istore_n (lv' := [(1, .int (0 : Int32)), (0, .ref (a0 0))]) hx hb d_Mod_closeNeeds_23 rfl hl (by decide) rfl (fun ls hl => ?_)
      exact k_Mod_closeNeeds_24 C0 fuel (0 : Int32) o0 _ _ _ hP hS (lv_sub hl [1, 0] rfl) h
    · have h := ite_f c1 h
      refine lv_aload_n hx hb d_Mod_closeNeeds_9 rfl (lv_at hl 0 rfl) ?_
      refine va_get (D := (dC, dI)) (ci := 6) (v := .ref (a0 12)) (C := R_Mod) (T := T_Mod) (N := 36) hx hb hts in_Mod hown hK (hP 0 _ rfl) 0 rfl rfl 18 (by decide) (hts _ fl_Mod_44) (fun _ h9 => h9) rfl d_Mod_closeNeeds_10 ?_
      refine lv_iload_n hx hb d_Mod_closeNeeds_13 rfl (lv_at hl 1 rfl) ?_
      refine lv_iconst (v := 0) hx hb d_Mod_closeNeeds_14 (by decide) ?_
      obtain ⟨hi2, h⟩ := chk_some h
      refine st_Mod_18 hx hb hK hP hN hS 0 rfl (inb_in hi2) d_Mod_closeNeeds_15 (fun H locs hP hS => ?_)
      have hP : bw_P (dC, dI) vwCl [wMod ct a0 (s32 o0 18 (Int32.toNatClampNeg x1) (vp_nar .boolean (0 : Int32)))] H := hP
      refine lv_iinc (v := (x1 + (1 : Int32))) (lv' := [(1, .int (x1 + (1 : Int32))), (0, .ref (a0 0))]) hx hb d_Mod_closeNeeds_16 hl (k := 1) rfl rfl (by decide) rfl (fun ls hl => ?_)
      refine lv_goto (tgt := 2) hx hb d_Mod_closeNeeds_19 (by decide) ?_
      exact ih (x1 + (1 : Int32)) (s32 o0 18 (Int32.toNatClampNeg x1) (vp_nar .boolean (0 : Int32))) _ _ _ hP hS (lv_sub hl [1, 0] rfl) h
set_option maxHeartbeats 4000000 in
set_option maxRecDepth 100000 in
theorem c_Mod_closeNeeds (l : Launch) (ct dC : Nat → ClassId) (dI : Nat → Nat → Nat) (a0 : Nat → Nat)  (sz : Nat)  (o0 : Ob) (n0 : Ob) (hF : F_Mod_closeNeeds o0 = some n0) : Met l y_Mod_closeNeeds ws_Mod_closeNeeds rm_Mod_closeNeeds (bw_Pc [.ref (a0 0)] (dC, dI) vwCl (tyA ct) [wMod ct a0 o0] sz nx) (bw_Q (dC, dI) vwCl none [wMod ct a0 n0] (bw_A [adMod a0] sz)) 0 0 (bw_A [adMod a0] sz) := by
  refine Met.ofW (cc := b_Mod_closeNeeds) (maxL := 4) (ret := (none : Option Jvm.ClassFile.FieldType)) (by decide) rfl ?_
  intro p e s m args below meth c s₁ B hml hv
  obtain ⟨rfl, hsz, hP, hK, hN0, hnx⟩ := hv
  have hx := B.exec
  have hb := B.bytes
  have hr := B.returns
  have hts : ∀ w ∈ wsAll, w.before [.ref (a0 0)].toArray s = true := fun w h9 => atoms_spec (ws := ws_Mod_closeNeeds) B.pre w (List.mem_cons_of_mem _ h9)
  have hown : s.vm.findClass R_Mod = some m.cls := findClass_of_methodNamed B.named
  have hlocks := B.notSynchronized
  subst hsz
  have hN : bw_N (bw_A [adMod a0] s.heap.size) [adMod a0] := hN0.self s.heap.size
  generalize hAe : bw_A [adMod a0] s.heap.size = A at hN ⊢
  have hA : ∀ q : Nat, s.heap.size ≤ q → A q := fun q h => by rw [← hAe]; exact Or.inr h
  have hS : va_S A s.heap s.heap [] := va_S.rf
  have hl := lv_entry ([.ref (a0 0)]) (n := 4) (Nat.le_of_ble_eq_true rfl)
  rw [lg_entry_eq]
  generalize (lg_sl ([.ref (a0 0)]) ++ List.replicate (4 - (lg_sl ([.ref (a0 0)])).length) Slot.unset).toArray = ls at hl ⊢
  have hl : lv_has ls 4 [(0, .ref (a0 0))] := hl
  have C0 : cx wsAll vwCl nx p s m [.ref (a0 0)].toArray meth c (dC, dI) (tyA ct) b_Mod_closeNeeds 4 (none : Option Jvm.ClassFile.FieldType) R_Mod A [adMod a0] := ⟨hx, hb, hr, hml, hown, hlocks, hts, hK, hN, hA, hnx⟩
  have h := hF
  rw [F_Mod_closeNeeds] at h
  refine lv_iconst (v := 0) hx hb d_Mod_closeNeeds_0 (by decide) ?_
  refine lv_istore_n (lv' := [(1, .int (0 : Int32)), (0, .ref (a0 0))]) hx hb d_Mod_closeNeeds_1 rfl hl (by decide) rfl (fun ls hl => ?_)
  exact k_Mod_closeNeeds_2 C0 fuel (0 : Int32) o0 _ _ _ hP hS (lv_sub hl [1, 0] rfl) h
theorem g_Mod_173 : GoodIn wsAll (wsV R_Mod 173 R_Mod y_Mod_closeNeeds ws_Mod_closeNeeds) := gd_V ml_Mod_173 im_Mod_closeNeeds se_Mod_closeNeeds ini_Mod cd_Mod_closeNeeds
def F_Mod_accept_148  : Nat → Int32 → Ob → Option (Ob)
  | 0, _, _ => none
  | n + 1, x1, o0 =>
    chk (inb (0 : Int32) 2) (if (g32 o0 8 (Int32.toNatClampNeg (0 : Int32))) ≤ x1 then (bind1 (F_Mod_closeNeeds o0) (fun o_20 => some o_20)) else (chk (inb x1 50) (if (g32 o0 10 (Int32.toNatClampNeg x1)) < 0 then (F_Mod_accept_148 n (x1 + (1 : Int32)) o0) else (chk (inb (g32 o0 10 (Int32.toNatClampNeg x1)) 60) (F_Mod_accept_148 n (x1 + (1 : Int32)) (s32 o0 17 (Int32.toNatClampNeg (g32 o0 10 (Int32.toNatClampNeg x1))) x1))))))
def F_Mod_accept_127  : Nat → Int32 → Ob → Option (Ob)
  | 0, _, _ => none
  | n + 1, x1, o0 =>
    if (60 : Int32) ≤ x1 then (F_Mod_accept_148 fuel (0 : Int32) o0) else (chk (inb x1 60) (F_Mod_accept_127 n (x1 + (1 : Int32)) (s32 o0 17 (Int32.toNatClampNeg x1) (-1 : Int32))))
def F_Mod_accept_49  : Nat → Int32 → Ob → Option (Ob)
  | 0, _, _ => none
  | n + 1, x1, o0 =>
    if (25 : Int32) ≤ x1 then (chk (inb (1 : Int32) 2) (chk (inb (0 : Int32) 2) (F_Mod_accept_127 fuel (0 : Int32) (s32 (s32 (s32 (s32 o0 7 (Int32.toNatClampNeg (0 : Int32)) (g32 o0 7 (Int32.toNatClampNeg (1 : Int32)))) 8 (Int32.toNatClampNeg (0 : Int32)) (g32 o0 8 (Int32.toNatClampNeg (1 : Int32)))) 11 0 (1 : Int32)) 12 0 (0 : Int32))))) else (chk (inb ((25 : Int32) + x1) 50) (chk (inb x1 50) (F_Mod_accept_49 n (x1 + (1 : Int32)) (s32 (s32 o0 9 (Int32.toNatClampNeg x1) (g32 o0 9 (Int32.toNatClampNeg ((25 : Int32) + x1)))) 10 (Int32.toNatClampNeg x1) (g32 o0 10 (Int32.toNatClampNeg ((25 : Int32) + x1)))))))
def F_Mod_accept_2  : Nat → Int32 → Ob → Option (Ob)
  | 0, _, _ => none
  | n + 1, x1, o0 =>
    if (500 : Int32) ≤ x1 then (F_Mod_accept_49 fuel (0 : Int32) o0) else (chk (inb ((500 : Int32) + x1) 1000) (chk (inb x1 1000) (F_Mod_accept_2 n (x1 + (1 : Int32)) (s32 (s32 o0 5 (Int32.toNatClampNeg x1) (g32 o0 5 (Int32.toNatClampNeg ((500 : Int32) + x1)))) 6 (Int32.toNatClampNeg x1) (g32 o0 6 (Int32.toNatClampNeg ((500 : Int32) + x1)))))))
def F_Mod_accept  (o0 : Ob) : Option (Ob) :=
  F_Mod_accept_2 fuel (0 : Int32) o0
abbrev ws_Mod_accept : List Cond := Cond.code y_Mod_accept b_Mod_accept 2 (none : Option Jvm.ClassFile.FieldType) :: wsAll
abbrev rm_Mod_accept : Room := { frames := 1, cells := 0, slots := 0, locals := 23 }
set_option maxHeartbeats 4000000 in
set_option maxRecDepth 100000 in
theorem k_Mod_accept_148 {p : Program} {l : Launch} {e : Env} {s : State} {m : MethodId} {args : Array Value} {below : List Frame} {meth : Method} {c : Code} {A : Nat → Prop} {ct dC : Nat → ClassId} {dI : Nat → Nat → Nat} {a0 : Nat → Nat}  {n0 : Ob}   (C0 : cx wsAll vwCl nx p s m args meth c (dC, dI) (tyA ct) b_Mod_accept 2 (none : Option Jvm.ClassFile.FieldType) R_Mod A [adMod a0])  : ∀ (n : Nat) (x1 : Int32) (o0 : Ob) (H : Heap) (locs : List Loc) (ls : Array Slot), bw_P (dC, dI) vwCl [wMod ct a0 o0] H → va_S A s.heap H locs → lv_has ls 2 [(0, .ref (a0 0)), (1, .int x1)] → F_Mod_accept_148 n x1 o0 = some n0 → W p l e (headSpec ws_Mod_accept rm_Mod_accept).room s m args below meth c H locs 0 0 (MQ below (bw_Q (dC, dI) vwCl none [wMod ct a0 n0] A) args s 0 0 A) (F0 m 148 ls []) := by
  obtain ⟨hx, hb, hr, hml, hown, hlocks, hts, hK, hN, hA, hnx⟩ := id C0
  intro n
  induction n with
  | zero =>
    intro x1 o0 H locs ls hP hS hl h
    cases h
  | succ n ih =>
    intro x1 o0 H locs ls hP hS hl h
    rw [F_Mod_accept_148] at h
    refine lv_iload_n hx hb d_Mod_accept_148 rfl (lv_at hl 1 rfl) ?_
    refine lv_aload_n hx hb d_Mod_accept_149 rfl (lv_at hl 0 rfl) ?_
    refine va_get (D := (dC, dI)) (ci := 6) (v := .ref (a0 5)) (C := R_Mod) (T := T_Mod) (N := 36) hx hb hts in_Mod hown hK (hP 0 _ rfl) 0 rfl rfl 8 (by decide) (hts _ fl_Mod_22) (fun _ h9 => h9) rfl d_Mod_accept_150 ?_
    refine lv_iconst (v := 0) hx hb d_Mod_accept_153 (by decide) ?_
    obtain ⟨hi17, h⟩ := chk_some h
    refine va_iald (f := g32 o0 8) hx hb hK (hP 0 _ rfl) 5 0 rfl rfl (inb_in hi17) d_Mod_accept_154 ?_
    refine lv_icmp_ge (tgt := 185) hx hb d_Mod_accept_155 (by decide) (fun c18 => ?_) (fun c18 => ?_)
    · have h := ite_t c18 h
      refine lv_aload_n hx hb d_Mod_accept_185 rfl (lv_at hl 0 rfl) ?_
      obtain ⟨o_20, hG19, h⟩ := bind1_some h
      refine bw_call (Lc := [wMod ct a0 o0]) (Lc' := [wMod ct a0 o_20]) (L' := [wMod ct a0 o_20]) [0] (va_runV (As := []) (rest := []) ⟨hx, hb, hml, hown, hts⟩ (c_Mod_closeNeeds l ct dC dI a0 _ o0 o_20 hG19) (cwV 0 hts g_Mod_173 rfl rfl rfl (by decide +kernel) ⟨Nat.le_of_ble_eq_true rfl, Nat.le_of_ble_eq_true rfl⟩) ⟨bw_blind nx_call, va_recv hK (hP 0 _ rfl) (ci := 6) (q0 := 0) rfl rfl, fun U hU hW => ⟨rfl, by rw [hU], by rw [hU]; exact hP.sub [0] rfl, va_K.moved hW.alike hK, (hN.sub [0] (by decide) rfl).weaken (fun _ _ => trivial), nx_warm hW hnx⟩⟩ rfl rfl hl.1 rfl (Nat.le_of_ble_eq_true rfl) d_Mod_accept_186 ⟨Nat.le_of_ble_eq_true rfl, Nat.le_of_ble_eq_true rfl⟩) hP hN hS hA rfl rfl rfl (fun H locs hP hS => ?_)
      obtain rfl := res1 h
      exact W.vret hx hb hr (fun t ht hW => ⟨rfl, by rw [ht]; exact hP, hS.F ht⟩) hS.2.2 d_Mod_accept_189
    · have h := ite_f c18 h
      refine lv_aload_n hx hb d_Mod_accept_158 rfl (lv_at hl 0 rfl) ?_
      refine va_get (D := (dC, dI)) (ci := 6) (v := .ref (a0 7)) (C := R_Mod) (T := T_Mod) (N := 36) hx hb hts in_Mod hown hK (hP 0 _ rfl) 0 rfl rfl 10 (by decide) (hts _ fl_Mod_28) (fun _ h9 => h9) rfl d_Mod_accept_159 ?_
      refine lv_iload_n hx hb d_Mod_accept_162 rfl (lv_at hl 1 rfl) ?_
      obtain ⟨hi21, h⟩ := chk_some h
      refine va_iald (f := g32 o0 10) hx hb hK (hP 0 _ rfl) 7 0 rfl rfl (inb_in hi21) d_Mod_accept_163 ?_
      refine lv_if_lt (tgt := 179) hx hb d_Mod_accept_164 (by decide) (fun c22 => ?_) (fun c22 => ?_)
      · have h := ite_t c22 h
        refine lv_iinc (v := (x1 + (1 : Int32))) (lv' := [(1, .int (x1 + (1 : Int32))), (0, .ref (a0 0))]) hx hb d_Mod_accept_179 hl (k := 1) rfl rfl (by decide) rfl (fun ls hl => ?_)
        refine lv_goto (tgt := 148) hx hb d_Mod_accept_182 (by decide) ?_
        exact ih (x1 + (1 : Int32)) o0 _ _ _ hP hS (lv_sub hl [1, 0] rfl) h
      · have h := ite_f c22 h
        refine lv_aload_n hx hb d_Mod_accept_167 rfl (lv_at hl 0 rfl) ?_
        refine va_get (D := (dC, dI)) (ci := 6) (v := .ref (a0 11)) (C := R_Mod) (T := T_Mod) (N := 36) hx hb hts in_Mod hown hK (hP 0 _ rfl) 0 rfl rfl 17 (by decide) (hts _ fl_Mod_41) (fun _ h9 => h9) rfl d_Mod_accept_168 ?_
        refine lv_aload_n hx hb d_Mod_accept_171 rfl (lv_at hl 0 rfl) ?_
        refine va_get (D := (dC, dI)) (ci := 6) (v := .ref (a0 7)) (C := R_Mod) (T := T_Mod) (N := 36) hx hb hts in_Mod hown hK (hP 0 _ rfl) 0 rfl rfl 10 (by decide) (hts _ fl_Mod_28) (fun _ h9 => h9) rfl d_Mod_accept_172 ?_
        refine lv_iload_n hx hb d_Mod_accept_175 rfl (lv_at hl 1 rfl) ?_
        refine va_iald (f := g32 o0 10) hx hb hK (hP 0 _ rfl) 7 0 rfl rfl (inb_in hi21) d_Mod_accept_176 ?_
        refine lv_iload_n hx hb d_Mod_accept_177 rfl (lv_at hl 1 rfl) ?_
        obtain ⟨hi24, h⟩ := chk_some h
        refine st_Mod_17 hx hb hK hP hN hS 0 rfl (inb_in hi24) d_Mod_accept_178 (fun H locs hP hS => ?_)
        have hP : bw_P (dC, dI) vwCl [wMod ct a0 (s32 o0 17 (Int32.toNatClampNeg (g32 o0 10 (Int32.toNatClampNeg x1))) x1)] H := hP
        refine lv_iinc (v := (x1 + (1 : Int32))) (lv' := [(1, .int (x1 + (1 : Int32))), (0, .ref (a0 0))]) hx hb d_Mod_accept_179 hl (k := 1) rfl rfl (by decide) rfl (fun ls hl => ?_)
        refine lv_goto (tgt := 148) hx hb d_Mod_accept_182 (by decide) ?_
        exact ih (x1 + (1 : Int32)) (s32 o0 17 (Int32.toNatClampNeg (g32 o0 10 (Int32.toNatClampNeg x1))) x1) _ _ _ hP hS (lv_sub hl [1, 0] rfl) h
set_option maxHeartbeats 4000000 in
set_option maxRecDepth 100000 in
theorem k_Mod_accept_127 {p : Program} {l : Launch} {e : Env} {s : State} {m : MethodId} {args : Array Value} {below : List Frame} {meth : Method} {c : Code} {A : Nat → Prop} {ct dC : Nat → ClassId} {dI : Nat → Nat → Nat} {a0 : Nat → Nat}  {n0 : Ob}   (C0 : cx wsAll vwCl nx p s m args meth c (dC, dI) (tyA ct) b_Mod_accept 2 (none : Option Jvm.ClassFile.FieldType) R_Mod A [adMod a0])  : ∀ (n : Nat) (x1 : Int32) (o0 : Ob) (H : Heap) (locs : List Loc) (ls : Array Slot), bw_P (dC, dI) vwCl [wMod ct a0 o0] H → va_S A s.heap H locs → lv_has ls 2 [(0, .ref (a0 0)), (1, .int x1)] → F_Mod_accept_127 n x1 o0 = some n0 → W p l e (headSpec ws_Mod_accept rm_Mod_accept).room s m args below meth c H locs 0 0 (MQ below (bw_Q (dC, dI) vwCl none [wMod ct a0 n0] A) args s 0 0 A) (F0 m 127 ls []) := by
  obtain ⟨hx, hb, hr, hml, hown, hlocks, hts, hK, hN, hA, hnx⟩ := id C0
  intro n
  induction n with
  | zero =>
    intro x1 o0 H locs ls hP hS hl h
    cases h
  | succ n ih =>
    intro x1 o0 H locs ls hP hS hl h
    rw [F_Mod_accept_127] at h
    refine lv_iload_n hx hb d_Mod_accept_127 rfl (lv_at hl 1 rfl) ?_
    refine lv_bipush (v := 60) hx hb d_Mod_accept_128 (by decide) ?_
    refine lv_icmp_ge (tgt := 146) hx hb d_Mod_accept_130 (by decide) (fun c15 => ?_) (fun c15 => ?_)
    · have h := ite_t c15 h
      refine lv_iconst (v := 0) hx hb d_Mod_accept_146 (by decide) ?_
      refine lv_istore_n (lv' := [(1, .int (0 : Int32)), (0, .ref (a0 0))]) hx hb d_Mod_accept_147 rfl hl (by decide) rfl (fun ls hl => ?_)
      exact k_Mod_accept_148 C0 fuel (0 : Int32) o0 _ _ _ hP hS (lv_sub hl [1, 0] rfl) h
    · have h := ite_f c15 h
      refine lv_aload_n hx hb d_Mod_accept_133 rfl (lv_at hl 0 rfl) ?_
      refine va_get (D := (dC, dI)) (ci := 6) (v := .ref (a0 11)) (C := R_Mod) (T := T_Mod) (N := 36) hx hb hts in_Mod hown hK (hP 0 _ rfl) 0 rfl rfl 17 (by decide) (hts _ fl_Mod_41) (fun _ h9 => h9) rfl d_Mod_accept_134 ?_
      refine lv_iload_n hx hb d_Mod_accept_137 rfl (lv_at hl 1 rfl) ?_
      refine lv_iconst (v := -1) hx hb d_Mod_accept_138 (by decide) ?_
      obtain ⟨hi16, h⟩ := chk_some h
      refine st_Mod_17 hx hb hK hP hN hS 0 rfl (inb_in hi16) d_Mod_accept_139 (fun H locs hP hS => ?_)
      have hP : bw_P (dC, dI) vwCl [wMod ct a0 (s32 o0 17 (Int32.toNatClampNeg x1) (-1 : Int32))] H := hP
      refine lv_iinc (v := (x1 + (1 : Int32))) (lv' := [(1, .int (x1 + (1 : Int32))), (0, .ref (a0 0))]) hx hb d_Mod_accept_140 hl (k := 1) rfl rfl (by decide) rfl (fun ls hl => ?_)
      refine lv_goto (tgt := 127) hx hb d_Mod_accept_143 (by decide) ?_
      exact ih (x1 + (1 : Int32)) (s32 o0 17 (Int32.toNatClampNeg x1) (-1 : Int32)) _ _ _ hP hS (lv_sub hl [1, 0] rfl) h
set_option maxHeartbeats 4000000 in
set_option maxRecDepth 100000 in
theorem k_Mod_accept_49 {p : Program} {l : Launch} {e : Env} {s : State} {m : MethodId} {args : Array Value} {below : List Frame} {meth : Method} {c : Code} {A : Nat → Prop} {ct dC : Nat → ClassId} {dI : Nat → Nat → Nat} {a0 : Nat → Nat}  {n0 : Ob}   (C0 : cx wsAll vwCl nx p s m args meth c (dC, dI) (tyA ct) b_Mod_accept 2 (none : Option Jvm.ClassFile.FieldType) R_Mod A [adMod a0])  : ∀ (n : Nat) (x1 : Int32) (o0 : Ob) (H : Heap) (locs : List Loc) (ls : Array Slot), bw_P (dC, dI) vwCl [wMod ct a0 o0] H → va_S A s.heap H locs → lv_has ls 2 [(0, .ref (a0 0)), (1, .int x1)] → F_Mod_accept_49 n x1 o0 = some n0 → W p l e (headSpec ws_Mod_accept rm_Mod_accept).room s m args below meth c H locs 0 0 (MQ below (bw_Q (dC, dI) vwCl none [wMod ct a0 n0] A) args s 0 0 A) (F0 m 49 ls []) := by
  obtain ⟨hx, hb, hr, hml, hown, hlocks, hts, hK, hN, hA, hnx⟩ := id C0
  intro n
  induction n with
  | zero =>
    intro x1 o0 H locs ls hP hS hl h
    cases h
  | succ n ih =>
    intro x1 o0 H locs ls hP hS hl h
    rw [F_Mod_accept_49] at h
    refine lv_iload_n hx hb d_Mod_accept_49 rfl (lv_at hl 1 rfl) ?_
    refine lv_bipush (v := 25) hx hb d_Mod_accept_50 (by decide) ?_
    refine lv_icmp_ge (tgt := 91) hx hb d_Mod_accept_52 (by decide) (fun c6 => ?_) (fun c6 => ?_)
    · have h := ite_t c6 h
      refine lv_aload_n hx hb d_Mod_accept_91 rfl (lv_at hl 0 rfl) ?_
      refine va_get (D := (dC, dI)) (ci := 6) (v := .ref (a0 4)) (C := R_Mod) (T := T_Mod) (N := 36) hx hb hts in_Mod hown hK (hP 0 _ rfl) 0 rfl rfl 7 (by decide) (hts _ fl_Mod_19) (fun _ h9 => h9) rfl d_Mod_accept_92 ?_
      refine lv_iconst (v := 0) hx hb d_Mod_accept_95 (by decide) ?_
      refine lv_aload_n hx hb d_Mod_accept_96 rfl (lv_at hl 0 rfl) ?_
      refine va_get (D := (dC, dI)) (ci := 6) (v := .ref (a0 4)) (C := R_Mod) (T := T_Mod) (N := 36) hx hb hts in_Mod hown hK (hP 0 _ rfl) 0 rfl rfl 7 (by decide) (hts _ fl_Mod_19) (fun _ h9 => h9) rfl d_Mod_accept_97 ?_
      refine lv_iconst (v := 1) hx hb d_Mod_accept_100 (by decide) ?_
      obtain ⟨hi7, h⟩ := chk_some h
      refine va_iald (f := g32 o0 7) hx hb hK (hP 0 _ rfl) 4 0 rfl rfl (inb_in hi7) d_Mod_accept_101 ?_
      obtain ⟨hi8, h⟩ := chk_some h
      refine st_Mod_7 hx hb hK hP hN hS 0 rfl (inb_in hi8) d_Mod_accept_102 (fun H locs hP hS => ?_)
      have hP : bw_P (dC, dI) vwCl [wMod ct a0 (s32 o0 7 (Int32.toNatClampNeg (0 : Int32)) (g32 o0 7 (Int32.toNatClampNeg (1 : Int32))))] H := hP
      refine lv_aload_n hx hb d_Mod_accept_103 rfl (lv_at hl 0 rfl) ?_
      refine va_get (D := (dC, dI)) (ci := 6) (v := .ref (a0 5)) (C := R_Mod) (T := T_Mod) (N := 36) hx hb hts in_Mod hown hK (hP 0 _ rfl) 0 rfl rfl 8 (by decide) (hts _ fl_Mod_22) (fun _ h9 => h9) rfl d_Mod_accept_104 ?_
      refine lv_iconst (v := 0) hx hb d_Mod_accept_107 (by decide) ?_
      refine lv_aload_n hx hb d_Mod_accept_108 rfl (lv_at hl 0 rfl) ?_
      refine va_get (D := (dC, dI)) (ci := 6) (v := .ref (a0 5)) (C := R_Mod) (T := T_Mod) (N := 36) hx hb hts in_Mod hown hK (hP 0 _ rfl) 0 rfl rfl 8 (by decide) (hts _ fl_Mod_22) (fun _ h9 => h9) rfl d_Mod_accept_109 ?_
      refine lv_iconst (v := 1) hx hb d_Mod_accept_112 (by decide) ?_
      refine va_iald (f := g32 o0 8) hx hb hK (hP 0 _ rfl) 5 0 rfl rfl (inb_in hi7) d_Mod_accept_113 ?_
      refine st_Mod_8 hx hb hK hP hN hS 0 rfl (inb_in hi8) d_Mod_accept_114 (fun H locs hP hS => ?_)
      have hP : bw_P (dC, dI) vwCl [wMod ct a0 (s32 (s32 o0 7 (Int32.toNatClampNeg (0 : Int32)) (g32 o0 7 (Int32.toNatClampNeg (1 : Int32)))) 8 (Int32.toNatClampNeg (0 : Int32)) (g32 o0 8 (Int32.toNatClampNeg (1 : Int32))))] H := hP
      refine lv_aload_n hx hb d_Mod_accept_115 rfl (lv_at hl 0 rfl) ?_
      refine lv_iconst (v := 1) hx hb d_Mod_accept_116 (by decide) ?_
      refine pt_Mod_11 hx hb hts hown hK hP hN hS 0 rfl (hts _ fl_Mod_166) rfl rfl d_Mod_accept_117 (fun H locs hP hS => ?_)
      have hP : bw_P (dC, dI) vwCl [wMod ct a0 (s32 (s32 (s32 o0 7 (Int32.toNatClampNeg (0 : Int32)) (g32 o0 7 (Int32.toNatClampNeg (1 : Int32)))) 8 (Int32.toNatClampNeg (0 : Int32)) (g32 o0 8 (Int32.toNatClampNeg (1 : Int32)))) 11 0 (1 : Int32))] H := hP
      refine lv_aload_n hx hb d_Mod_accept_120 rfl (lv_at hl 0 rfl) ?_
      refine lv_iconst (v := 0) hx hb d_Mod_accept_121 (by decide) ?_
      refine pt_Mod_12 hx hb hts hown hK hP hN hS 0 rfl (hts _ fl_Mod_170) rfl rfl d_Mod_accept_122 (fun H locs hP hS => ?_)
      have hP : bw_P (dC, dI) vwCl [wMod ct a0 (s32 (s32 (s32 (s32 o0 7 (Int32.toNatClampNeg (0 : Int32)) (g32 o0 7 (Int32.toNatClampNeg (1 : Int32)))) 8 (Int32.toNatClampNeg (0 : Int32)) (g32 o0 8 (Int32.toNatClampNeg (1 : Int32)))) 11 0 (1 : Int32)) 12 0 (0 : Int32))] H := hP
      refine lv_iconst (v := 0) hx hb d_Mod_accept_125 (by decide) ?_
      refine lv_istore_n (lv' := [(1, .int (0 : Int32)), (0, .ref (a0 0))]) hx hb d_Mod_accept_126 rfl hl (by decide) rfl (fun ls hl => ?_)
      exact k_Mod_accept_127 C0 fuel (0 : Int32) (s32 (s32 (s32 (s32 o0 7 (Int32.toNatClampNeg (0 : Int32)) (g32 o0 7 (Int32.toNatClampNeg (1 : Int32)))) 8 (Int32.toNatClampNeg (0 : Int32)) (g32 o0 8 (Int32.toNatClampNeg (1 : Int32)))) 11 0 (1 : Int32)) 12 0 (0 : Int32)) _ _ _ hP hS (lv_sub hl [1, 0] rfl) h
    · have h := ite_f c6 h
      refine lv_aload_n hx hb d_Mod_accept_55 rfl (lv_at hl 0 rfl) ?_
      refine va_get (D := (dC, dI)) (ci := 6) (v := .ref (a0 6)) (C := R_Mod) (T := T_Mod) (N := 36) hx hb hts in_Mod hown hK (hP 0 _ rfl) 0 rfl rfl 9 (by decide) (hts _ fl_Mod_25) (fun _ h9 => h9) rfl d_Mod_accept_56 ?_
      refine lv_iload_n hx hb d_Mod_accept_59 rfl (lv_at hl 1 rfl) ?_
      refine lv_aload_n hx hb d_Mod_accept_60 rfl (lv_at hl 0 rfl) ?_
      refine va_get (D := (dC, dI)) (ci := 6) (v := .ref (a0 6)) (C := R_Mod) (T := T_Mod) (N := 36) hx hb hts in_Mod hown hK (hP 0 _ rfl) 0 rfl rfl 9 (by decide) (hts _ fl_Mod_25) (fun _ h9 => h9) rfl d_Mod_accept_61 ?_
      refine lv_bipush (v := 25) hx hb d_Mod_accept_64 (by decide) ?_
      refine lv_iload_n hx hb d_Mod_accept_66 rfl (lv_at hl 1 rfl) ?_
      refine lv_iadd hx hb d_Mod_accept_67 ?_
      obtain ⟨hi11, h⟩ := chk_some h
      refine va_iald (f := g32 o0 9) hx hb hK (hP 0 _ rfl) 6 0 rfl rfl (inb_in hi11) d_Mod_accept_68 ?_
      obtain ⟨hi12, h⟩ := chk_some h
      refine st_Mod_9 hx hb hK hP hN hS 0 rfl (inb_in hi12) d_Mod_accept_69 (fun H locs hP hS => ?_)
      have hP : bw_P (dC, dI) vwCl [wMod ct a0 (s32 o0 9 (Int32.toNatClampNeg x1) (g32 o0 9 (Int32.toNatClampNeg ((25 : Int32) + x1))))] H := hP
      refine lv_aload_n hx hb d_Mod_accept_70 rfl (lv_at hl 0 rfl) ?_
      refine va_get (D := (dC, dI)) (ci := 6) (v := .ref (a0 7)) (C := R_Mod) (T := T_Mod) (N := 36) hx hb hts in_Mod hown hK (hP 0 _ rfl) 0 rfl rfl 10 (by decide) (hts _ fl_Mod_28) (fun _ h9 => h9) rfl d_Mod_accept_71 ?_
      refine lv_iload_n hx hb d_Mod_accept_74 rfl (lv_at hl 1 rfl) ?_
      refine lv_aload_n hx hb d_Mod_accept_75 rfl (lv_at hl 0 rfl) ?_
      refine va_get (D := (dC, dI)) (ci := 6) (v := .ref (a0 7)) (C := R_Mod) (T := T_Mod) (N := 36) hx hb hts in_Mod hown hK (hP 0 _ rfl) 0 rfl rfl 10 (by decide) (hts _ fl_Mod_28) (fun _ h9 => h9) rfl d_Mod_accept_76 ?_
      refine lv_bipush (v := 25) hx hb d_Mod_accept_79 (by decide) ?_
      refine lv_iload_n hx hb d_Mod_accept_81 rfl (lv_at hl 1 rfl) ?_
      refine lv_iadd hx hb d_Mod_accept_82 ?_
      refine va_iald (f := g32 o0 10) hx hb hK (hP 0 _ rfl) 7 0 rfl rfl (inb_in hi11) d_Mod_accept_83 ?_
      refine st_Mod_10 hx hb hK hP hN hS 0 rfl (inb_in hi12) d_Mod_accept_84 (fun H locs hP hS => ?_)
      have hP : bw_P (dC, dI) vwCl [wMod ct a0 (s32 (s32 o0 9 (Int32.toNatClampNeg x1) (g32 o0 9 (Int32.toNatClampNeg ((25 : Int32) + x1)))) 10 (Int32.toNatClampNeg x1) (g32 o0 10 (Int32.toNatClampNeg ((25 : Int32) + x1))))] H := hP
      refine lv_iinc (v := (x1 + (1 : Int32))) (lv' := [(1, .int (x1 + (1 : Int32))), (0, .ref (a0 0))]) hx hb d_Mod_accept_85 hl (k := 1) rfl rfl (by decide) rfl (fun ls hl => ?_)
      refine lv_goto (tgt := 49) hx hb d_Mod_accept_88 (by decide) ?_
      exact ih (x1 + (1 : Int32)) (s32 (s32 o0 9 (Int32.toNatClampNeg x1) (g32 o0 9 (Int32.toNatClampNeg ((25 : Int32) + x1)))) 10 (Int32.toNatClampNeg x1) (g32 o0 10 (Int32.toNatClampNeg ((25 : Int32) + x1)))) _ _ _ hP hS (lv_sub hl [1, 0] rfl) h
set_option maxHeartbeats 4000000 in
set_option maxRecDepth 100000 in
theorem k_Mod_accept_2 {p : Program} {l : Launch} {e : Env} {s : State} {m : MethodId} {args : Array Value} {below : List Frame} {meth : Method} {c : Code} {A : Nat → Prop} {ct dC : Nat → ClassId} {dI : Nat → Nat → Nat} {a0 : Nat → Nat}  {n0 : Ob}   (C0 : cx wsAll vwCl nx p s m args meth c (dC, dI) (tyA ct) b_Mod_accept 2 (none : Option Jvm.ClassFile.FieldType) R_Mod A [adMod a0])  : ∀ (n : Nat) (x1 : Int32) (o0 : Ob) (H : Heap) (locs : List Loc) (ls : Array Slot), bw_P (dC, dI) vwCl [wMod ct a0 o0] H → va_S A s.heap H locs → lv_has ls 2 [(0, .ref (a0 0)), (1, .int x1)] → F_Mod_accept_2 n x1 o0 = some n0 → W p l e (headSpec ws_Mod_accept rm_Mod_accept).room s m args below meth c H locs 0 0 (MQ below (bw_Q (dC, dI) vwCl none [wMod ct a0 n0] A) args s 0 0 A) (F0 m 2 ls []) := by
  obtain ⟨hx, hb, hr, hml, hown, hlocks, hts, hK, hN, hA, hnx⟩ := id C0
  intro n
  induction n with
  | zero =>
    intro x1 o0 H locs ls hP hS hl h
    cases h
  | succ n ih =>
    intro x1 o0 H locs ls hP hS hl h
    rw [F_Mod_accept_2] at h
    refine lv_iload_n hx hb d_Mod_accept_2 rfl (lv_at hl 1 rfl) ?_
    refine lv_sipush (v := 500) hx hb d_Mod_accept_3 (by decide) ?_
    refine lv_icmp_ge (tgt := 47) hx hb d_Mod_accept_6 (by decide) (fun c1 => ?_) (fun c1 => ?_)
    · have h := ite_t c1 h
      refine lv_iconst (v := 0) hx hb d_Mod_accept_47 (by decide) ?_
      refine lv_istore_n (lv' := [(1, .int (0 : Int32)), (0, .ref (a0 0))]) hx hb d_Mod_accept_48 rfl hl (by decide) rfl (fun ls hl => ?_)
      exact k_Mod_accept_49 C0 fuel (0 : Int32) o0 _ _ _ hP hS (lv_sub hl [1, 0] rfl) h
    · have h := ite_f c1 h
      refine lv_aload_n hx hb d_Mod_accept_9 rfl (lv_at hl 0 rfl) ?_
      refine va_get (D := (dC, dI)) (ci := 6) (v := .ref (a0 2)) (C := R_Mod) (T := T_Mod) (N := 36) hx hb hts in_Mod hown hK (hP 0 _ rfl) 0 rfl rfl 5 (by decide) (hts _ fl_Mod_13) (fun _ h9 => h9) rfl d_Mod_accept_10 ?_
      refine lv_iload_n hx hb d_Mod_accept_13 rfl (lv_at hl 1 rfl) ?_
      refine lv_aload_n hx hb d_Mod_accept_14 rfl (lv_at hl 0 rfl) ?_
      refine va_get (D := (dC, dI)) (ci := 6) (v := .ref (a0 2)) (C := R_Mod) (T := T_Mod) (N := 36) hx hb hts in_Mod hown hK (hP 0 _ rfl) 0 rfl rfl 5 (by decide) (hts _ fl_Mod_13) (fun _ h9 => h9) rfl d_Mod_accept_15 ?_
      refine lv_sipush (v := 500) hx hb d_Mod_accept_18 (by decide) ?_
      refine lv_iload_n hx hb d_Mod_accept_21 rfl (lv_at hl 1 rfl) ?_
      refine lv_iadd hx hb d_Mod_accept_22 ?_
      obtain ⟨hi2, h⟩ := chk_some h
      refine va_iald (f := g32 o0 5) hx hb hK (hP 0 _ rfl) 2 0 rfl rfl (inb_in hi2) d_Mod_accept_23 ?_
      obtain ⟨hi3, h⟩ := chk_some h
      refine st_Mod_5 hx hb hK hP hN hS 0 rfl (inb_in hi3) d_Mod_accept_24 (fun H locs hP hS => ?_)
      have hP : bw_P (dC, dI) vwCl [wMod ct a0 (s32 o0 5 (Int32.toNatClampNeg x1) (g32 o0 5 (Int32.toNatClampNeg ((500 : Int32) + x1))))] H := hP
      refine lv_aload_n hx hb d_Mod_accept_25 rfl (lv_at hl 0 rfl) ?_
      refine va_get (D := (dC, dI)) (ci := 6) (v := .ref (a0 3)) (C := R_Mod) (T := T_Mod) (N := 36) hx hb hts in_Mod hown hK (hP 0 _ rfl) 0 rfl rfl 6 (by decide) (hts _ fl_Mod_16) (fun _ h9 => h9) rfl d_Mod_accept_26 ?_
      refine lv_iload_n hx hb d_Mod_accept_29 rfl (lv_at hl 1 rfl) ?_
      refine lv_aload_n hx hb d_Mod_accept_30 rfl (lv_at hl 0 rfl) ?_
      refine va_get (D := (dC, dI)) (ci := 6) (v := .ref (a0 3)) (C := R_Mod) (T := T_Mod) (N := 36) hx hb hts in_Mod hown hK (hP 0 _ rfl) 0 rfl rfl 6 (by decide) (hts _ fl_Mod_16) (fun _ h9 => h9) rfl d_Mod_accept_31 ?_
      refine lv_sipush (v := 500) hx hb d_Mod_accept_34 (by decide) ?_
      refine lv_iload_n hx hb d_Mod_accept_37 rfl (lv_at hl 1 rfl) ?_
      refine lv_iadd hx hb d_Mod_accept_38 ?_
      refine va_iald (f := g32 o0 6) hx hb hK (hP 0 _ rfl) 3 0 rfl rfl (inb_in hi2) d_Mod_accept_39 ?_
      refine st_Mod_6 hx hb hK hP hN hS 0 rfl (inb_in hi3) d_Mod_accept_40 (fun H locs hP hS => ?_)
      have hP : bw_P (dC, dI) vwCl [wMod ct a0 (s32 (s32 o0 5 (Int32.toNatClampNeg x1) (g32 o0 5 (Int32.toNatClampNeg ((500 : Int32) + x1)))) 6 (Int32.toNatClampNeg x1) (g32 o0 6 (Int32.toNatClampNeg ((500 : Int32) + x1))))] H := hP
      refine lv_iinc (v := (x1 + (1 : Int32))) (lv' := [(1, .int (x1 + (1 : Int32))), (0, .ref (a0 0))]) hx hb d_Mod_accept_41 hl (k := 1) rfl rfl (by decide) rfl (fun ls hl => ?_)
      refine lv_goto (tgt := 2) hx hb d_Mod_accept_44 (by decide) ?_
      exact ih (x1 + (1 : Int32)) (s32 (s32 o0 5 (Int32.toNatClampNeg x1) (g32 o0 5 (Int32.toNatClampNeg ((500 : Int32) + x1)))) 6 (Int32.toNatClampNeg x1) (g32 o0 6 (Int32.toNatClampNeg ((500 : Int32) + x1)))) _ _ _ hP hS (lv_sub hl [1, 0] rfl) h
set_option maxHeartbeats 4000000 in
set_option maxRecDepth 100000 in
theorem c_Mod_accept (l : Launch) (ct dC : Nat → ClassId) (dI : Nat → Nat → Nat) (a0 : Nat → Nat)  (sz : Nat)  (o0 : Ob) (n0 : Ob) (hF : F_Mod_accept o0 = some n0) : Met l y_Mod_accept ws_Mod_accept rm_Mod_accept (bw_Pc [.ref (a0 0)] (dC, dI) vwCl (tyA ct) [wMod ct a0 o0] sz nx) (bw_Q (dC, dI) vwCl none [wMod ct a0 n0] (bw_A [adMod a0] sz)) 0 0 (bw_A [adMod a0] sz) := by
  refine Met.ofW (cc := b_Mod_accept) (maxL := 2) (ret := (none : Option Jvm.ClassFile.FieldType)) (by decide) rfl ?_
  intro p e s m args below meth c s₁ B hml hv
  obtain ⟨rfl, hsz, hP, hK, hN0, hnx⟩ := hv
  have hx := B.exec
  have hb := B.bytes
  have hr := B.returns
  have hts : ∀ w ∈ wsAll, w.before [.ref (a0 0)].toArray s = true := fun w h9 => atoms_spec (ws := ws_Mod_accept) B.pre w (List.mem_cons_of_mem _ h9)
  have hown : s.vm.findClass R_Mod = some m.cls := findClass_of_methodNamed B.named
  have hlocks := B.notSynchronized
  subst hsz
  have hN : bw_N (bw_A [adMod a0] s.heap.size) [adMod a0] := hN0.self s.heap.size
  generalize hAe : bw_A [adMod a0] s.heap.size = A at hN ⊢
  have hA : ∀ q : Nat, s.heap.size ≤ q → A q := fun q h => by rw [← hAe]; exact Or.inr h
  have hS : va_S A s.heap s.heap [] := va_S.rf
  have hl := lv_entry ([.ref (a0 0)]) (n := 2) (Nat.le_of_ble_eq_true rfl)
  rw [lg_entry_eq]
  generalize (lg_sl ([.ref (a0 0)]) ++ List.replicate (2 - (lg_sl ([.ref (a0 0)])).length) Slot.unset).toArray = ls at hl ⊢
  have hl : lv_has ls 2 [(0, .ref (a0 0))] := hl
  have C0 : cx wsAll vwCl nx p s m [.ref (a0 0)].toArray meth c (dC, dI) (tyA ct) b_Mod_accept 2 (none : Option Jvm.ClassFile.FieldType) R_Mod A [adMod a0] := ⟨hx, hb, hr, hml, hown, hlocks, hts, hK, hN, hA, hnx⟩
  have h := hF
  rw [F_Mod_accept] at h
  refine lv_iconst (v := 0) hx hb d_Mod_accept_0 (by decide) ?_
  refine lv_istore_n (lv' := [(1, .int (0 : Int32)), (0, .ref (a0 0))]) hx hb d_Mod_accept_1 rfl hl (by decide) rfl (fun ls hl => ?_)
  exact k_Mod_accept_2 C0 fuel (0 : Int32) o0 _ _ _ hP hS (lv_sub hl [1, 0] rfl) h
