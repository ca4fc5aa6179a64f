/-! 22.mod2 -/
abbrev b_Mod_read : ByteArray := prog_8_method_26_code
def y_Mod_read : MethodName := ⟨R_Mod, "read", "()I"⟩
abbrev b_Mod_mentions : ByteArray := prog_8_method_28_code
def y_Mod_mentions : MethodName := ⟨R_Mod, "mentions", "(II)Z"⟩
abbrev b_Mod_hangs : ByteArray := prog_8_method_29_code
def y_Mod_hangs : MethodName := ⟨R_Mod, "hangs", "(II)Z"⟩
abbrev b_Mod_isRing : ByteArray := prog_8_method_30_code
def y_Mod_isRing : MethodName := ⟨R_Mod, "isRing", "(I)Z"⟩
abbrev b_Mod_common : ByteArray := prog_8_method_31_code
def y_Mod_common : MethodName := ⟨R_Mod, "common", "(JJ)J"⟩
abbrev b_Mod_put : ByteArray := prog_8_method_32_code
def y_Mod_put : MethodName := ⟨R_Mod, "put", "(JJ)V"⟩
abbrev b_Mod_pushCell : ByteArray := prog_8_method_33_code
def y_Mod_pushCell : MethodName := ⟨R_Mod, "pushCell", "(I)V"⟩
abbrev b_Mod_between : ByteArray := prog_8_method_34_code
def y_Mod_between : MethodName := ⟨R_Mod, "between", "(I)V"⟩
abbrev b_Mod_reckon : ByteArray := prog_8_method_35_code
def y_Mod_reckon : MethodName := ⟨R_Mod, "reckon", "(II)I"⟩
abbrev b_Mod_compares : ByteArray := prog_8_method_36_code
def y_Mod_compares : MethodName := ⟨R_Mod, "compares", "(I)Z"⟩
abbrev b_Mod_reckonCell : ByteArray := prog_8_method_37_code
def y_Mod_reckonCell : MethodName := ⟨R_Mod, "reckonCell", "(I)V"⟩
abbrev b_Mod_isReady : ByteArray := prog_8_method_38_code
def y_Mod_isReady : MethodName := ⟨R_Mod, "isReady", "(I)Z"⟩
theorem cd_Mod_readStatement : Cond.code ⟨"PartFormulasModel", "readStatement", "()V"⟩ prog_8_method_24_code 6 (none : Option Jvm.ClassFile.FieldType) ∈ wsAll := wa_of 1035 (by decide +kernel) (by decide +kernel)
theorem ml_Mod_176 : Cond.methodLink "PartFormulasModel" 176 ⟨"PartFormulasModel", "readStatement", "()V"⟩ ∈ wsAll := wa_of 1032 (by decide +kernel) (by decide +kernel)
theorem im_Mod_readStatement : Cond.instanceMethod ⟨"PartFormulasModel", "readStatement", "()V"⟩ ∈ wsAll := wa_of 1034 (by decide +kernel) (by decide +kernel)
theorem se_Mod_readStatement : Cond.selects "PartFormulasModel" ⟨"PartFormulasModel", "readStatement", "()V"⟩ ⟨"PartFormulasModel", "readStatement", "()V"⟩ ∈ wsAll := wa_of 31 (by decide +kernel) (by decide +kernel)
theorem cd_Mod_accept : Cond.code ⟨"PartFormulasModel", "accept", "()V"⟩ prog_8_method_25_code 2 (none : Option Jvm.ClassFile.FieldType) ∈ wsAll := wa_of 1116 (by decide +kernel) (by decide +kernel)
theorem ml_Mod_179 : Cond.methodLink "PartFormulasModel" 179 ⟨"PartFormulasModel", "accept", "()V"⟩ ∈ wsAll := wa_of 1113 (by decide +kernel) (by decide +kernel)
theorem im_Mod_accept : Cond.instanceMethod ⟨"PartFormulasModel", "accept", "()V"⟩ ∈ wsAll := wa_of 1115 (by decide +kernel) (by decide +kernel)
theorem se_Mod_accept : Cond.selects "PartFormulasModel" ⟨"PartFormulasModel", "accept", "()V"⟩ ⟨"PartFormulasModel", "accept", "()V"⟩ ∈ wsAll := wa_of 49 (by decide +kernel) (by decide +kernel)
theorem cd_Mod_mentions : Cond.code ⟨"PartFormulasModel", "mentions", "(II)Z"⟩ prog_8_method_28_code 6 (some .boolean) ∈ wsAll := wa_of 1179 (by decide +kernel) (by decide +kernel)
theorem ml_Mod_182 : Cond.methodLink "PartFormulasModel" 182 ⟨"PartFormulasModel", "mentions", "(II)Z"⟩ ∈ wsAll := wa_of 1176 (by decide +kernel) (by decide +kernel)
theorem im_Mod_mentions : Cond.instanceMethod ⟨"PartFormulasModel", "mentions", "(II)Z"⟩ ∈ wsAll := wa_of 1178 (by decide +kernel) (by decide +kernel)
theorem se_Mod_mentions : Cond.selects "PartFormulasModel" ⟨"PartFormulasModel", "mentions", "(II)Z"⟩ ⟨"PartFormulasModel", "mentions", "(II)Z"⟩ ∈ wsAll := wa_of 61 (by decide +kernel) (by decide +kernel)
theorem cn_Mod_185 : Cond.constantLong "PartFormulasModel" 185 (-1) ∈ wsAll := wa_of 1150 (by decide +kernel) (by decide +kernel)
theorem cd_Mod_common : Cond.code ⟨"PartFormulasModel", "common", "(JJ)J"⟩ prog_8_method_31_code 10 (some .long) ∈ wsAll := wa_of 1153 (by decide +kernel) (by decide +kernel)
theorem ml_Mod_187 : Cond.methodLink "PartFormulasModel" 187 ⟨"PartFormulasModel", "common", "(JJ)J"⟩ ∈ wsAll := wa_of 1151 (by decide +kernel) (by decide +kernel)
theorem st_Mod_common : Cond.static ⟨"PartFormulasModel", "common", "(JJ)J"⟩ ∈ wsAll := wa_of 1152 (by decide +kernel) (by decide +kernel)
theorem cn_Mod_191 : Cond.constantLong "PartFormulasModel" 191 1000000000 ∈ wsAll := wa_of 1154 (by decide +kernel) (by decide +kernel)
theorem cn_Mod_193 : Cond.constantLong "PartFormulasModel" 193 (-1000000000) ∈ wsAll := wa_of 1155 (by decide +kernel) (by decide +kernel)
theorem fl_Mod_195 : Cond.fieldLink "PartFormulasModel" 195 "PartFormulasModel" "reason" "I" ∈ wsAll := wa_of 946 (by decide +kernel) (by decide +kernel)
theorem fl_Mod_69 : Cond.fieldLink "PartFormulasModel" 69 "PartFormulasModel" "rowAbove" "[J" ∈ wsAll := wa_of 943 (by decide +kernel) (by decide +kernel)
theorem fl_Mod_198 : Cond.fieldLink "PartFormulasModel" 198 "PartFormulasModel" "top" "I" ∈ wsAll := wa_of 945 (by decide +kernel) (by decide +kernel)
theorem fl_Mod_72 : Cond.fieldLink "PartFormulasModel" 72 "PartFormulasModel" "rowBelow" "[J" ∈ wsAll := wa_of 944 (by decide +kernel) (by decide +kernel)
theorem fl_Mod_48 : Cond.fieldLink "PartFormulasModel" 48 "PartFormulasModel" "states" "[I" ∈ wsAll := wa_of 934 (by decide +kernel) (by decide +kernel)
theorem fl_Mod_51 : Cond.fieldLink "PartFormulasModel" 51 "PartFormulasModel" "above" "[J" ∈ wsAll := wa_of 935 (by decide +kernel) (by decide +kernel)
theorem fl_Mod_54 : Cond.fieldLink "PartFormulasModel" 54 "PartFormulasModel" "below" "[J" ∈ wsAll := wa_of 936 (by decide +kernel) (by decide +kernel)
theorem cd_Mod_put : Cond.code ⟨"PartFormulasModel", "put", "(JJ)V"⟩ prog_8_method_32_code 13 (none : Option Jvm.ClassFile.FieldType) ∈ wsAll := wa_of 1149 (by decide +kernel) (by decide +kernel)
theorem ml_Mod_201 : Cond.methodLink "PartFormulasModel" 201 ⟨"PartFormulasModel", "put", "(JJ)V"⟩ ∈ wsAll := wa_of 1146 (by decide +kernel) (by decide +kernel)
theorem im_Mod_put : Cond.instanceMethod ⟨"PartFormulasModel", "put", "(JJ)V"⟩ ∈ wsAll := wa_of 1148 (by decide +kernel) (by decide +kernel)
theorem se_Mod_put : Cond.selects "PartFormulasModel" ⟨"PartFormulasModel", "put", "(JJ)V"⟩ ⟨"PartFormulasModel", "put", "(JJ)V"⟩ ∈ wsAll := wa_of 56 (by decide +kernel) (by decide +kernel)
theorem cd_Mod_between : Cond.code ⟨"PartFormulasModel", "between", "(I)V"⟩ prog_8_method_34_code 10 (none : Option Jvm.ClassFile.FieldType) ∈ wsAll := wa_of 1163 (by decide +kernel) (by decide +kernel)
theorem ml_Mod_210 : Cond.methodLink "PartFormulasModel" 210 ⟨"PartFormulasModel", "between", "(I)V"⟩ ∈ wsAll := wa_of 1160 (by decide +kernel) (by decide +kernel)
theorem im_Mod_between : Cond.instanceMethod ⟨"PartFormulasModel", "between", "(I)V"⟩ ∈ wsAll := wa_of 1162 (by decide +kernel) (by decide +kernel)
theorem se_Mod_between : Cond.selects "PartFormulasModel" ⟨"PartFormulasModel", "between", "(I)V"⟩ ⟨"PartFormulasModel", "between", "(I)V"⟩ ∈ wsAll := wa_of 58 (by decide +kernel) (by decide +kernel)
theorem cd_Mod_pushCell : Cond.code ⟨"PartFormulasModel", "pushCell", "(I)V"⟩ prog_8_method_33_code 2 (none : Option Jvm.ClassFile.FieldType) ∈ wsAll := wa_of 1159 (by decide +kernel) (by decide +kernel)
theorem ml_Mod_207 : Cond.methodLink "PartFormulasModel" 207 ⟨"PartFormulasModel", "pushCell", "(I)V"⟩ ∈ wsAll := wa_of 1156 (by decide +kernel) (by decide +kernel)
theorem im_Mod_pushCell : Cond.instanceMethod ⟨"PartFormulasModel", "pushCell", "(I)V"⟩ ∈ wsAll := wa_of 1158 (by decide +kernel) (by decide +kernel)
theorem se_Mod_pushCell : Cond.selects "PartFormulasModel" ⟨"PartFormulasModel", "pushCell", "(I)V"⟩ ⟨"PartFormulasModel", "pushCell", "(I)V"⟩ ∈ wsAll := wa_of 57 (by decide +kernel) (by decide +kernel)
theorem fl_Mod_34 : Cond.fieldLink "PartFormulasModel" 34 "PartFormulasModel" "optionAbove" "[J" ∈ wsAll := wa_of 930 (by decide +kernel) (by decide +kernel)
theorem fl_Mod_38 : Cond.fieldLink "PartFormulasModel" 38 "PartFormulasModel" "optionBelow" "[J" ∈ wsAll := wa_of 931 (by decide +kernel) (by decide +kernel)
theorem cn_Mod_205 : Cond.constantLong "PartFormulasModel" 205 1000 ∈ wsAll := wa_of 1145 (by decide +kernel) (by decide +kernel)
theorem cd_Mod_reckon : Cond.code ⟨"PartFormulasModel", "reckon", "(II)I"⟩ prog_8_method_35_code 5 (some .int) ∈ wsAll := wa_of 1144 (by decide +kernel) (by decide +kernel)
theorem ml_Mod_213 : Cond.methodLink "PartFormulasModel" 213 ⟨"PartFormulasModel", "reckon", "(II)I"⟩ ∈ wsAll := wa_of 1141 (by decide +kernel) (by decide +kernel)
theorem im_Mod_reckon : Cond.instanceMethod ⟨"PartFormulasModel", "reckon", "(II)I"⟩ ∈ wsAll := wa_of 1143 (by decide +kernel) (by decide +kernel)
theorem se_Mod_reckon : Cond.selects "PartFormulasModel" ⟨"PartFormulasModel", "reckon", "(II)I"⟩ ⟨"PartFormulasModel", "reckon", "(II)I"⟩ ∈ wsAll := wa_of 55 (by decide +kernel) (by decide +kernel)
theorem cd_Mod_compares : Cond.code ⟨"PartFormulasModel", "compares", "(I)Z"⟩ prog_8_method_36_code 6 (some .boolean) ∈ wsAll := wa_of 1167 (by decide +kernel) (by decide +kernel)
theorem ml_Mod_217 : Cond.methodLink "PartFormulasModel" 217 ⟨"PartFormulasModel", "compares", "(I)Z"⟩ ∈ wsAll := wa_of 1164 (by decide +kernel) (by decide +kernel)
theorem im_Mod_compares : Cond.instanceMethod ⟨"PartFormulasModel", "compares", "(I)Z"⟩ ∈ wsAll := wa_of 1166 (by decide +kernel) (by decide +kernel)
theorem se_Mod_compares : Cond.selects "PartFormulasModel" ⟨"PartFormulasModel", "compares", "(I)Z"⟩ ⟨"PartFormulasModel", "compares", "(I)Z"⟩ ∈ wsAll := wa_of 59 (by decide +kernel) (by decide +kernel)
theorem fl_Mod_57 : Cond.fieldLink "PartFormulasModel" 57 "PartFormulasModel" "chosen" "[I" ∈ wsAll := wa_of 937 (by decide +kernel) (by decide +kernel)
theorem cd_Mod_isRing : Cond.code ⟨"PartFormulasModel", "isRing", "(I)Z"⟩ prog_8_method_30_code 2 (some .boolean) ∈ wsAll := wa_of 1132 (by decide +kernel) (by decide +kernel)
theorem ml_Mod_220 : Cond.methodLink "PartFormulasModel" 220 ⟨"PartFormulasModel", "isRing", "(I)Z"⟩ ∈ wsAll := wa_of 1129 (by decide +kernel) (by decide +kernel)
theorem im_Mod_isRing : Cond.instanceMethod ⟨"PartFormulasModel", "isRing", "(I)Z"⟩ ∈ wsAll := wa_of 1131 (by decide +kernel) (by decide +kernel)
theorem se_Mod_isRing : Cond.selects "PartFormulasModel" ⟨"PartFormulasModel", "isRing", "(I)Z"⟩ ⟨"PartFormulasModel", "isRing", "(I)Z"⟩ ∈ wsAll := wa_of 52 (by decide +kernel) (by decide +kernel)
theorem d_Mod_between_0 : decode b_Mod_between 0 = .ok (.aload_n 0, 1) := by decide +kernel
theorem d_Mod_between_1 : decode b_Mod_between 1 = .ok (.getfield 69, 3) := by decide +kernel
theorem d_Mod_between_4 : decode b_Mod_between 4 = .ok (.aload_n 0, 1) := by decide +kernel
theorem d_Mod_between_5 : decode b_Mod_between 5 = .ok (.getfield 198, 3) := by decide +kernel
theorem d_Mod_between_8 : decode b_Mod_between 8 = .ok (.iconst 2, 1) := by decide +kernel
theorem d_Mod_between_9 : decode b_Mod_between 9 = .ok (.isub, 1) := by decide +kernel
theorem d_Mod_between_10 : decode b_Mod_between 10 = .ok (.laload, 1) := by decide +kernel
theorem d_Mod_between_11 : decode b_Mod_between 11 = .ok (.lstore_n 2, 1) := by decide +kernel
theorem d_Mod_between_12 : decode b_Mod_between 12 = .ok (.aload_n 0, 1) := by decide +kernel
theorem d_Mod_between_13 : decode b_Mod_between 13 = .ok (.getfield 72, 3) := by decide +kernel
theorem d_Mod_between_16 : decode b_Mod_between 16 = .ok (.aload_n 0, 1) := by decide +kernel
theorem d_Mod_between_17 : decode b_Mod_between 17 = .ok (.getfield 198, 3) := by decide +kernel
theorem d_Mod_between_20 : decode b_Mod_between 20 = .ok (.iconst 2, 1) := by decide +kernel
theorem d_Mod_between_21 : decode b_Mod_between 21 = .ok (.isub, 1) := by decide +kernel
theorem d_Mod_between_22 : decode b_Mod_between 22 = .ok (.laload, 1) := by decide +kernel
theorem d_Mod_between_23 : decode b_Mod_between 23 = .ok (.lstore 4, 2) := by decide +kernel
theorem d_Mod_between_25 : decode b_Mod_between 25 = .ok (.aload_n 0, 1) := by decide +kernel
theorem d_Mod_between_26 : decode b_Mod_between 26 = .ok (.getfield 69, 3) := by decide +kernel
theorem d_Mod_between_29 : decode b_Mod_between 29 = .ok (.aload_n 0, 1) := by decide +kernel
theorem d_Mod_between_30 : decode b_Mod_between 30 = .ok (.getfield 198, 3) := by decide +kernel
theorem d_Mod_between_33 : decode b_Mod_between 33 = .ok (.iconst 1, 1) := by decide +kernel
theorem d_Mod_between_34 : decode b_Mod_between 34 = .ok (.isub, 1) := by decide +kernel
theorem d_Mod_between_35 : decode b_Mod_between 35 = .ok (.laload, 1) := by decide +kernel
theorem d_Mod_between_36 : decode b_Mod_between 36 = .ok (.lstore 6, 2) := by decide +kernel
theorem d_Mod_between_38 : decode b_Mod_between 38 = .ok (.aload_n 0, 1) := by decide +kernel
theorem d_Mod_between_39 : decode b_Mod_between 39 = .ok (.getfield 72, 3) := by decide +kernel
theorem d_Mod_between_42 : decode b_Mod_between 42 = .ok (.aload_n 0, 1) := by decide +kernel
theorem d_Mod_between_43 : decode b_Mod_between 43 = .ok (.getfield 198, 3) := by decide +kernel
theorem d_Mod_between_46 : decode b_Mod_between 46 = .ok (.iconst 1, 1) := by decide +kernel
theorem d_Mod_between_47 : decode b_Mod_between 47 = .ok (.isub, 1) := by decide +kernel
theorem d_Mod_between_48 : decode b_Mod_between 48 = .ok (.laload, 1) := by decide +kernel
theorem d_Mod_between_49 : decode b_Mod_between 49 = .ok (.lstore 8, 2) := by decide +kernel
theorem d_Mod_between_51 : decode b_Mod_between 51 = .ok (.aload_n 0, 1) := by decide +kernel
theorem d_Mod_between_52 : decode b_Mod_between 52 = .ok (.dup, 1) := by decide +kernel
theorem d_Mod_between_53 : decode b_Mod_between 53 = .ok (.getfield 198, 3) := by decide +kernel
theorem d_Mod_between_56 : decode b_Mod_between 56 = .ok (.iconst 2, 1) := by decide +kernel
theorem d_Mod_between_57 : decode b_Mod_between 57 = .ok (.isub, 1) := by decide +kernel
theorem d_Mod_between_58 : decode b_Mod_between 58 = .ok (.putfield 198, 3) := by decide +kernel
theorem d_Mod_between_61 : decode b_Mod_between 61 = .ok (.iload_n 1, 1) := by decide +kernel
theorem d_Mod_between_62 : decode b_Mod_between 62 = .ok (.iconst 5, 1) := by decide +kernel
theorem d_Mod_between_63 : decode b_Mod_between 63 = .ok (.if_icmp .ne 25, 3) := by decide +kernel
theorem d_Mod_between_66 : decode b_Mod_between 66 = .ok (.aload_n 0, 1) := by decide +kernel
theorem d_Mod_between_67 : decode b_Mod_between 67 = .ok (.lload_n 2, 1) := by decide +kernel
theorem d_Mod_between_68 : decode b_Mod_between 68 = .ok (.lload 8, 2) := by decide +kernel
theorem d_Mod_between_70 : decode b_Mod_between 70 = .ok (.lmul, 1) := by decide +kernel
theorem d_Mod_between_71 : decode b_Mod_between 71 = .ok (.lload 6, 2) := by decide +kernel
theorem d_Mod_between_73 : decode b_Mod_between 73 = .ok (.lload 4, 2) := by decide +kernel
theorem d_Mod_between_75 : decode b_Mod_between 75 = .ok (.lmul, 1) := by decide +kernel
theorem d_Mod_between_76 : decode b_Mod_between 76 = .ok (.ladd, 1) := by decide +kernel
theorem d_Mod_between_77 : decode b_Mod_between 77 = .ok (.lload 4, 2) := by decide +kernel
theorem d_Mod_between_79 : decode b_Mod_between 79 = .ok (.lload 8, 2) := by decide +kernel
theorem d_Mod_between_81 : decode b_Mod_between 81 = .ok (.lmul, 1) := by decide +kernel
theorem d_Mod_between_82 : decode b_Mod_between 82 = .ok (.invokevirtual 201, 3) := by decide +kernel
theorem d_Mod_between_85 : decode b_Mod_between 85 = .ok (.goto 81, 3) := by decide +kernel
theorem d_Mod_between_88 : decode b_Mod_between 88 = .ok (.iload_n 1, 1) := by decide +kernel
theorem d_Mod_between_89 : decode b_Mod_between 89 = .ok (.bipush 6, 2) := by decide +kernel
theorem d_Mod_between_91 : decode b_Mod_between 91 = .ok (.if_icmp .ne 25, 3) := by decide +kernel
theorem d_Mod_between_94 : decode b_Mod_between 94 = .ok (.aload_n 0, 1) := by decide +kernel
theorem d_Mod_between_95 : decode b_Mod_between 95 = .ok (.lload_n 2, 1) := by decide +kernel
theorem d_Mod_between_96 : decode b_Mod_between 96 = .ok (.lload 8, 2) := by decide +kernel
theorem d_Mod_between_98 : decode b_Mod_between 98 = .ok (.lmul, 1) := by decide +kernel
theorem d_Mod_between_99 : decode b_Mod_between 99 = .ok (.lload 6, 2) := by decide +kernel
theorem d_Mod_between_101 : decode b_Mod_between 101 = .ok (.lload 4, 2) := by decide +kernel
theorem d_Mod_between_103 : decode b_Mod_between 103 = .ok (.lmul, 1) := by decide +kernel
theorem d_Mod_between_104 : decode b_Mod_between 104 = .ok (.lsub, 1) := by decide +kernel
theorem d_Mod_between_105 : decode b_Mod_between 105 = .ok (.lload 4, 2) := by decide +kernel
theorem d_Mod_between_107 : decode b_Mod_between 107 = .ok (.lload 8, 2) := by decide +kernel
theorem d_Mod_between_109 : decode b_Mod_between 109 = .ok (.lmul, 1) := by decide +kernel
theorem d_Mod_between_110 : decode b_Mod_between 110 = .ok (.invokevirtual 201, 3) := by decide +kernel
theorem d_Mod_between_113 : decode b_Mod_between 113 = .ok (.goto 53, 3) := by decide +kernel
theorem d_Mod_between_116 : decode b_Mod_between 116 = .ok (.iload_n 1, 1) := by decide +kernel
theorem d_Mod_between_117 : decode b_Mod_between 117 = .ok (.bipush 7, 2) := by decide +kernel
theorem d_Mod_between_119 : decode b_Mod_between 119 = .ok (.if_icmp .ne 19, 3) := by decide +kernel
theorem d_Mod_between_122 : decode b_Mod_between 122 = .ok (.aload_n 0, 1) := by decide +kernel
theorem d_Mod_between_123 : decode b_Mod_between 123 = .ok (.lload_n 2, 1) := by decide +kernel
theorem d_Mod_between_124 : decode b_Mod_between 124 = .ok (.lload 6, 2) := by decide +kernel
theorem d_Mod_between_126 : decode b_Mod_between 126 = .ok (.lmul, 1) := by decide +kernel
theorem d_Mod_between_127 : decode b_Mod_between 127 = .ok (.lload 4, 2) := by decide +kernel
theorem d_Mod_between_129 : decode b_Mod_between 129 = .ok (.lload 8, 2) := by decide +kernel
theorem d_Mod_between_131 : decode b_Mod_between 131 = .ok (.lmul, 1) := by decide +kernel
theorem d_Mod_between_132 : decode b_Mod_between 132 = .ok (.invokevirtual 201, 3) := by decide +kernel
theorem d_Mod_between_135 : decode b_Mod_between 135 = .ok (.goto 31, 3) := by decide +kernel
theorem d_Mod_between_138 : decode b_Mod_between 138 = .ok (.lload 6, 2) := by decide +kernel
theorem d_Mod_between_140 : decode b_Mod_between 140 = .ok (.lconst 0, 1) := by decide +kernel
theorem d_Mod_between_141 : decode b_Mod_between 141 = .ok (.lcmp, 1) := by decide +kernel
theorem d_Mod_between_142 : decode b_Mod_between 142 = .ok (.ifCond .ne 11, 3) := by decide +kernel
theorem d_Mod_between_145 : decode b_Mod_between 145 = .ok (.aload_n 0, 1) := by decide +kernel
theorem d_Mod_between_146 : decode b_Mod_between 146 = .ok (.iconst 2, 1) := by decide +kernel
theorem d_Mod_between_147 : decode b_Mod_between 147 = .ok (.putfield 195, 3) := by decide +kernel
theorem d_Mod_between_150 : decode b_Mod_between 150 = .ok (.goto 16, 3) := by decide +kernel
theorem d_Mod_between_153 : decode b_Mod_between 153 = .ok (.aload_n 0, 1) := by decide +kernel
theorem d_Mod_between_154 : decode b_Mod_between 154 = .ok (.lload_n 2, 1) := by decide +kernel
theorem d_Mod_between_155 : decode b_Mod_between 155 = .ok (.lload 8, 2) := by decide +kernel
theorem d_Mod_between_157 : decode b_Mod_between 157 = .ok (.lmul, 1) := by decide +kernel
theorem d_Mod_between_158 : decode b_Mod_between 158 = .ok (.lload 4, 2) := by decide +kernel
theorem d_Mod_between_160 : decode b_Mod_between 160 = .ok (.lload 6, 2) := by decide +kernel
theorem d_Mod_between_162 : decode b_Mod_between 162 = .ok (.lmul, 1) := by decide +kernel
theorem d_Mod_between_163 : decode b_Mod_between 163 = .ok (.invokevirtual 201, 3) := by decide +kernel
theorem d_Mod_between_166 : decode b_Mod_between 166 = .ok (.return_, 1) := by decide +kernel
theorem d_Mod_common_0 : decode b_Mod_common 0 = .ok (.lload_n 0, 1) := by decide +kernel
theorem d_Mod_common_1 : decode b_Mod_common 1 = .ok (.lconst 0, 1) := by decide +kernel
theorem d_Mod_common_2 : decode b_Mod_common 2 = .ok (.lcmp, 1) := by decide +kernel
theorem d_Mod_common_3 : decode b_Mod_common 3 = .ok (.ifCond .ge 8, 3) := by decide +kernel
theorem d_Mod_common_6 : decode b_Mod_common 6 = .ok (.lload_n 0, 1) := by decide +kernel
theorem d_Mod_common_7 : decode b_Mod_common 7 = .ok (.lneg, 1) := by decide +kernel
theorem d_Mod_common_8 : decode b_Mod_common 8 = .ok (.goto 4, 3) := by decide +kernel
theorem d_Mod_common_11 : decode b_Mod_common 11 = .ok (.lload_n 0, 1) := by decide +kernel
theorem d_Mod_common_12 : decode b_Mod_common 12 = .ok (.lstore 4, 2) := by decide +kernel
theorem d_Mod_common_14 : decode b_Mod_common 14 = .ok (.lload_n 2, 1) := by decide +kernel
theorem d_Mod_common_15 : decode b_Mod_common 15 = .ok (.lstore 6, 2) := by decide +kernel
theorem d_Mod_common_17 : decode b_Mod_common 17 = .ok (.lload 6, 2) := by decide +kernel
theorem d_Mod_common_19 : decode b_Mod_common 19 = .ok (.lconst 0, 1) := by decide +kernel
theorem d_Mod_common_20 : decode b_Mod_common 20 = .ok (.lcmp, 1) := by decide +kernel
theorem d_Mod_common_21 : decode b_Mod_common 21 = .ok (.ifCond .eq 21, 3) := by decide +kernel
theorem d_Mod_common_24 : decode b_Mod_common 24 = .ok (.lload 4, 2) := by decide +kernel
theorem d_Mod_common_26 : decode b_Mod_common 26 = .ok (.lload 6, 2) := by decide +kernel
theorem d_Mod_common_28 : decode b_Mod_common 28 = .ok (.lrem, 1) := by decide +kernel
theorem d_Mod_common_29 : decode b_Mod_common 29 = .ok (.lstore 8, 2) := by decide +kernel
theorem d_Mod_common_31 : decode b_Mod_common 31 = .ok (.lload 6, 2) := by decide +kernel
theorem d_Mod_common_33 : decode b_Mod_common 33 = .ok (.lstore 4, 2) := by decide +kernel
theorem d_Mod_common_35 : decode b_Mod_common 35 = .ok (.lload 8, 2) := by decide +kernel
theorem d_Mod_common_37 : decode b_Mod_common 37 = .ok (.lstore 6, 2) := by decide +kernel
theorem d_Mod_common_39 : decode b_Mod_common 39 = .ok (.goto (-22), 3) := by decide +kernel
theorem d_Mod_common_42 : decode b_Mod_common 42 = .ok (.lload 4, 2) := by decide +kernel
theorem d_Mod_common_44 : decode b_Mod_common 44 = .ok (.lreturn, 1) := by decide +kernel
theorem d_Mod_compares_0 : decode b_Mod_compares 0 = .ok (.aload_n 0, 1) := by decide +kernel
theorem d_Mod_compares_1 : decode b_Mod_compares 1 = .ok (.getfield 69, 3) := by decide +kernel
theorem d_Mod_compares_4 : decode b_Mod_compares 4 = .ok (.iconst 0, 1) := by decide +kernel
theorem d_Mod_compares_5 : decode b_Mod_compares 5 = .ok (.laload, 1) := by decide +kernel
theorem d_Mod_compares_6 : decode b_Mod_compares 6 = .ok (.aload_n 0, 1) := by decide +kernel
theorem d_Mod_compares_7 : decode b_Mod_compares 7 = .ok (.getfield 72, 3) := by decide +kernel
theorem d_Mod_compares_10 : decode b_Mod_compares 10 = .ok (.iconst 1, 1) := by decide +kernel
theorem d_Mod_compares_11 : decode b_Mod_compares 11 = .ok (.laload, 1) := by decide +kernel
theorem d_Mod_compares_12 : decode b_Mod_compares 12 = .ok (.lmul, 1) := by decide +kernel
theorem d_Mod_compares_13 : decode b_Mod_compares 13 = .ok (.lstore_n 2, 1) := by decide +kernel
theorem d_Mod_compares_14 : decode b_Mod_compares 14 = .ok (.aload_n 0, 1) := by decide +kernel
theorem d_Mod_compares_15 : decode b_Mod_compares 15 = .ok (.getfield 69, 3) := by decide +kernel
theorem d_Mod_compares_18 : decode b_Mod_compares 18 = .ok (.iconst 1, 1) := by decide +kernel
theorem d_Mod_compares_19 : decode b_Mod_compares 19 = .ok (.laload, 1) := by decide +kernel
theorem d_Mod_compares_20 : decode b_Mod_compares 20 = .ok (.aload_n 0, 1) := by decide +kernel
theorem d_Mod_compares_21 : decode b_Mod_compares 21 = .ok (.getfield 72, 3) := by decide +kernel
theorem d_Mod_compares_24 : decode b_Mod_compares 24 = .ok (.iconst 0, 1) := by decide +kernel
theorem d_Mod_compares_25 : decode b_Mod_compares 25 = .ok (.laload, 1) := by decide +kernel
theorem d_Mod_compares_26 : decode b_Mod_compares 26 = .ok (.lmul, 1) := by decide +kernel
theorem d_Mod_compares_27 : decode b_Mod_compares 27 = .ok (.lstore 4, 2) := by decide +kernel
theorem d_Mod_compares_29 : decode b_Mod_compares 29 = .ok (.iload_n 1, 1) := by decide +kernel
theorem d_Mod_compares_30 : decode b_Mod_compares 30 = .ok (.bipush 60, 2) := by decide +kernel
theorem d_Mod_compares_32 : decode b_Mod_compares 32 = .ok (.if_icmp .ne 18, 3) := by decide +kernel
theorem d_Mod_compares_35 : decode b_Mod_compares 35 = .ok (.lload_n 2, 1) := by decide +kernel
theorem d_Mod_compares_36 : decode b_Mod_compares 36 = .ok (.lload 4, 2) := by decide +kernel
theorem d_Mod_compares_38 : decode b_Mod_compares 38 = .ok (.lcmp, 1) := by decide +kernel
theorem d_Mod_compares_39 : decode b_Mod_compares 39 = .ok (.ifCond .ge 7, 3) := by decide +kernel
theorem d_Mod_compares_42 : decode b_Mod_compares 42 = .ok (.iconst 1, 1) := by decide +kernel
theorem d_Mod_compares_43 : decode b_Mod_compares 43 = .ok (.goto 40, 3) := by decide +kernel
theorem d_Mod_compares_46 : decode b_Mod_compares 46 = .ok (.iconst 0, 1) := by decide +kernel
theorem d_Mod_compares_47 : decode b_Mod_compares 47 = .ok (.goto 36, 3) := by decide +kernel
theorem d_Mod_compares_50 : decode b_Mod_compares 50 = .ok (.iload_n 1, 1) := by decide +kernel
theorem d_Mod_compares_51 : decode b_Mod_compares 51 = .ok (.bipush 62, 2) := by decide +kernel
theorem d_Mod_compares_53 : decode b_Mod_compares 53 = .ok (.if_icmp .ne 18, 3) := by decide +kernel
theorem d_Mod_compares_56 : decode b_Mod_compares 56 = .ok (.lload_n 2, 1) := by decide +kernel
theorem d_Mod_compares_57 : decode b_Mod_compares 57 = .ok (.lload 4, 2) := by decide +kernel
theorem d_Mod_compares_59 : decode b_Mod_compares 59 = .ok (.lcmp, 1) := by decide +kernel
theorem d_Mod_compares_60 : decode b_Mod_compares 60 = .ok (.ifCond .le 7, 3) := by decide +kernel
theorem d_Mod_compares_63 : decode b_Mod_compares 63 = .ok (.iconst 1, 1) := by decide +kernel
theorem d_Mod_compares_64 : decode b_Mod_compares 64 = .ok (.goto 19, 3) := by decide +kernel
theorem d_Mod_compares_67 : decode b_Mod_compares 67 = .ok (.iconst 0, 1) := by decide +kernel
theorem d_Mod_compares_68 : decode b_Mod_compares 68 = .ok (.goto 15, 3) := by decide +kernel
theorem d_Mod_compares_71 : decode b_Mod_compares 71 = .ok (.lload_n 2, 1) := by decide +kernel
theorem d_Mod_compares_72 : decode b_Mod_compares 72 = .ok (.lload 4, 2) := by decide +kernel
theorem d_Mod_compares_74 : decode b_Mod_compares 74 = .ok (.lcmp, 1) := by decide +kernel
theorem d_Mod_compares_75 : decode b_Mod_compares 75 = .ok (.ifCond .ne 7, 3) := by decide +kernel
theorem d_Mod_compares_78 : decode b_Mod_compares 78 = .ok (.iconst 1, 1) := by decide +kernel
theorem d_Mod_compares_79 : decode b_Mod_compares 79 = .ok (.goto 4, 3) := by decide +kernel
theorem d_Mod_compares_82 : decode b_Mod_compares 82 = .ok (.iconst 0, 1) := by decide +kernel
theorem d_Mod_compares_83 : decode b_Mod_compares 83 = .ok (.ireturn, 1) := by decide +kernel
theorem d_Mod_hangs_0 : decode b_Mod_hangs 0 = .ok (.aload_n 0, 1) := by decide +kernel
theorem d_Mod_hangs_1 : decode b_Mod_hangs 1 = .ok (.iload_n 1, 1) := by decide +kernel
theorem d_Mod_hangs_2 : decode b_Mod_hangs 2 = .ok (.iload_n 2, 1) := by decide +kernel
theorem d_Mod_hangs_3 : decode b_Mod_hangs 3 = .ok (.invokevirtual 182, 3) := by decide +kernel
theorem d_Mod_hangs_6 : decode b_Mod_hangs 6 = .ok (.istore_n 3, 1) := by decide +kernel
theorem d_Mod_hangs_7 : decode b_Mod_hangs 7 = .ok (.iconst 0, 1) := by decide +kernel
theorem d_Mod_hangs_8 : decode b_Mod_hangs 8 = .ok (.istore 4, 2) := by decide +kernel
theorem d_Mod_hangs_10 : decode b_Mod_hangs 10 = .ok (.iload 4, 2) := by decide +kernel
theorem d_Mod_hangs_12 : decode b_Mod_hangs 12 = .ok (.bipush 60, 2) := by decide +kernel
theorem d_Mod_hangs_14 : decode b_Mod_hangs 14 = .ok (.if_icmp .ge 44, 3) := by decide +kernel
theorem d_Mod_hangs_17 : decode b_Mod_hangs 17 = .ok (.iload_n 3, 1) := by decide +kernel
theorem d_Mod_hangs_18 : decode b_Mod_hangs 18 = .ok (.ifCond .ne 28, 3) := by decide +kernel
theorem d_Mod_hangs_21 : decode b_Mod_hangs 21 = .ok (.aload_n 0, 1) := by decide +kernel
theorem d_Mod_hangs_22 : decode b_Mod_hangs 22 = .ok (.getfield 44, 3) := by decide +kernel
theorem d_Mod_hangs_25 : decode b_Mod_hangs 25 = .ok (.bipush 60, 2) := by decide +kernel
theorem d_Mod_hangs_27 : decode b_Mod_hangs 27 = .ok (.iload_n 1, 1) := by decide +kernel
theorem d_Mod_hangs_28 : decode b_Mod_hangs 28 = .ok (.imul, 1) := by decide +kernel
theorem d_Mod_hangs_29 : decode b_Mod_hangs 29 = .ok (.iload 4, 2) := by decide +kernel
theorem d_Mod_hangs_31 : decode b_Mod_hangs 31 = .ok (.iadd, 1) := by decide +kernel
theorem d_Mod_hangs_32 : decode b_Mod_hangs 32 = .ok (.baload, 1) := by decide +kernel
theorem d_Mod_hangs_33 : decode b_Mod_hangs 33 = .ok (.ifCond .eq 17, 3) := by decide +kernel
theorem d_Mod_hangs_36 : decode b_Mod_hangs 36 = .ok (.aload_n 0, 1) := by decide +kernel
theorem d_Mod_hangs_37 : decode b_Mod_hangs 37 = .ok (.iload 4, 2) := by decide +kernel
theorem d_Mod_hangs_39 : decode b_Mod_hangs 39 = .ok (.iload_n 2, 1) := by decide +kernel
theorem d_Mod_hangs_40 : decode b_Mod_hangs 40 = .ok (.invokevirtual 182, 3) := by decide +kernel
theorem d_Mod_hangs_43 : decode b_Mod_hangs 43 = .ok (.ifCond .eq 7, 3) := by decide +kernel
theorem d_Mod_hangs_46 : decode b_Mod_hangs 46 = .ok (.iconst 1, 1) := by decide +kernel
theorem d_Mod_hangs_47 : decode b_Mod_hangs 47 = .ok (.goto 4, 3) := by decide +kernel
theorem d_Mod_hangs_50 : decode b_Mod_hangs 50 = .ok (.iconst 0, 1) := by decide +kernel
theorem d_Mod_hangs_51 : decode b_Mod_hangs 51 = .ok (.istore_n 3, 1) := by decide +kernel
theorem d_Mod_hangs_52 : decode b_Mod_hangs 52 = .ok (.iinc 4 1, 3) := by decide +kernel
theorem d_Mod_hangs_55 : decode b_Mod_hangs 55 = .ok (.goto (-45), 3) := by decide +kernel
theorem d_Mod_hangs_58 : decode b_Mod_hangs 58 = .ok (.iload_n 3, 1) := by decide +kernel
theorem d_Mod_hangs_59 : decode b_Mod_hangs 59 = .ok (.ireturn, 1) := by decide +kernel
theorem d_Mod_isReady_0 : decode b_Mod_isReady 0 = .ok (.aload_n 0, 1) := by decide +kernel
theorem d_Mod_isReady_1 : decode b_Mod_isReady 1 = .ok (.getfield 41, 3) := by decide +kernel
theorem d_Mod_isReady_4 : decode b_Mod_isReady 4 = .ok (.iload_n 1, 1) := by decide +kernel
theorem d_Mod_isReady_5 : decode b_Mod_isReady 5 = .ok (.iaload, 1) := by decide +kernel
theorem d_Mod_isReady_6 : decode b_Mod_isReady 6 = .ok (.ifCond .lt 25, 3) := by decide +kernel
theorem d_Mod_isReady_9 : decode b_Mod_isReady 9 = .ok (.aload_n 0, 1) := by decide +kernel
theorem d_Mod_isReady_10 : decode b_Mod_isReady 10 = .ok (.iload_n 1, 1) := by decide +kernel
theorem d_Mod_isReady_11 : decode b_Mod_isReady 11 = .ok (.invokevirtual 220, 3) := by decide +kernel
theorem d_Mod_isReady_14 : decode b_Mod_isReady 14 = .ok (.ifCond .ne 17, 3) := by decide +kernel
theorem d_Mod_isReady_17 : decode b_Mod_isReady 17 = .ok (.aload_n 0, 1) := by decide +kernel
theorem d_Mod_isReady_18 : decode b_Mod_isReady 18 = .ok (.getfield 48, 3) := by decide +kernel
theorem d_Mod_isReady_21 : decode b_Mod_isReady 21 = .ok (.iload_n 1, 1) := by decide +kernel
theorem d_Mod_isReady_22 : decode b_Mod_isReady 22 = .ok (.iaload, 1) := by decide +kernel
theorem d_Mod_isReady_23 : decode b_Mod_isReady 23 = .ok (.iconst (-1), 1) := by decide +kernel
theorem d_Mod_isReady_24 : decode b_Mod_isReady 24 = .ok (.if_icmp .ne 7, 3) := by decide +kernel
theorem d_Mod_isReady_27 : decode b_Mod_isReady 27 = .ok (.iconst 1, 1) := by decide +kernel
theorem d_Mod_isReady_28 : decode b_Mod_isReady 28 = .ok (.goto 4, 3) := by decide +kernel
theorem d_Mod_isReady_31 : decode b_Mod_isReady 31 = .ok (.iconst 0, 1) := by decide +kernel
theorem d_Mod_isReady_32 : decode b_Mod_isReady 32 = .ok (.istore_n 2, 1) := by decide +kernel
theorem d_Mod_isReady_33 : decode b_Mod_isReady 33 = .ok (.iconst 0, 1) := by decide +kernel
theorem d_Mod_isReady_34 : decode b_Mod_isReady 34 = .ok (.istore_n 3, 1) := by decide +kernel
theorem d_Mod_isReady_35 : decode b_Mod_isReady 35 = .ok (.iload_n 3, 1) := by decide +kernel
theorem d_Mod_isReady_36 : decode b_Mod_isReady 36 = .ok (.bipush 60, 2) := by decide +kernel
theorem d_Mod_isReady_38 : decode b_Mod_isReady 38 = .ok (.if_icmp .ge 43, 3) := by decide +kernel
theorem d_Mod_isReady_41 : decode b_Mod_isReady 41 = .ok (.iload_n 2, 1) := by decide +kernel
theorem d_Mod_isReady_42 : decode b_Mod_isReady 42 = .ok (.ifCond .eq 39, 3) := by decide +kernel
theorem d_Mod_isReady_45 : decode b_Mod_isReady 45 = .ok (.aload_n 0, 1) := by decide +kernel
theorem d_Mod_isReady_46 : decode b_Mod_isReady 46 = .ok (.getfield 44, 3) := by decide +kernel
theorem d_Mod_isReady_49 : decode b_Mod_isReady 49 = .ok (.bipush 60, 2) := by decide +kernel
theorem d_Mod_isReady_51 : decode b_Mod_isReady 51 = .ok (.iload_n 1, 1) := by decide +kernel
theorem d_Mod_isReady_52 : decode b_Mod_isReady 52 = .ok (.imul, 1) := by decide +kernel
theorem d_Mod_isReady_53 : decode b_Mod_isReady 53 = .ok (.iload_n 3, 1) := by decide +kernel
theorem d_Mod_isReady_54 : decode b_Mod_isReady 54 = .ok (.iadd, 1) := by decide +kernel
theorem d_Mod_isReady_55 : decode b_Mod_isReady 55 = .ok (.baload, 1) := by decide +kernel
theorem d_Mod_isReady_56 : decode b_Mod_isReady 56 = .ok (.ifCond .eq 13, 3) := by decide +kernel
theorem d_Mod_isReady_59 : decode b_Mod_isReady 59 = .ok (.aload_n 0, 1) := by decide +kernel
theorem d_Mod_isReady_60 : decode b_Mod_isReady 60 = .ok (.getfield 48, 3) := by decide +kernel
theorem d_Mod_isReady_63 : decode b_Mod_isReady 63 = .ok (.iload_n 3, 1) := by decide +kernel
theorem d_Mod_isReady_64 : decode b_Mod_isReady 64 = .ok (.iaload, 1) := by decide +kernel
theorem d_Mod_isReady_65 : decode b_Mod_isReady 65 = .ok (.iconst (-1), 1) := by decide +kernel
theorem d_Mod_isReady_66 : decode b_Mod_isReady 66 = .ok (.if_icmp .eq 7, 3) := by decide +kernel
theorem d_Mod_isReady_69 : decode b_Mod_isReady 69 = .ok (.iconst 1, 1) := by decide +kernel
theorem d_Mod_isReady_70 : decode b_Mod_isReady 70 = .ok (.goto 4, 3) := by decide +kernel
theorem d_Mod_isReady_73 : decode b_Mod_isReady 73 = .ok (.iconst 0, 1) := by decide +kernel
theorem d_Mod_isReady_74 : decode b_Mod_isReady 74 = .ok (.istore_n 2, 1) := by decide +kernel
theorem d_Mod_isReady_75 : decode b_Mod_isReady 75 = .ok (.iinc 3 1, 3) := by decide +kernel
theorem d_Mod_isReady_78 : decode b_Mod_isReady 78 = .ok (.goto (-43), 3) := by decide +kernel
theorem d_Mod_isReady_81 : decode b_Mod_isReady 81 = .ok (.iload_n 2, 1) := by decide +kernel
theorem d_Mod_isReady_82 : decode b_Mod_isReady 82 = .ok (.ireturn, 1) := by decide +kernel
theorem d_Mod_isRing_0 : decode b_Mod_isRing 0 = .ok (.aload_n 0, 1) := by decide +kernel
theorem d_Mod_isRing_1 : decode b_Mod_isRing 1 = .ok (.getfield 44, 3) := by decide +kernel
theorem d_Mod_isRing_4 : decode b_Mod_isRing 4 = .ok (.bipush 60, 2) := by decide +kernel
theorem d_Mod_isRing_6 : decode b_Mod_isRing 6 = .ok (.iload_n 1, 1) := by decide +kernel
theorem d_Mod_isRing_7 : decode b_Mod_isRing 7 = .ok (.imul, 1) := by decide +kernel
theorem d_Mod_isRing_8 : decode b_Mod_isRing 8 = .ok (.iload_n 1, 1) := by decide +kernel
theorem d_Mod_isRing_9 : decode b_Mod_isRing 9 = .ok (.iadd, 1) := by decide +kernel
theorem d_Mod_isRing_10 : decode b_Mod_isRing 10 = .ok (.baload, 1) := by decide +kernel
theorem d_Mod_isRing_11 : decode b_Mod_isRing 11 = .ok (.ireturn, 1) := by decide +kernel
theorem d_Mod_mentions_0 : decode b_Mod_mentions 0 = .ok (.aload_n 0, 1) := by decide +kernel
theorem d_Mod_mentions_1 : decode b_Mod_mentions 1 = .ok (.getfield 41, 3) := by decide +kernel
theorem d_Mod_mentions_4 : decode b_Mod_mentions 4 = .ok (.iload_n 1, 1) := by decide +kernel
theorem d_Mod_mentions_5 : decode b_Mod_mentions 5 = .ok (.iaload, 1) := by decide +kernel
theorem d_Mod_mentions_6 : decode b_Mod_mentions 6 = .ok (.istore_n 3, 1) := by decide +kernel
theorem d_Mod_mentions_7 : decode b_Mod_mentions 7 = .ok (.iconst 0, 1) := by decide +kernel
theorem d_Mod_mentions_8 : decode b_Mod_mentions 8 = .ok (.istore 4, 2) := by decide +kernel
theorem d_Mod_mentions_10 : decode b_Mod_mentions 10 = .ok (.iload_n 3, 1) := by decide +kernel
theorem d_Mod_mentions_11 : decode b_Mod_mentions 11 = .ok (.ifCond .ge 7, 3) := by decide +kernel
theorem d_Mod_mentions_14 : decode b_Mod_mentions 14 = .ok (.iconst 0, 1) := by decide +kernel
theorem d_Mod_mentions_15 : decode b_Mod_mentions 15 = .ok (.goto 9, 3) := by decide +kernel
theorem d_Mod_mentions_18 : decode b_Mod_mentions 18 = .ok (.aload_n 0, 1) := by decide +kernel
theorem d_Mod_mentions_19 : decode b_Mod_mentions 19 = .ok (.getfield 25, 3) := by decide +kernel
theorem d_Mod_mentions_22 : decode b_Mod_mentions 22 = .ok (.iload_n 3, 1) := by decide +kernel
theorem d_Mod_mentions_23 : decode b_Mod_mentions 23 = .ok (.iaload, 1) := by decide +kernel
theorem d_Mod_mentions_24 : decode b_Mod_mentions 24 = .ok (.istore 5, 2) := by decide +kernel
theorem d_Mod_mentions_26 : decode b_Mod_mentions 26 = .ok (.iload_n 3, 1) := by decide +kernel
theorem d_Mod_mentions_27 : decode b_Mod_mentions 27 = .ok (.ifCond .lt 56, 3) := by decide +kernel
theorem d_Mod_mentions_30 : decode b_Mod_mentions 30 = .ok (.iload 5, 2) := by decide +kernel
theorem d_Mod_mentions_32 : decode b_Mod_mentions 32 = .ok (.aload_n 0, 1) := by decide +kernel
theorem d_Mod_mentions_33 : decode b_Mod_mentions 33 = .ok (.getfield 25, 3) := by decide +kernel
theorem d_Mod_mentions_36 : decode b_Mod_mentions 36 = .ok (.iload_n 3, 1) := by decide +kernel
theorem d_Mod_mentions_37 : decode b_Mod_mentions 37 = .ok (.iconst 1, 1) := by decide +kernel
theorem d_Mod_mentions_38 : decode b_Mod_mentions 38 = .ok (.iadd, 1) := by decide +kernel
theorem d_Mod_mentions_39 : decode b_Mod_mentions 39 = .ok (.iaload, 1) := by decide +kernel
theorem d_Mod_mentions_40 : decode b_Mod_mentions 40 = .ok (.if_icmp .ge 43, 3) := by decide +kernel
theorem d_Mod_mentions_43 : decode b_Mod_mentions 43 = .ok (.iload 4, 2) := by decide +kernel
theorem d_Mod_mentions_45 : decode b_Mod_mentions 45 = .ok (.ifCond .ne 25, 3) := by decide +kernel
theorem d_Mod_mentions_48 : decode b_Mod_mentions 48 = .ok (.aload_n 0, 1) := by decide +kernel
theorem d_Mod_mentions_49 : decode b_Mod_mentions 49 = .ok (.getfield 13, 3) := by decide +kernel
theorem d_Mod_mentions_52 : decode b_Mod_mentions 52 = .ok (.iload 5, 2) := by decide +kernel
theorem d_Mod_mentions_54 : decode b_Mod_mentions 54 = .ok (.iaload, 1) := by decide +kernel
theorem d_Mod_mentions_55 : decode b_Mod_mentions 55 = .ok (.iconst 2, 1) := by decide +kernel
theorem d_Mod_mentions_56 : decode b_Mod_mentions 56 = .ok (.if_icmp .ne 18, 3) := by decide +kernel
theorem d_Mod_mentions_59 : decode b_Mod_mentions 59 = .ok (.aload_n 0, 1) := by decide +kernel
theorem d_Mod_mentions_60 : decode b_Mod_mentions 60 = .ok (.getfield 16, 3) := by decide +kernel
theorem d_Mod_mentions_63 : decode b_Mod_mentions 63 = .ok (.iload 5, 2) := by decide +kernel
theorem d_Mod_mentions_65 : decode b_Mod_mentions 65 = .ok (.iaload, 1) := by decide +kernel
theorem d_Mod_mentions_66 : decode b_Mod_mentions 66 = .ok (.iload_n 2, 1) := by decide +kernel
theorem d_Mod_mentions_67 : decode b_Mod_mentions 67 = .ok (.if_icmp .ne 7, 3) := by decide +kernel
theorem d_Mod_mentions_70 : decode b_Mod_mentions 70 = .ok (.iconst 1, 1) := by decide +kernel
theorem d_Mod_mentions_71 : decode b_Mod_mentions 71 = .ok (.goto 4, 3) := by decide +kernel
theorem d_Mod_mentions_74 : decode b_Mod_mentions 74 = .ok (.iconst 0, 1) := by decide +kernel
theorem d_Mod_mentions_75 : decode b_Mod_mentions 75 = .ok (.istore 4, 2) := by decide +kernel
theorem d_Mod_mentions_77 : decode b_Mod_mentions 77 = .ok (.iinc 5 1, 3) := by decide +kernel
theorem d_Mod_mentions_80 : decode b_Mod_mentions 80 = .ok (.goto (-54), 3) := by decide +kernel
theorem d_Mod_mentions_83 : decode b_Mod_mentions 83 = .ok (.iload 4, 2) := by decide +kernel
theorem d_Mod_mentions_85 : decode b_Mod_mentions 85 = .ok (.ireturn, 1) := by decide +kernel
theorem d_Mod_pushCell_0 : decode b_Mod_pushCell 0 = .ok (.aload_n 0, 1) := by decide +kernel
theorem d_Mod_pushCell_1 : decode b_Mod_pushCell 1 = .ok (.getfield 48, 3) := by decide +kernel
theorem d_Mod_pushCell_4 : decode b_Mod_pushCell 4 = .ok (.iload_n 1, 1) := by decide +kernel
theorem d_Mod_pushCell_5 : decode b_Mod_pushCell 5 = .ok (.iaload, 1) := by decide +kernel
theorem d_Mod_pushCell_6 : decode b_Mod_pushCell 6 = .ok (.iconst 1, 1) := by decide +kernel
theorem d_Mod_pushCell_7 : decode b_Mod_pushCell 7 = .ok (.if_icmp .eq 9, 3) := by decide +kernel
theorem d_Mod_pushCell_10 : decode b_Mod_pushCell 10 = .ok (.aload_n 0, 1) := by decide +kernel
theorem d_Mod_pushCell_11 : decode b_Mod_pushCell 11 = .ok (.iconst 5, 1) := by decide +kernel
theorem d_Mod_pushCell_12 : decode b_Mod_pushCell 12 = .ok (.putfield 195, 3) := by decide +kernel
theorem d_Mod_pushCell_15 : decode b_Mod_pushCell 15 = .ok (.return_, 1) := by decide +kernel
theorem d_Mod_pushCell_16 : decode b_Mod_pushCell 16 = .ok (.aload_n 0, 1) := by decide +kernel
theorem d_Mod_pushCell_17 : decode b_Mod_pushCell 17 = .ok (.getfield 69, 3) := by decide +kernel
theorem d_Mod_pushCell_20 : decode b_Mod_pushCell 20 = .ok (.aload_n 0, 1) := by decide +kernel
theorem d_Mod_pushCell_21 : decode b_Mod_pushCell 21 = .ok (.getfield 198, 3) := by decide +kernel
theorem d_Mod_pushCell_24 : decode b_Mod_pushCell 24 = .ok (.aload_n 0, 1) := by decide +kernel
theorem d_Mod_pushCell_25 : decode b_Mod_pushCell 25 = .ok (.getfield 51, 3) := by decide +kernel
theorem d_Mod_pushCell_28 : decode b_Mod_pushCell 28 = .ok (.iload_n 1, 1) := by decide +kernel
theorem d_Mod_pushCell_29 : decode b_Mod_pushCell 29 = .ok (.laload, 1) := by decide +kernel
theorem d_Mod_pushCell_30 : decode b_Mod_pushCell 30 = .ok (.lastore, 1) := by decide +kernel
theorem d_Mod_pushCell_31 : decode b_Mod_pushCell 31 = .ok (.aload_n 0, 1) := by decide +kernel
theorem d_Mod_pushCell_32 : decode b_Mod_pushCell 32 = .ok (.getfield 72, 3) := by decide +kernel
theorem d_Mod_pushCell_35 : decode b_Mod_pushCell 35 = .ok (.aload_n 0, 1) := by decide +kernel
theorem d_Mod_pushCell_36 : decode b_Mod_pushCell 36 = .ok (.getfield 198, 3) := by decide +kernel
theorem d_Mod_pushCell_39 : decode b_Mod_pushCell 39 = .ok (.aload_n 0, 1) := by decide +kernel
theorem d_Mod_pushCell_40 : decode b_Mod_pushCell 40 = .ok (.getfield 54, 3) := by decide +kernel
theorem d_Mod_pushCell_43 : decode b_Mod_pushCell 43 = .ok (.iload_n 1, 1) := by decide +kernel
theorem d_Mod_pushCell_44 : decode b_Mod_pushCell 44 = .ok (.laload, 1) := by decide +kernel
theorem d_Mod_pushCell_45 : decode b_Mod_pushCell 45 = .ok (.lastore, 1) := by decide +kernel
theorem d_Mod_pushCell_46 : decode b_Mod_pushCell 46 = .ok (.aload_n 0, 1) := by decide +kernel
theorem d_Mod_pushCell_47 : decode b_Mod_pushCell 47 = .ok (.dup, 1) := by decide +kernel
theorem d_Mod_pushCell_48 : decode b_Mod_pushCell 48 = .ok (.getfield 198, 3) := by decide +kernel
theorem d_Mod_pushCell_51 : decode b_Mod_pushCell 51 = .ok (.iconst 1, 1) := by decide +kernel
theorem d_Mod_pushCell_52 : decode b_Mod_pushCell 52 = .ok (.iadd, 1) := by decide +kernel
theorem d_Mod_pushCell_53 : decode b_Mod_pushCell 53 = .ok (.putfield 198, 3) := by decide +kernel
theorem d_Mod_pushCell_56 : decode b_Mod_pushCell 56 = .ok (.return_, 1) := by decide +kernel
theorem d_Mod_put_0 : decode b_Mod_put 0 = .ok (.lload_n 3, 1) := by decide +kernel
theorem d_Mod_put_1 : decode b_Mod_put 1 = .ok (.lconst 0, 1) := by decide +kernel
theorem d_Mod_put_2 : decode b_Mod_put 2 = .ok (.lcmp, 1) := by decide +kernel
theorem d_Mod_put_3 : decode b_Mod_put 3 = .ok (.ifCond .ge 9, 3) := by decide +kernel
theorem d_Mod_put_6 : decode b_Mod_put 6 = .ok (.ldc2_w 185, 3) := by decide +kernel
theorem d_Mod_put_9 : decode b_Mod_put 9 = .ok (.goto 4, 3) := by decide +kernel
theorem d_Mod_put_12 : decode b_Mod_put 12 = .ok (.lconst 1, 1) := by decide +kernel
theorem d_Mod_put_13 : decode b_Mod_put 13 = .ok (.lstore 5, 2) := by decide +kernel
theorem d_Mod_put_15 : decode b_Mod_put 15 = .ok (.lload_n 1, 1) := by decide +kernel
theorem d_Mod_put_16 : decode b_Mod_put 16 = .ok (.lload 5, 2) := by decide +kernel
theorem d_Mod_put_18 : decode b_Mod_put 18 = .ok (.lload_n 3, 1) := by decide +kernel
theorem d_Mod_put_19 : decode b_Mod_put 19 = .ok (.lmul, 1) := by decide +kernel
theorem d_Mod_put_20 : decode b_Mod_put 20 = .ok (.invokestatic 187, 3) := by decide +kernel
theorem d_Mod_put_23 : decode b_Mod_put 23 = .ok (.lstore 7, 2) := by decide +kernel
theorem d_Mod_put_25 : decode b_Mod_put 25 = .ok (.lload 5, 2) := by decide +kernel
theorem d_Mod_put_27 : decode b_Mod_put 27 = .ok (.lload_n 1, 1) := by decide +kernel
theorem d_Mod_put_28 : decode b_Mod_put 28 = .ok (.lmul, 1) := by decide +kernel
theorem d_Mod_put_29 : decode b_Mod_put 29 = .ok (.lload 7, 2) := by decide +kernel
theorem d_Mod_put_31 : decode b_Mod_put 31 = .ok (.ldiv, 1) := by decide +kernel
theorem d_Mod_put_32 : decode b_Mod_put 32 = .ok (.lstore 9, 2) := by decide +kernel
theorem d_Mod_put_34 : decode b_Mod_put 34 = .ok (.lload 5, 2) := by decide +kernel
theorem d_Mod_put_36 : decode b_Mod_put 36 = .ok (.lload_n 3, 1) := by decide +kernel
theorem d_Mod_put_37 : decode b_Mod_put 37 = .ok (.lmul, 1) := by decide +kernel
theorem d_Mod_put_38 : decode b_Mod_put 38 = .ok (.lload 7, 2) := by decide +kernel
theorem d_Mod_put_40 : decode b_Mod_put 40 = .ok (.ldiv, 1) := by decide +kernel
theorem d_Mod_put_41 : decode b_Mod_put 41 = .ok (.lstore 11, 2) := by decide +kernel
theorem d_Mod_put_43 : decode b_Mod_put 43 = .ok (.aload_n 0, 1) := by decide +kernel
theorem d_Mod_put_44 : decode b_Mod_put 44 = .ok (.lload 9, 2) := by decide +kernel
theorem d_Mod_put_46 : decode b_Mod_put 46 = .ok (.ldc2_w 191, 3) := by decide +kernel
theorem d_Mod_put_49 : decode b_Mod_put 49 = .ok (.lcmp, 1) := by decide +kernel
theorem d_Mod_put_50 : decode b_Mod_put 50 = .ok (.ifCond .gt 21, 3) := by decide +kernel
theorem d_Mod_put_53 : decode b_Mod_put 53 = .ok (.lload 9, 2) := by decide +kernel
theorem d_Mod_put_55 : decode b_Mod_put 55 = .ok (.ldc2_w 193, 3) := by decide +kernel
theorem d_Mod_put_58 : decode b_Mod_put 58 = .ok (.lcmp, 1) := by decide +kernel
theorem d_Mod_put_59 : decode b_Mod_put 59 = .ok (.ifCond .lt 12, 3) := by decide +kernel
theorem d_Mod_put_62 : decode b_Mod_put 62 = .ok (.lload 11, 2) := by decide +kernel
theorem d_Mod_put_64 : decode b_Mod_put 64 = .ok (.ldc2_w 191, 3) := by decide +kernel
theorem d_Mod_put_67 : decode b_Mod_put 67 = .ok (.lcmp, 1) := by decide +kernel
theorem d_Mod_put_68 : decode b_Mod_put 68 = .ok (.ifCond .le 7, 3) := by decide +kernel
theorem d_Mod_put_71 : decode b_Mod_put 71 = .ok (.iconst 3, 1) := by decide +kernel
theorem d_Mod_put_72 : decode b_Mod_put 72 = .ok (.goto 7, 3) := by decide +kernel
theorem d_Mod_put_75 : decode b_Mod_put 75 = .ok (.aload_n 0, 1) := by decide +kernel
theorem d_Mod_put_76 : decode b_Mod_put 76 = .ok (.getfield 195, 3) := by decide +kernel
theorem d_Mod_put_79 : decode b_Mod_put 79 = .ok (.putfield 195, 3) := by decide +kernel
theorem d_Mod_put_82 : decode b_Mod_put 82 = .ok (.aload_n 0, 1) := by decide +kernel
theorem d_Mod_put_83 : decode b_Mod_put 83 = .ok (.getfield 69, 3) := by decide +kernel
theorem d_Mod_put_86 : decode b_Mod_put 86 = .ok (.aload_n 0, 1) := by decide +kernel
theorem d_Mod_put_87 : decode b_Mod_put 87 = .ok (.getfield 198, 3) := by decide +kernel
theorem d_Mod_put_90 : decode b_Mod_put 90 = .ok (.lload 9, 2) := by decide +kernel
theorem d_Mod_put_92 : decode b_Mod_put 92 = .ok (.lastore, 1) := by decide +kernel
theorem d_Mod_put_93 : decode b_Mod_put 93 = .ok (.aload_n 0, 1) := by decide +kernel
theorem d_Mod_put_94 : decode b_Mod_put 94 = .ok (.getfield 72, 3) := by decide +kernel
theorem d_Mod_put_97 : decode b_Mod_put 97 = .ok (.aload_n 0, 1) := by decide +kernel
theorem d_Mod_put_98 : decode b_Mod_put 98 = .ok (.getfield 198, 3) := by decide +kernel
theorem d_Mod_put_101 : decode b_Mod_put 101 = .ok (.lload 11, 2) := by decide +kernel
theorem d_Mod_put_103 : decode b_Mod_put 103 = .ok (.lastore, 1) := by decide +kernel
theorem d_Mod_put_104 : decode b_Mod_put 104 = .ok (.aload_n 0, 1) := by decide +kernel
theorem d_Mod_put_105 : decode b_Mod_put 105 = .ok (.dup, 1) := by decide +kernel
theorem d_Mod_put_106 : decode b_Mod_put 106 = .ok (.getfield 198, 3) := by decide +kernel
theorem d_Mod_put_109 : decode b_Mod_put 109 = .ok (.iconst 1, 1) := by decide +kernel
theorem d_Mod_put_110 : decode b_Mod_put 110 = .ok (.iadd, 1) := by decide +kernel
theorem d_Mod_put_111 : decode b_Mod_put 111 = .ok (.putfield 198, 3) := by decide +kernel
theorem d_Mod_put_114 : decode b_Mod_put 114 = .ok (.return_, 1) := by decide +kernel
theorem d_Mod_read_0 : decode b_Mod_read 0 = .ok (.aload_n 0, 1) := by decide +kernel
theorem d_Mod_read_1 : decode b_Mod_read 1 = .ok (.iconst 0, 1) := by decide +kernel
theorem d_Mod_read_2 : decode b_Mod_read 2 = .ok (.putfield 84, 3) := by decide +kernel
theorem d_Mod_read_5 : decode b_Mod_read 5 = .ok (.aload_n 0, 1) := by decide +kernel
theorem d_Mod_read_6 : decode b_Mod_read 6 = .ok (.iconst 0, 1) := by decide +kernel
theorem d_Mod_read_7 : decode b_Mod_read 7 = .ok (.putfield 91, 3) := by decide +kernel
theorem d_Mod_read_10 : decode b_Mod_read 10 = .ok (.aload_n 0, 1) := by decide +kernel
theorem d_Mod_read_11 : decode b_Mod_read 11 = .ok (.iconst (-1), 1) := by decide +kernel
theorem d_Mod_read_12 : decode b_Mod_read 12 = .ok (.putfield 94, 3) := by decide +kernel
theorem d_Mod_read_15 : decode b_Mod_read 15 = .ok (.aload_n 0, 1) := by decide +kernel
theorem d_Mod_read_16 : decode b_Mod_read 16 = .ok (.getfield 19, 3) := by decide +kernel
theorem d_Mod_read_19 : decode b_Mod_read 19 = .ok (.iconst 1, 1) := by decide +kernel
theorem d_Mod_read_20 : decode b_Mod_read 20 = .ok (.iconst 0, 1) := by decide +kernel
theorem d_Mod_read_21 : decode b_Mod_read 21 = .ok (.iastore, 1) := by decide +kernel
theorem d_Mod_read_22 : decode b_Mod_read 22 = .ok (.aload_n 0, 1) := by decide +kernel
theorem d_Mod_read_23 : decode b_Mod_read 23 = .ok (.getfield 22, 3) := by decide +kernel
theorem d_Mod_read_26 : decode b_Mod_read 26 = .ok (.iconst 1, 1) := by decide +kernel
theorem d_Mod_read_27 : decode b_Mod_read 27 = .ok (.iconst 0, 1) := by decide +kernel
theorem d_Mod_read_28 : decode b_Mod_read 28 = .ok (.iastore, 1) := by decide +kernel
theorem d_Mod_read_29 : decode b_Mod_read 29 = .ok (.aload_n 0, 1) := by decide +kernel
theorem d_Mod_read_30 : decode b_Mod_read 30 = .ok (.invokevirtual 176, 3) := by decide +kernel
theorem d_Mod_read_33 : decode b_Mod_read 33 = .ok (.aload_n 0, 1) := by decide +kernel
theorem d_Mod_read_34 : decode b_Mod_read 34 = .ok (.getfield 94, 3) := by decide +kernel
theorem d_Mod_read_37 : decode b_Mod_read 37 = .ok (.ifCond .ge 66, 3) := by decide +kernel
theorem d_Mod_read_40 : decode b_Mod_read 40 = .ok (.aload_n 0, 1) := by decide +kernel
theorem d_Mod_read_41 : decode b_Mod_read 41 = .ok (.getfield 91, 3) := by decide +kernel
theorem d_Mod_read_44 : decode b_Mod_read 44 = .ok (.aload_n 0, 1) := by decide +kernel
theorem d_Mod_read_45 : decode b_Mod_read 45 = .ok (.getfield 88, 3) := by decide +kernel
theorem d_Mod_read_48 : decode b_Mod_read 48 = .ok (.if_icmp .ge 55, 3) := by decide +kernel
theorem d_Mod_read_51 : decode b_Mod_read 51 = .ok (.aload_n 0, 1) := by decide +kernel
theorem d_Mod_read_52 : decode b_Mod_read 52 = .ok (.invokevirtual 111, 3) := by decide +kernel
theorem d_Mod_read_55 : decode b_Mod_read 55 = .ok (.bipush 59, 2) := by decide +kernel
theorem d_Mod_read_57 : decode b_Mod_read 57 = .ok (.if_icmp .ne 14, 3) := by decide +kernel
theorem d_Mod_read_60 : decode b_Mod_read 60 = .ok (.aload_n 0, 1) := by decide +kernel
theorem d_Mod_read_61 : decode b_Mod_read 61 = .ok (.getfield 22, 3) := by decide +kernel
theorem d_Mod_read_64 : decode b_Mod_read 64 = .ok (.iconst 1, 1) := by decide +kernel
theorem d_Mod_read_65 : decode b_Mod_read 65 = .ok (.iaload, 1) := by decide +kernel
theorem d_Mod_read_66 : decode b_Mod_read 66 = .ok (.bipush 24, 2) := by decide +kernel
theorem d_Mod_read_68 : decode b_Mod_read 68 = .ok (.if_icmp .ne 11, 3) := by decide +kernel
theorem d_Mod_read_71 : decode b_Mod_read 71 = .ok (.aload_n 0, 1) := by decide +kernel
theorem d_Mod_read_72 : decode b_Mod_read 72 = .ok (.aload_n 0, 1) := by decide +kernel
theorem d_Mod_read_73 : decode b_Mod_read 73 = .ok (.getfield 91, 3) := by decide +kernel
theorem d_Mod_read_76 : decode b_Mod_read 76 = .ok (.invokevirtual 119, 3) := by decide +kernel
theorem d_Mod_read_79 : decode b_Mod_read 79 = .ok (.aload_n 0, 1) := by decide +kernel
theorem d_Mod_read_80 : decode b_Mod_read 80 = .ok (.dup, 1) := by decide +kernel
theorem d_Mod_read_81 : decode b_Mod_read 81 = .ok (.getfield 91, 3) := by decide +kernel
theorem d_Mod_read_84 : decode b_Mod_read 84 = .ok (.iconst 1, 1) := by decide +kernel
theorem d_Mod_read_85 : decode b_Mod_read 85 = .ok (.iadd, 1) := by decide +kernel
theorem d_Mod_read_86 : decode b_Mod_read 86 = .ok (.putfield 91, 3) := by decide +kernel
theorem d_Mod_read_89 : decode b_Mod_read 89 = .ok (.aload_n 0, 1) := by decide +kernel
theorem d_Mod_read_90 : decode b_Mod_read 90 = .ok (.getfield 94, 3) := by decide +kernel
theorem d_Mod_read_93 : decode b_Mod_read 93 = .ok (.ifCond .ge (-60), 3) := by decide +kernel
theorem d_Mod_read_96 : decode b_Mod_read 96 = .ok (.aload_n 0, 1) := by decide +kernel
theorem d_Mod_read_97 : decode b_Mod_read 97 = .ok (.invokevirtual 176, 3) := by decide +kernel
theorem d_Mod_read_100 : decode b_Mod_read 100 = .ok (.goto (-67), 3) := by decide +kernel
theorem d_Mod_read_103 : decode b_Mod_read 103 = .ok (.aload_n 0, 1) := by decide +kernel
theorem d_Mod_read_104 : decode b_Mod_read 104 = .ok (.iconst 0, 1) := by decide +kernel
theorem d_Mod_read_105 : decode b_Mod_read 105 = .ok (.putfield 88, 3) := by decide +kernel
theorem d_Mod_read_108 : decode b_Mod_read 108 = .ok (.aload_n 0, 1) := by decide +kernel
theorem d_Mod_read_109 : decode b_Mod_read 109 = .ok (.getfield 94, 3) := by decide +kernel
theorem d_Mod_read_112 : decode b_Mod_read 112 = .ok (.ifCond .lt 10, 3) := by decide +kernel
theorem d_Mod_read_115 : decode b_Mod_read 115 = .ok (.iconst (-1), 1) := by decide +kernel
theorem d_Mod_read_116 : decode b_Mod_read 116 = .ok (.aload_n 0, 1) := by decide +kernel
theorem d_Mod_read_117 : decode b_Mod_read 117 = .ok (.getfield 94, 3) := by decide +kernel
theorem d_Mod_read_120 : decode b_Mod_read 120 = .ok (.isub, 1) := by decide +kernel
theorem d_Mod_read_121 : decode b_Mod_read 121 = .ok (.ireturn, 1) := by decide +kernel
theorem d_Mod_read_122 : decode b_Mod_read 122 = .ok (.aload_n 0, 1) := by decide +kernel
theorem d_Mod_read_123 : decode b_Mod_read 123 = .ok (.invokevirtual 179, 3) := by decide +kernel
theorem d_Mod_read_126 : decode b_Mod_read 126 = .ok (.aload_n 0, 1) := by decide +kernel
theorem d_Mod_read_127 : decode b_Mod_read 127 = .ok (.getfield 22, 3) := by decide +kernel
theorem d_Mod_read_130 : decode b_Mod_read 130 = .ok (.iconst 0, 1) := by decide +kernel
theorem d_Mod_read_131 : decode b_Mod_read 131 = .ok (.iaload, 1) := by decide +kernel
theorem d_Mod_read_132 : decode b_Mod_read 132 = .ok (.ireturn, 1) := by decide +kernel
theorem d_Mod_reckon_0 : decode b_Mod_reckon 0 = .ok (.aload_n 0, 1) := by decide +kernel
theorem d_Mod_reckon_1 : decode b_Mod_reckon 1 = .ok (.iconst 0, 1) := by decide +kernel
theorem d_Mod_reckon_2 : decode b_Mod_reckon 2 = .ok (.putfield 198, 3) := by decide +kernel
theorem d_Mod_reckon_5 : decode b_Mod_reckon 5 = .ok (.aload_n 0, 1) := by decide +kernel
theorem d_Mod_reckon_6 : decode b_Mod_reckon 6 = .ok (.iconst 0, 1) := by decide +kernel
theorem d_Mod_reckon_7 : decode b_Mod_reckon 7 = .ok (.putfield 195, 3) := by decide +kernel
theorem d_Mod_reckon_10 : decode b_Mod_reckon 10 = .ok (.iload_n 1, 1) := by decide +kernel
theorem d_Mod_reckon_11 : decode b_Mod_reckon 11 = .ok (.istore_n 3, 1) := by decide +kernel
theorem d_Mod_reckon_12 : decode b_Mod_reckon 12 = .ok (.iload_n 3, 1) := by decide +kernel
theorem d_Mod_reckon_13 : decode b_Mod_reckon 13 = .ok (.iload_n 2, 1) := by decide +kernel
theorem d_Mod_reckon_14 : decode b_Mod_reckon 14 = .ok (.if_icmp .ge 185, 3) := by decide +kernel
theorem d_Mod_reckon_17 : decode b_Mod_reckon 17 = .ok (.aload_n 0, 1) := by decide +kernel
theorem d_Mod_reckon_18 : decode b_Mod_reckon 18 = .ok (.getfield 13, 3) := by decide +kernel
theorem d_Mod_reckon_21 : decode b_Mod_reckon 21 = .ok (.iload_n 3, 1) := by decide +kernel
theorem d_Mod_reckon_22 : decode b_Mod_reckon 22 = .ok (.iaload, 1) := by decide +kernel
theorem d_Mod_reckon_23 : decode b_Mod_reckon 23 = .ok (.bipush 9, 2) := by decide +kernel
theorem d_Mod_reckon_25 : decode b_Mod_reckon 25 = .ok (.if_icmp .eq 174, 3) := by decide +kernel
theorem d_Mod_reckon_28 : decode b_Mod_reckon 28 = .ok (.aload_n 0, 1) := by decide +kernel
theorem d_Mod_reckon_29 : decode b_Mod_reckon 29 = .ok (.getfield 13, 3) := by decide +kernel
theorem d_Mod_reckon_32 : decode b_Mod_reckon 32 = .ok (.iload_n 3, 1) := by decide +kernel
theorem d_Mod_reckon_33 : decode b_Mod_reckon 33 = .ok (.iaload, 1) := by decide +kernel
theorem d_Mod_reckon_34 : decode b_Mod_reckon 34 = .ok (.bipush 10, 2) := by decide +kernel
theorem d_Mod_reckon_36 : decode b_Mod_reckon 36 = .ok (.if_icmp .eq 163, 3) := by decide +kernel
theorem d_Mod_reckon_39 : decode b_Mod_reckon 39 = .ok (.aload_n 0, 1) := by decide +kernel
theorem d_Mod_reckon_40 : decode b_Mod_reckon 40 = .ok (.getfield 195, 3) := by decide +kernel
theorem d_Mod_reckon_43 : decode b_Mod_reckon 43 = .ok (.ifCond .ne 156, 3) := by decide +kernel
theorem d_Mod_reckon_46 : decode b_Mod_reckon 46 = .ok (.aload_n 0, 1) := by decide +kernel
theorem d_Mod_reckon_47 : decode b_Mod_reckon 47 = .ok (.getfield 13, 3) := by decide +kernel
theorem d_Mod_reckon_50 : decode b_Mod_reckon 50 = .ok (.iload_n 3, 1) := by decide +kernel
theorem d_Mod_reckon_51 : decode b_Mod_reckon 51 = .ok (.iaload, 1) := by decide +kernel
theorem d_Mod_reckon_52 : decode b_Mod_reckon 52 = .ok (.istore 4, 2) := by decide +kernel
theorem d_Mod_reckon_54 : decode b_Mod_reckon 54 = .ok (.iload 4, 2) := by decide +kernel
theorem d_Mod_reckon_56 : decode b_Mod_reckon 56 = .ok (.iconst 1, 1) := by decide +kernel
theorem d_Mod_reckon_57 : decode b_Mod_reckon 57 = .ok (.if_icmp .ne 20, 3) := by decide +kernel
theorem d_Mod_reckon_60 : decode b_Mod_reckon 60 = .ok (.aload_n 0, 1) := by decide +kernel
theorem d_Mod_reckon_61 : decode b_Mod_reckon 61 = .ok (.aload_n 0, 1) := by decide +kernel
theorem d_Mod_reckon_62 : decode b_Mod_reckon 62 = .ok (.getfield 16, 3) := by decide +kernel
theorem d_Mod_reckon_65 : decode b_Mod_reckon 65 = .ok (.iload_n 3, 1) := by decide +kernel
theorem d_Mod_reckon_66 : decode b_Mod_reckon 66 = .ok (.iaload, 1) := by decide +kernel
theorem d_Mod_reckon_67 : decode b_Mod_reckon 67 = .ok (.i2l, 1) := by decide +kernel
theorem d_Mod_reckon_68 : decode b_Mod_reckon 68 = .ok (.ldc2_w 205, 3) := by decide +kernel
theorem d_Mod_reckon_71 : decode b_Mod_reckon 71 = .ok (.invokevirtual 201, 3) := by decide +kernel
theorem d_Mod_reckon_74 : decode b_Mod_reckon 74 = .ok (.goto 119, 3) := by decide +kernel
theorem d_Mod_reckon_77 : decode b_Mod_reckon 77 = .ok (.iload 4, 2) := by decide +kernel
theorem d_Mod_reckon_79 : decode b_Mod_reckon 79 = .ok (.iconst 2, 1) := by decide +kernel
theorem d_Mod_reckon_80 : decode b_Mod_reckon 80 = .ok (.if_icmp .ne 56, 3) := by decide +kernel
theorem d_Mod_reckon_83 : decode b_Mod_reckon 83 = .ok (.aload_n 0, 1) := by decide +kernel
theorem d_Mod_reckon_84 : decode b_Mod_reckon 84 = .ok (.getfield 69, 3) := by decide +kernel
theorem d_Mod_reckon_87 : decode b_Mod_reckon 87 = .ok (.aload_n 0, 1) := by decide +kernel
theorem d_Mod_reckon_88 : decode b_Mod_reckon 88 = .ok (.getfield 198, 3) := by decide +kernel
theorem d_Mod_reckon_91 : decode b_Mod_reckon 91 = .ok (.aload_n 0, 1) := by decide +kernel
theorem d_Mod_reckon_92 : decode b_Mod_reckon 92 = .ok (.getfield 34, 3) := by decide +kernel
theorem d_Mod_reckon_95 : decode b_Mod_reckon 95 = .ok (.aload_n 0, 1) := by decide +kernel
theorem d_Mod_reckon_96 : decode b_Mod_reckon 96 = .ok (.getfield 16, 3) := by decide +kernel
theorem d_Mod_reckon_99 : decode b_Mod_reckon 99 = .ok (.iload_n 3, 1) := by decide +kernel
theorem d_Mod_reckon_100 : decode b_Mod_reckon 100 = .ok (.iaload, 1) := by decide +kernel
theorem d_Mod_reckon_101 : decode b_Mod_reckon 101 = .ok (.laload, 1) := by decide +kernel
theorem d_Mod_reckon_102 : decode b_Mod_reckon 102 = .ok (.lastore, 1) := by decide +kernel
theorem d_Mod_reckon_103 : decode b_Mod_reckon 103 = .ok (.aload_n 0, 1) := by decide +kernel
theorem d_Mod_reckon_104 : decode b_Mod_reckon 104 = .ok (.getfield 72, 3) := by decide +kernel
theorem d_Mod_reckon_107 : decode b_Mod_reckon 107 = .ok (.aload_n 0, 1) := by decide +kernel
theorem d_Mod_reckon_108 : decode b_Mod_reckon 108 = .ok (.getfield 198, 3) := by decide +kernel
theorem d_Mod_reckon_111 : decode b_Mod_reckon 111 = .ok (.aload_n 0, 1) := by decide +kernel
theorem d_Mod_reckon_112 : decode b_Mod_reckon 112 = .ok (.getfield 38, 3) := by decide +kernel
theorem d_Mod_reckon_115 : decode b_Mod_reckon 115 = .ok (.aload_n 0, 1) := by decide +kernel
theorem d_Mod_reckon_116 : decode b_Mod_reckon 116 = .ok (.getfield 16, 3) := by decide +kernel
theorem d_Mod_reckon_119 : decode b_Mod_reckon 119 = .ok (.iload_n 3, 1) := by decide +kernel
theorem d_Mod_reckon_120 : decode b_Mod_reckon 120 = .ok (.iaload, 1) := by decide +kernel
theorem d_Mod_reckon_121 : decode b_Mod_reckon 121 = .ok (.laload, 1) := by decide +kernel
theorem d_Mod_reckon_122 : decode b_Mod_reckon 122 = .ok (.lastore, 1) := by decide +kernel
theorem d_Mod_reckon_123 : decode b_Mod_reckon 123 = .ok (.aload_n 0, 1) := by decide +kernel
theorem d_Mod_reckon_124 : decode b_Mod_reckon 124 = .ok (.dup, 1) := by decide +kernel
theorem d_Mod_reckon_125 : decode b_Mod_reckon 125 = .ok (.getfield 198, 3) := by decide +kernel
theorem d_Mod_reckon_128 : decode b_Mod_reckon 128 = .ok (.iconst 1, 1) := by decide +kernel
theorem d_Mod_reckon_129 : decode b_Mod_reckon 129 = .ok (.iadd, 1) := by decide +kernel
theorem d_Mod_reckon_130 : decode b_Mod_reckon 130 = .ok (.putfield 198, 3) := by decide +kernel
theorem d_Mod_reckon_133 : decode b_Mod_reckon 133 = .ok (.goto 60, 3) := by decide +kernel
theorem d_Mod_reckon_136 : decode b_Mod_reckon 136 = .ok (.iload 4, 2) := by decide +kernel
theorem d_Mod_reckon_138 : decode b_Mod_reckon 138 = .ok (.iconst 3, 1) := by decide +kernel
theorem d_Mod_reckon_139 : decode b_Mod_reckon 139 = .ok (.if_icmp .ne 16, 3) := by decide +kernel
theorem d_Mod_reckon_142 : decode b_Mod_reckon 142 = .ok (.aload_n 0, 1) := by decide +kernel
theorem d_Mod_reckon_143 : decode b_Mod_reckon 143 = .ok (.aload_n 0, 1) := by decide +kernel
theorem d_Mod_reckon_144 : decode b_Mod_reckon 144 = .ok (.getfield 16, 3) := by decide +kernel
theorem d_Mod_reckon_147 : decode b_Mod_reckon 147 = .ok (.iload_n 3, 1) := by decide +kernel
theorem d_Mod_reckon_148 : decode b_Mod_reckon 148 = .ok (.iaload, 1) := by decide +kernel
theorem d_Mod_reckon_149 : decode b_Mod_reckon 149 = .ok (.invokevirtual 207, 3) := by decide +kernel
theorem d_Mod_reckon_152 : decode b_Mod_reckon 152 = .ok (.goto 41, 3) := by decide +kernel
theorem d_Mod_reckon_155 : decode b_Mod_reckon 155 = .ok (.iload 4, 2) := by decide +kernel
theorem d_Mod_reckon_157 : decode b_Mod_reckon 157 = .ok (.iconst 4, 1) := by decide +kernel
theorem d_Mod_reckon_158 : decode b_Mod_reckon 158 = .ok (.if_icmp .ne 29, 3) := by decide +kernel
theorem d_Mod_reckon_161 : decode b_Mod_reckon 161 = .ok (.aload_n 0, 1) := by decide +kernel
theorem d_Mod_reckon_162 : decode b_Mod_reckon 162 = .ok (.getfield 69, 3) := by decide +kernel
theorem d_Mod_reckon_165 : decode b_Mod_reckon 165 = .ok (.aload_n 0, 1) := by decide +kernel
theorem d_Mod_reckon_166 : decode b_Mod_reckon 166 = .ok (.getfield 198, 3) := by decide +kernel
theorem d_Mod_reckon_169 : decode b_Mod_reckon 169 = .ok (.iconst 1, 1) := by decide +kernel
theorem d_Mod_reckon_170 : decode b_Mod_reckon 170 = .ok (.isub, 1) := by decide +kernel
theorem d_Mod_reckon_171 : decode b_Mod_reckon 171 = .ok (.aload_n 0, 1) := by decide +kernel
theorem d_Mod_reckon_172 : decode b_Mod_reckon 172 = .ok (.getfield 69, 3) := by decide +kernel
theorem d_Mod_reckon_175 : decode b_Mod_reckon 175 = .ok (.aload_n 0, 1) := by decide +kernel
theorem d_Mod_reckon_176 : decode b_Mod_reckon 176 = .ok (.getfield 198, 3) := by decide +kernel
theorem d_Mod_reckon_179 : decode b_Mod_reckon 179 = .ok (.iconst 1, 1) := by decide +kernel
theorem d_Mod_reckon_180 : decode b_Mod_reckon 180 = .ok (.isub, 1) := by decide +kernel
theorem d_Mod_reckon_181 : decode b_Mod_reckon 181 = .ok (.laload, 1) := by decide +kernel
theorem d_Mod_reckon_182 : decode b_Mod_reckon 182 = .ok (.lneg, 1) := by decide +kernel
theorem d_Mod_reckon_183 : decode b_Mod_reckon 183 = .ok (.lastore, 1) := by decide +kernel
theorem d_Mod_reckon_184 : decode b_Mod_reckon 184 = .ok (.goto 9, 3) := by decide +kernel
theorem d_Mod_reckon_187 : decode b_Mod_reckon 187 = .ok (.aload_n 0, 1) := by decide +kernel
theorem d_Mod_reckon_188 : decode b_Mod_reckon 188 = .ok (.iload 4, 2) := by decide +kernel
theorem d_Mod_reckon_190 : decode b_Mod_reckon 190 = .ok (.invokevirtual 210, 3) := by decide +kernel
theorem d_Mod_reckon_193 : decode b_Mod_reckon 193 = .ok (.iinc 3 1, 3) := by decide +kernel
theorem d_Mod_reckon_196 : decode b_Mod_reckon 196 = .ok (.goto (-184), 3) := by decide +kernel
theorem d_Mod_reckon_199 : decode b_Mod_reckon 199 = .ok (.iload_n 3, 1) := by decide +kernel
theorem d_Mod_reckon_200 : decode b_Mod_reckon 200 = .ok (.ireturn, 1) := by decide +kernel
theorem d_Mod_reckonCell_0 : decode b_Mod_reckonCell 0 = .ok (.aload_n 0, 1) := by decide +kernel
theorem d_Mod_reckonCell_1 : decode b_Mod_reckonCell 1 = .ok (.getfield 41, 3) := by decide +kernel
theorem d_Mod_reckonCell_4 : decode b_Mod_reckonCell 4 = .ok (.iload_n 1, 1) := by decide +kernel
theorem d_Mod_reckonCell_5 : decode b_Mod_reckonCell 5 = .ok (.iaload, 1) := by decide +kernel
theorem d_Mod_reckonCell_6 : decode b_Mod_reckonCell 6 = .ok (.istore_n 2, 1) := by decide +kernel
theorem d_Mod_reckonCell_7 : decode b_Mod_reckonCell 7 = .ok (.aload_n 0, 1) := by decide +kernel
theorem d_Mod_reckonCell_8 : decode b_Mod_reckonCell 8 = .ok (.getfield 25, 3) := by decide +kernel
theorem d_Mod_reckonCell_11 : decode b_Mod_reckonCell 11 = .ok (.iload_n 2, 1) := by decide +kernel
theorem d_Mod_reckonCell_12 : decode b_Mod_reckonCell 12 = .ok (.iaload, 1) := by decide +kernel
theorem d_Mod_reckonCell_13 : decode b_Mod_reckonCell 13 = .ok (.istore_n 3, 1) := by decide +kernel
theorem d_Mod_reckonCell_14 : decode b_Mod_reckonCell 14 = .ok (.aload_n 0, 1) := by decide +kernel
theorem d_Mod_reckonCell_15 : decode b_Mod_reckonCell 15 = .ok (.getfield 25, 3) := by decide +kernel
theorem d_Mod_reckonCell_18 : decode b_Mod_reckonCell 18 = .ok (.iload_n 2, 1) := by decide +kernel
theorem d_Mod_reckonCell_19 : decode b_Mod_reckonCell 19 = .ok (.iconst 1, 1) := by decide +kernel
theorem d_Mod_reckonCell_20 : decode b_Mod_reckonCell 20 = .ok (.iadd, 1) := by decide +kernel
theorem d_Mod_reckonCell_21 : decode b_Mod_reckonCell 21 = .ok (.iaload, 1) := by decide +kernel
theorem d_Mod_reckonCell_22 : decode b_Mod_reckonCell 22 = .ok (.istore 4, 2) := by decide +kernel
theorem d_Mod_reckonCell_24 : decode b_Mod_reckonCell 24 = .ok (.iconst 0, 1) := by decide +kernel
theorem d_Mod_reckonCell_25 : decode b_Mod_reckonCell 25 = .ok (.istore 5, 2) := by decide +kernel
theorem d_Mod_reckonCell_27 : decode b_Mod_reckonCell 27 = .ok (.iconst 0, 1) := by decide +kernel
theorem d_Mod_reckonCell_28 : decode b_Mod_reckonCell 28 = .ok (.istore 6, 2) := by decide +kernel
theorem d_Mod_reckonCell_30 : decode b_Mod_reckonCell 30 = .ok (.iload 6, 2) := by decide +kernel
theorem d_Mod_reckonCell_32 : decode b_Mod_reckonCell 32 = .ok (.ifCond .ne 96, 3) := by decide +kernel
theorem d_Mod_reckonCell_35 : decode b_Mod_reckonCell 35 = .ok (.aload_n 0, 1) := by decide +kernel
theorem d_Mod_reckonCell_36 : decode b_Mod_reckonCell 36 = .ok (.iload_n 3, 1) := by decide +kernel
theorem d_Mod_reckonCell_37 : decode b_Mod_reckonCell 37 = .ok (.iload 4, 2) := by decide +kernel
theorem d_Mod_reckonCell_39 : decode b_Mod_reckonCell 39 = .ok (.invokevirtual 213, 3) := by decide +kernel
theorem d_Mod_reckonCell_42 : decode b_Mod_reckonCell 42 = .ok (.istore_n 3, 1) := by decide +kernel
theorem d_Mod_reckonCell_43 : decode b_Mod_reckonCell 43 = .ok (.aload_n 0, 1) := by decide +kernel
theorem d_Mod_reckonCell_44 : decode b_Mod_reckonCell 44 = .ok (.getfield 195, 3) := by decide +kernel
theorem d_Mod_reckonCell_47 : decode b_Mod_reckonCell 47 = .ok (.ifCond .gt 20, 3) := by decide +kernel
theorem d_Mod_reckonCell_50 : decode b_Mod_reckonCell 50 = .ok (.iload_n 3, 1) := by decide +kernel
theorem d_Mod_reckonCell_51 : decode b_Mod_reckonCell 51 = .ok (.iload 4, 2) := by decide +kernel
theorem d_Mod_reckonCell_53 : decode b_Mod_reckonCell 53 = .ok (.if_icmp .eq 14, 3) := by decide +kernel
theorem d_Mod_reckonCell_56 : decode b_Mod_reckonCell 56 = .ok (.aload_n 0, 1) := by decide +kernel
theorem d_Mod_reckonCell_57 : decode b_Mod_reckonCell 57 = .ok (.getfield 13, 3) := by decide +kernel
theorem d_Mod_reckonCell_60 : decode b_Mod_reckonCell 60 = .ok (.iload_n 3, 1) := by decide +kernel
theorem d_Mod_reckonCell_61 : decode b_Mod_reckonCell 61 = .ok (.iaload, 1) := by decide +kernel
theorem d_Mod_reckonCell_62 : decode b_Mod_reckonCell 62 = .ok (.bipush 10, 2) := by decide +kernel
theorem d_Mod_reckonCell_64 : decode b_Mod_reckonCell 64 = .ok (.if_icmp .ne 9, 3) := by decide +kernel
theorem d_Mod_reckonCell_67 : decode b_Mod_reckonCell 67 = .ok (.iconst 1, 1) := by decide +kernel
theorem d_Mod_reckonCell_68 : decode b_Mod_reckonCell 68 = .ok (.istore 6, 2) := by decide +kernel
theorem d_Mod_reckonCell_70 : decode b_Mod_reckonCell 70 = .ok (.goto (-40), 3) := by decide +kernel
theorem d_Mod_reckonCell_73 : decode b_Mod_reckonCell 73 = .ok (.aload_n 0, 1) := by decide +kernel
theorem d_Mod_reckonCell_74 : decode b_Mod_reckonCell 74 = .ok (.aload_n 0, 1) := by decide +kernel
theorem d_Mod_reckonCell_75 : decode b_Mod_reckonCell 75 = .ok (.getfield 16, 3) := by decide +kernel
theorem d_Mod_reckonCell_78 : decode b_Mod_reckonCell 78 = .ok (.iload_n 3, 1) := by decide +kernel
theorem d_Mod_reckonCell_79 : decode b_Mod_reckonCell 79 = .ok (.iaload, 1) := by decide +kernel
theorem d_Mod_reckonCell_80 : decode b_Mod_reckonCell 80 = .ok (.invokevirtual 217, 3) := by decide +kernel
theorem d_Mod_reckonCell_83 : decode b_Mod_reckonCell 83 = .ok (.ifCond .eq 19, 3) := by decide +kernel
theorem d_Mod_reckonCell_86 : decode b_Mod_reckonCell 86 = .ok (.aload_n 0, 1) := by decide +kernel
theorem d_Mod_reckonCell_87 : decode b_Mod_reckonCell 87 = .ok (.iload_n 3, 1) := by decide +kernel
theorem d_Mod_reckonCell_88 : decode b_Mod_reckonCell 88 = .ok (.iconst 1, 1) := by decide +kernel
theorem d_Mod_reckonCell_89 : decode b_Mod_reckonCell 89 = .ok (.iadd, 1) := by decide +kernel
theorem d_Mod_reckonCell_90 : decode b_Mod_reckonCell 90 = .ok (.iload 4, 2) := by decide +kernel
theorem d_Mod_reckonCell_92 : decode b_Mod_reckonCell 92 = .ok (.invokevirtual 213, 3) := by decide +kernel
theorem d_Mod_reckonCell_95 : decode b_Mod_reckonCell 95 = .ok (.istore_n 3, 1) := by decide +kernel
theorem d_Mod_reckonCell_96 : decode b_Mod_reckonCell 96 = .ok (.iconst 1, 1) := by decide +kernel
theorem d_Mod_reckonCell_97 : decode b_Mod_reckonCell 97 = .ok (.istore 6, 2) := by decide +kernel
theorem d_Mod_reckonCell_99 : decode b_Mod_reckonCell 99 = .ok (.goto (-69), 3) := by decide +kernel
theorem d_Mod_reckonCell_102 : decode b_Mod_reckonCell 102 = .ok (.aload_n 0, 1) := by decide +kernel
theorem d_Mod_reckonCell_103 : decode b_Mod_reckonCell 103 = .ok (.getfield 13, 3) := by decide +kernel
theorem d_Mod_reckonCell_106 : decode b_Mod_reckonCell 106 = .ok (.iload_n 3, 1) := by decide +kernel
theorem d_Mod_reckonCell_107 : decode b_Mod_reckonCell 107 = .ok (.iaload, 1) := by decide +kernel
theorem d_Mod_reckonCell_108 : decode b_Mod_reckonCell 108 = .ok (.bipush 10, 2) := by decide +kernel
theorem d_Mod_reckonCell_110 : decode b_Mod_reckonCell 110 = .ok (.if_icmp .eq 9, 3) := by decide +kernel
theorem d_Mod_reckonCell_113 : decode b_Mod_reckonCell 113 = .ok (.iinc 3 1, 3) := by decide +kernel
theorem d_Mod_reckonCell_116 : decode b_Mod_reckonCell 116 = .ok (.goto (-14), 3) := by decide +kernel
theorem d_Mod_reckonCell_119 : decode b_Mod_reckonCell 119 = .ok (.iinc 3 1, 3) := by decide +kernel
theorem d_Mod_reckonCell_122 : decode b_Mod_reckonCell 122 = .ok (.iinc 5 1, 3) := by decide +kernel
theorem d_Mod_reckonCell_125 : decode b_Mod_reckonCell 125 = .ok (.goto (-95), 3) := by decide +kernel
theorem d_Mod_reckonCell_128 : decode b_Mod_reckonCell 128 = .ok (.aload_n 0, 1) := by decide +kernel
theorem d_Mod_reckonCell_129 : decode b_Mod_reckonCell 129 = .ok (.getfield 48, 3) := by decide +kernel
theorem d_Mod_reckonCell_132 : decode b_Mod_reckonCell 132 = .ok (.iload_n 1, 1) := by decide +kernel
theorem d_Mod_reckonCell_133 : decode b_Mod_reckonCell 133 = .ok (.aload_n 0, 1) := by decide +kernel
theorem d_Mod_reckonCell_134 : decode b_Mod_reckonCell 134 = .ok (.getfield 195, 3) := by decide +kernel
theorem d_Mod_reckonCell_137 : decode b_Mod_reckonCell 137 = .ok (.ifCond .le 10, 3) := by decide +kernel
theorem d_Mod_reckonCell_140 : decode b_Mod_reckonCell 140 = .ok (.aload_n 0, 1) := by decide +kernel
theorem d_Mod_reckonCell_141 : decode b_Mod_reckonCell 141 = .ok (.getfield 195, 3) := by decide +kernel
theorem d_Mod_reckonCell_144 : decode b_Mod_reckonCell 144 = .ok (.goto 4, 3) := by decide +kernel
theorem d_Mod_reckonCell_147 : decode b_Mod_reckonCell 147 = .ok (.iconst 1, 1) := by decide +kernel
theorem d_Mod_reckonCell_148 : decode b_Mod_reckonCell 148 = .ok (.iastore, 1) := by decide +kernel
theorem d_Mod_reckonCell_149 : decode b_Mod_reckonCell 149 = .ok (.aload_n 0, 1) := by decide +kernel
theorem d_Mod_reckonCell_150 : decode b_Mod_reckonCell 150 = .ok (.getfield 51, 3) := by decide +kernel
theorem d_Mod_reckonCell_153 : decode b_Mod_reckonCell 153 = .ok (.iload_n 1, 1) := by decide +kernel
theorem d_Mod_reckonCell_154 : decode b_Mod_reckonCell 154 = .ok (.aload_n 0, 1) := by decide +kernel
theorem d_Mod_reckonCell_155 : decode b_Mod_reckonCell 155 = .ok (.getfield 195, 3) := by decide +kernel
theorem d_Mod_reckonCell_158 : decode b_Mod_reckonCell 158 = .ok (.ifCond .le 7, 3) := by decide +kernel
theorem d_Mod_reckonCell_161 : decode b_Mod_reckonCell 161 = .ok (.lconst 0, 1) := by decide +kernel
theorem d_Mod_reckonCell_162 : decode b_Mod_reckonCell 162 = .ok (.goto 9, 3) := by decide +kernel
theorem d_Mod_reckonCell_165 : decode b_Mod_reckonCell 165 = .ok (.aload_n 0, 1) := by decide +kernel
theorem d_Mod_reckonCell_166 : decode b_Mod_reckonCell 166 = .ok (.getfield 69, 3) := by decide +kernel
theorem d_Mod_reckonCell_169 : decode b_Mod_reckonCell 169 = .ok (.iconst 0, 1) := by decide +kernel
theorem d_Mod_reckonCell_170 : decode b_Mod_reckonCell 170 = .ok (.laload, 1) := by decide +kernel
theorem d_Mod_reckonCell_171 : decode b_Mod_reckonCell 171 = .ok (.lastore, 1) := by decide +kernel
theorem d_Mod_reckonCell_172 : decode b_Mod_reckonCell 172 = .ok (.aload_n 0, 1) := by decide +kernel
theorem d_Mod_reckonCell_173 : decode b_Mod_reckonCell 173 = .ok (.getfield 54, 3) := by decide +kernel
theorem d_Mod_reckonCell_176 : decode b_Mod_reckonCell 176 = .ok (.iload_n 1, 1) := by decide +kernel
theorem d_Mod_reckonCell_177 : decode b_Mod_reckonCell 177 = .ok (.aload_n 0, 1) := by decide +kernel
theorem d_Mod_reckonCell_178 : decode b_Mod_reckonCell 178 = .ok (.getfield 195, 3) := by decide +kernel
theorem d_Mod_reckonCell_181 : decode b_Mod_reckonCell 181 = .ok (.ifCond .le 7, 3) := by decide +kernel
theorem d_Mod_reckonCell_184 : decode b_Mod_reckonCell 184 = .ok (.lconst 1, 1) := by decide +kernel
theorem d_Mod_reckonCell_185 : decode b_Mod_reckonCell 185 = .ok (.goto 9, 3) := by decide +kernel
theorem d_Mod_reckonCell_188 : decode b_Mod_reckonCell 188 = .ok (.aload_n 0, 1) := by decide +kernel
theorem d_Mod_reckonCell_189 : decode b_Mod_reckonCell 189 = .ok (.getfield 72, 3) := by decide +kernel
theorem d_Mod_reckonCell_192 : decode b_Mod_reckonCell 192 = .ok (.iconst 0, 1) := by decide +kernel
theorem d_Mod_reckonCell_193 : decode b_Mod_reckonCell 193 = .ok (.laload, 1) := by decide +kernel
theorem d_Mod_reckonCell_194 : decode b_Mod_reckonCell 194 = .ok (.lastore, 1) := by decide +kernel
theorem d_Mod_reckonCell_195 : decode b_Mod_reckonCell 195 = .ok (.aload_n 0, 1) := by decide +kernel
theorem d_Mod_reckonCell_196 : decode b_Mod_reckonCell 196 = .ok (.getfield 57, 3) := by decide +kernel
theorem d_Mod_reckonCell_199 : decode b_Mod_reckonCell 199 = .ok (.iload_n 1, 1) := by decide +kernel
theorem d_Mod_reckonCell_200 : decode b_Mod_reckonCell 200 = .ok (.aload_n 0, 1) := by decide +kernel
theorem d_Mod_reckonCell_201 : decode b_Mod_reckonCell 201 = .ok (.getfield 195, 3) := by decide +kernel
theorem d_Mod_reckonCell_204 : decode b_Mod_reckonCell 204 = .ok (.ifCond .le 7, 3) := by decide +kernel
theorem d_Mod_reckonCell_207 : decode b_Mod_reckonCell 207 = .ok (.iconst (-1), 1) := by decide +kernel
theorem d_Mod_reckonCell_208 : decode b_Mod_reckonCell 208 = .ok (.goto 5, 3) := by decide +kernel
theorem d_Mod_reckonCell_211 : decode b_Mod_reckonCell 211 = .ok (.iload 5, 2) := by decide +kernel
theorem d_Mod_reckonCell_213 : decode b_Mod_reckonCell 213 = .ok (.iastore, 1) := by decide +kernel
theorem d_Mod_reckonCell_214 : decode b_Mod_reckonCell 214 = .ok (.return_, 1) := by decide +kernel
theorem g_Mod_176 : GoodIn wsAll (wsV R_Mod 176 R_Mod y_Mod_readStatement ws_Mod_readStatement) := gd_V ml_Mod_176 im_Mod_readStatement se_Mod_readStatement ini_Mod cd_Mod_readStatement
theorem g_Mod_179 : GoodIn wsAll (wsV R_Mod 179 R_Mod y_Mod_accept ws_Mod_accept) := gd_V ml_Mod_179 im_Mod_accept se_Mod_accept ini_Mod cd_Mod_accept
def F_Mod_read_103   (o0 : Ob) : Option (Int32 × Ob) :=
  if (g32 o0 4 0) < 0 then (bind1 (F_Mod_accept (s32 o0 2 0 (0 : Int32))) (fun o_17 => chk (inb (0 : Int32) 2) (some ((g32 o_17 8 (Int32.toNatClampNeg (0 : Int32))), o_17)))) else (some (((-1 : Int32) - (g32 o0 4 0)), (s32 o0 2 0 (0 : Int32))))
def F_Mod_read_71 (k33 : Ob → Option (Int32 × Ob))  (o0 : Ob) : Option (Int32 × Ob) :=
  bind1 (F_Mod_failAt (g32 o0 3 0) o0) (fun o_20 => if 0 ≤ (g32 o_20 4 0) then (k33 (s32 o_20 3 0 ((g32 o_20 3 0) + (1 : Int32)))) else (bind1 (F_Mod_readStatement (s32 o_20 3 0 ((g32 o_20 3 0) + (1 : Int32)))) (fun o_23 => k33 o_23)))
def F_Mod_read_33  : Nat → Ob → Option (Int32 × Ob)
  | 0, _ => none
  | n + 1, o0 =>
    if 0 ≤ (g32 o0 4 0) then (F_Mod_read_103 o0) else (if (g32 o0 2 0) ≤ (g32 o0 3 0) then (F_Mod_read_103 o0) else (bind1 (F_Mod_here o0) (fun v8 => if v8 = (59 : Int32) then (chk (inb (1 : Int32) 2) (if (g32 o0 8 (Int32.toNatClampNeg (1 : Int32))) = (24 : Int32) then (F_Mod_read_71 (F_Mod_read_33 n) o0) else (if 0 ≤ (g32 o0 4 0) then (F_Mod_read_33 n (s32 o0 3 0 ((g32 o0 3 0) + (1 : Int32)))) else (bind1 (F_Mod_readStatement (s32 o0 3 0 ((g32 o0 3 0) + (1 : Int32)))) (fun o_14 => F_Mod_read_33 n o_14))))) else (F_Mod_read_71 (F_Mod_read_33 n) o0))))
def F_Mod_read  (o0 : Ob) : Option (Int32 × Ob) :=
  chk (inb (1 : Int32) 2) (bind1 (F_Mod_readStatement (s32 (s32 (s32 (s32 (s32 o0 0 0 (0 : Int32)) 3 0 (0 : Int32)) 4 0 (-1 : Int32)) 7 (Int32.toNatClampNeg (1 : Int32)) (0 : Int32)) 8 (Int32.toNatClampNeg (1 : Int32)) (0 : Int32))) (fun o_4 => F_Mod_read_33 fuel o_4))
abbrev ws_Mod_read : List Cond := Cond.code y_Mod_read b_Mod_read 1 (some .int) :: wsAll
abbrev rm_Mod_read : Room := { frames := 9, cells := 0, slots := 0, locals := 198 }
set_option maxHeartbeats 4000000 in
set_option maxRecDepth 100000 in
theorem k_Mod_read_103 {p : Program} {l : Launch} {e : Env} {s : State} {m : MethodId} {args : Array Value} {below : List Frame} {meth : Method} {c : Code} {A : Nat → Prop} {ct dC : Nat → ClassId} {dI : Nat → Nat → Nat} {a0 : Nat → Nat}  {r : Int32} {n0 : Ob}   (C0 : cx wsAll vwCl nx p s m args meth c (dC, dI) (tyA ct) b_Mod_read 1 (some .int) R_Mod A [adMod a0])  : ∀  (o0 : Ob) (H : Heap) (locs : List Loc) (ls : Array Slot), bw_P (dC, dI) vwCl [wMod ct a0 o0] H → va_S A s.heap H locs → lv_has ls 1 [(0, .ref (a0 0))] → F_Mod_read_103 o0 = some (r, n0) → W p l e (headSpec ws_Mod_read rm_Mod_read).room s m args below meth c H locs 0 0 (MQ below (bw_Q (dC, dI) vwCl (some (.int r)) [wMod ct a0 n0] A) args s 0 0 A) (F0 m 103 ls []) := by
  obtain ⟨hx, hb, hr, hml, hown, hlocks, hts, hK, hN, hA, hnx⟩ := id C0
  intro o0 H locs ls hP hS hl h
  rw [F_Mod_read_103] at h
  refine lv_aload_n hx hb d_Mod_read_103 rfl (lv_at hl 0 rfl) ?_
  refine lv_iconst (v := 0) hx hb d_Mod_read_104 (by decide) ?_
  refine pt_Mod_2 hx hb hts hown hK hP hN hS 0 rfl (hts _ fl_Mod_88) d_Mod_read_105 (fun H locs hP hS => ?_)
  have hP : bw_P (dC, dI) vwCl [wMod ct a0 (s32 o0 2 0 (0 : Int32))] H := hP
  refine lv_aload_n hx hb d_Mod_read_108 rfl (lv_at hl 0 rfl) ?_
  refine va_get (D := (dC, dI)) (ci := 6) (v := .int (g32 o0 4 0)) (C := R_Mod) (T := T_Mod) (N := 36) hx hb hts in_Mod hown hK (hP 0 _ rfl) 0 rfl rfl 4 (by decide) (hts _ fl_Mod_94) (fun _ h9 => h9) rfl d_Mod_read_109 ?_
  refine lv_if_lt (tgt := 122) hx hb d_Mod_read_112 (by decide) (fun c15 => ?_) (fun c15 => ?_)
  · have h := ite_t c15 h
    refine lv_aload_n hx hb d_Mod_read_122 rfl (lv_at hl 0 rfl) ?_
    obtain ⟨o_17, hG16, h⟩ := bind1_some h
    refine bw_call (Lc := [wMod ct a0 (s32 o0 2 0 (0 : Int32))]) (Lc' := [wMod ct a0 o_17]) (L' := [wMod ct a0 o_17]) [0] (va_runV (As := []) (rest := []) ⟨hx, hb, hml, hown, hts⟩ (c_Mod_accept l ct dC dI a0 _ (s32 o0 2 0 (0 : Int32)) o_17 hG16) (cwV 0 hts g_Mod_179 rfl rfl rfl (by decide +kernel) ⟨Nat.le_of_ble_eq_true rfl, Nat.le_of_ble_eq_true rfl⟩) ⟨bw_blind nx_call, va_recv hK (hP 0 _ rfl) (ci := 6) (q0 := 0) rfl rfl, fun U hU hW => ⟨rfl, by rw [hU], by rw [hU]; exact hP.sub [0] rfl, va_K.moved hW.alike hK, (hN.sub [0] (by decide) rfl).weaken (fun _ _ => trivial), nx_warm hW hnx⟩⟩ rfl rfl hl.1 rfl (Nat.le_of_ble_eq_true rfl) d_Mod_read_123 ⟨Nat.le_of_ble_eq_true rfl, Nat.le_of_ble_eq_true rfl⟩) hP hN hS hA rfl rfl rfl (fun H locs hP hS => ?_)
    refine lv_aload_n hx hb d_Mod_read_126 rfl (lv_at hl 0 rfl) ?_
    refine va_get (D := (dC, dI)) (ci := 6) (v := .ref (a0 5)) (C := R_Mod) (T := T_Mod) (N := 36) hx hb hts in_Mod hown hK (hP 0 _ rfl) 0 rfl rfl 8 (by decide) (hts _ fl_Mod_22) (fun _ h9 => h9) rfl d_Mod_read_127 ?_
    refine lv_iconst (v := 0) hx hb d_Mod_read_130 (by decide) ?_
    obtain ⟨hi18, h⟩ := chk_some h
    refine va_iald (f := g32 o_17 8) hx hb hK (hP 0 _ rfl) 5 0 rfl rfl (inb_in hi18) d_Mod_read_131 ?_
    obtain ⟨rfl, rfl⟩ := res2 h
    exact W.iret hx hb hr (fun t ht hW => ⟨rfl, by rw [ht]; exact hP, hS.F ht⟩) hS.2.2 d_Mod_read_132
  · have h := ite_f c15 h
    refine lv_iconst (v := -1) hx hb d_Mod_read_115 (by decide) ?_
    refine lv_aload_n hx hb d_Mod_read_116 rfl (lv_at hl 0 rfl) ?_
    refine va_get (D := (dC, dI)) (ci := 6) (v := .int (g32 o0 4 0)) (C := R_Mod) (T := T_Mod) (N := 36) hx hb hts in_Mod hown hK (hP 0 _ rfl) 0 rfl rfl 4 (by decide) (hts _ fl_Mod_94) (fun _ h9 => h9) rfl d_Mod_read_117 ?_
    refine lv_isub hx hb d_Mod_read_120 ?_
    obtain ⟨rfl, rfl⟩ := res2 h
    exact W.iret hx hb hr (fun t ht hW => ⟨rfl, by rw [ht]; exact hP, hS.F ht⟩) hS.2.2 d_Mod_read_121
set_option maxHeartbeats 4000000 in
set_option maxRecDepth 100000 in
theorem k_Mod_read_71 {p : Program} {l : Launch} {e : Env} {s : State} {m : MethodId} {args : Array Value} {below : List Frame} {meth : Method} {c : Code} {A : Nat → Prop} {ct dC : Nat → ClassId} {dI : Nat → Nat → Nat} {a0 : Nat → Nat}  {r : Int32} {n0 : Ob}  {k33 : Ob → Option (Int32 × Ob)} (C0 : cx wsAll vwCl nx p s m args meth c (dC, dI) (tyA ct) b_Mod_read 1 (some .int) R_Mod A [adMod a0]) (hk33 : ∀  (o0 : Ob) (H : Heap) (locs : List Loc) (ls : Array Slot), bw_P (dC, dI) vwCl [wMod ct a0 o0] H → va_S A s.heap H locs → lv_has ls 1 [(0, .ref (a0 0))] → k33 o0 = some (r, n0) → W p l e (headSpec ws_Mod_read rm_Mod_read).room s m args below meth c H locs 0 0 (MQ below (bw_Q (dC, dI) vwCl (some (.int r)) [wMod ct a0 n0] A) args s 0 0 A) (F0 m 33 ls [])) : ∀  (o0 : Ob) (H : Heap) (locs : List Loc) (ls : Array Slot), bw_P (dC, dI) vwCl [wMod ct a0 o0] H → va_S A s.heap H locs → lv_has ls 1 [(0, .ref (a0 0))] → F_Mod_read_71 k33 o0 = some (r, n0) → W p l e (headSpec ws_Mod_read rm_Mod_read).room s m args below meth c H locs 0 0 (MQ below (bw_Q (dC, dI) vwCl (some (.int r)) [wMod ct a0 n0] A) args s 0 0 A) (F0 m 71 ls []) := by
  obtain ⟨hx, hb, hr, hml, hown, hlocks, hts, hK, hN, hA, hnx⟩ := id C0
  intro o0 H locs ls hP hS hl h
  rw [F_Mod_read_71] at h
  refine lv_aload_n hx hb d_Mod_read_71 rfl (lv_at hl 0 rfl) ?_
  refine lv_aload_n hx hb d_Mod_read_72 rfl (lv_at hl 0 rfl) ?_
  refine va_get (D := (dC, dI)) (ci := 6) (v := .int (g32 o0 3 0)) (C := R_Mod) (T := T_Mod) (N := 36) hx hb hts in_Mod hown hK (hP 0 _ rfl) 0 rfl rfl 3 (by decide) (hts _ fl_Mod_91) (fun _ h9 => h9) rfl d_Mod_read_73 ?_
  obtain ⟨o_20, hG19, h⟩ := bind1_some h
  refine bw_call (Lc := [wMod ct a0 o0]) (Lc' := [wMod ct a0 o_20]) (L' := [wMod ct a0 o_20]) [0] (va_runV (As := [.int (g32 o0 3 0)]) (rest := []) ⟨hx, hb, hml, hown, hts⟩ (c_Mod_failAt l ct dC dI a0 _ (g32 o0 3 0) o0 o_20 hG19) (cwV 1 hts g_Mod_119 rfl rfl rfl (by decide +kernel) ⟨Nat.le_of_ble_eq_true rfl, Nat.le_of_ble_eq_true rfl⟩) ⟨bw_blind nx_call, va_recv hK (hP 0 _ rfl) (ci := 6) (q0 := 0) rfl rfl, fun U hU hW => ⟨rfl, by rw [hU], by rw [hU]; exact hP.sub [0] rfl, va_K.moved hW.alike hK, (hN.sub [0] (by decide) rfl).weaken (fun _ _ => trivial), nx_warm hW hnx⟩⟩ rfl rfl hl.1 rfl (Nat.le_of_ble_eq_true rfl) d_Mod_read_76 ⟨Nat.le_of_ble_eq_true rfl, Nat.le_of_ble_eq_true rfl⟩) hP hN hS hA rfl rfl rfl (fun H locs hP hS => ?_)
  refine lv_aload_n hx hb d_Mod_read_79 rfl (lv_at hl 0 rfl) ?_
  refine lv_dup hx hb d_Mod_read_80 rfl ?_
  refine va_get (D := (dC, dI)) (ci := 6) (v := .int (g32 o_20 3 0)) (C := R_Mod) (T := T_Mod) (N := 36) hx hb hts in_Mod hown hK (hP 0 _ rfl) 0 rfl rfl 3 (by decide) (hts _ fl_Mod_91) (fun _ h9 => h9) rfl d_Mod_read_81 ?_
  refine lv_iconst (v := 1) hx hb d_Mod_read_84 (by decide) ?_
  refine lv_iadd hx hb d_Mod_read_85 ?_
  refine pt_Mod_3 hx hb hts hown hK hP hN hS 0 rfl (hts _ fl_Mod_91) d_Mod_read_86 (fun H locs hP hS => ?_)
  have hP : bw_P (dC, dI) vwCl [wMod ct a0 (s32 o_20 3 0 ((g32 o_20 3 0) + (1 : Int32)))] H := hP
  refine lv_aload_n hx hb d_Mod_read_89 rfl (lv_at hl 0 rfl) ?_
  refine va_get (D := (dC, dI)) (ci := 6) (v := .int (g32 o_20 4 0)) (C := R_Mod) (T := T_Mod) (N := 36) hx hb hts in_Mod hown hK (hP 0 _ rfl) 0 rfl rfl 4 (by decide) (hts _ fl_Mod_94) (fun _ h9 => h9) rfl d_Mod_read_90 ?_
  refine lv_if_ge (tgt := 33) hx hb d_Mod_read_93 (by decide) (fun c21 => ?_) (fun c21 => ?_)
  · have h := ite_t c21 h
    exact hk33 (s32 o_20 3 0 ((g32 o_20 3 0) + (1 : Int32))) _ _ _ hP hS (lv_sub hl [0] rfl) h
  · have h := ite_f c21 h
    refine lv_aload_n hx hb d_Mod_read_96 rfl (lv_at hl 0 rfl) ?_
    obtain ⟨o_23, hG22, h⟩ := bind1_some h
    refine bw_call (Lc := [wMod ct a0 (s32 o_20 3 0 ((g32 o_20 3 0) + (1 : Int32)))]) (Lc' := [wMod ct a0 o_23]) (L' := [wMod ct a0 o_23]) [0] (va_runV (As := []) (rest := []) ⟨hx, hb, hml, hown, hts⟩ (c_Mod_readStatement l ct dC dI a0 _ (s32 o_20 3 0 ((g32 o_20 3 0) + (1 : Int32))) o_23 hG22) (cwV 0 hts g_Mod_176 rfl rfl rfl (by decide +kernel) ⟨Nat.le_of_ble_eq_true rfl, Nat.le_of_ble_eq_true rfl⟩) ⟨bw_blind nx_call, va_recv hK (hP 0 _ rfl) (ci := 6) (q0 := 0) rfl rfl, fun U hU hW => ⟨rfl, by rw [hU], by rw [hU]; exact hP.sub [0] rfl, va_K.moved hW.alike hK, (hN.sub [0] (by decide) rfl).weaken (fun _ _ => trivial), nx_warm hW hnx⟩⟩ rfl rfl hl.1 rfl (Nat.le_of_ble_eq_true rfl) d_Mod_read_97 ⟨Nat.le_of_ble_eq_true rfl, Nat.le_of_ble_eq_true rfl⟩) hP hN hS hA rfl rfl rfl (fun H locs hP hS => ?_)
    refine lv_goto (tgt := 33) hx hb d_Mod_read_100 (by decide) ?_
    exact hk33 o_23 _ _ _ hP hS (lv_sub hl [0] rfl) h
set_option maxHeartbeats 4000000 in
set_option maxRecDepth 100000 in
theorem k_Mod_read_33 {p : Program} {l : Launch} {e : Env} {s : State} {m : MethodId} {args : Array Value} {below : List Frame} {meth : Method} {c : Code} {A : Nat → Prop} {ct dC : Nat → ClassId} {dI : Nat → Nat → Nat} {a0 : Nat → Nat}  {r : Int32} {n0 : Ob}   (C0 : cx wsAll vwCl nx p s m args meth c (dC, dI) (tyA ct) b_Mod_read 1 (some .int) R_Mod A [adMod a0])  : ∀ (n : Nat)  (o0 : Ob) (H : Heap) (locs : List Loc) (ls : Array Slot), bw_P (dC, dI) vwCl [wMod ct a0 o0] H → va_S A s.heap H locs → lv_has ls 1 [(0, .ref (a0 0))] → F_Mod_read_33 n o0 = some (r, n0) → W p l e (headSpec ws_Mod_read rm_Mod_read).room s m args below meth c H locs 0 0 (MQ below (bw_Q (dC, dI) vwCl (some (.int r)) [wMod ct a0 n0] A) args s 0 0 A) (F0 m 33 ls []) := by
  obtain ⟨hx, hb, hr, hml, hown, hlocks, hts, hK, hN, hA, hnx⟩ := id C0
  intro n
  induction n with
  | zero =>
    intro o0 H locs ls hP hS hl h
    cases h
  | succ n ih =>
    intro o0 H locs ls hP hS hl h
    rw [F_Mod_read_33] at h
    refine lv_aload_n hx hb d_Mod_read_33 rfl (lv_at hl 0 rfl) ?_
    refine va_get (D := (dC, dI)) (ci := 6) (v := .int (g32 o0 4 0)) (C := R_Mod) (T := T_Mod) (N := 36) hx hb hts in_Mod hown hK (hP 0 _ rfl) 0 rfl rfl 4 (by decide) (hts _ fl_Mod_94) (fun _ h9 => h9) rfl d_Mod_read_34 ?_
    refine lv_if_ge (tgt := 103) hx hb d_Mod_read_37 (by decide) (fun c5 => ?_) (fun c5 => ?_)
    · have h := ite_t c5 h
      exact k_Mod_read_103 C0 o0 _ _ _ hP hS (lv_sub hl [0] rfl) h
    · have h := ite_f c5 h
      refine lv_aload_n hx hb d_Mod_read_40 rfl (lv_at hl 0 rfl) ?_
      refine va_get (D := (dC, dI)) (ci := 6) (v := .int (g32 o0 3 0)) (C := R_Mod) (T := T_Mod) (N := 36) hx hb hts in_Mod hown hK (hP 0 _ rfl) 0 rfl rfl 3 (by decide) (hts _ fl_Mod_91) (fun _ h9 => h9) rfl d_Mod_read_41 ?_
      refine lv_aload_n hx hb d_Mod_read_44 rfl (lv_at hl 0 rfl) ?_
      refine va_get (D := (dC, dI)) (ci := 6) (v := .int (g32 o0 2 0)) (C := R_Mod) (T := T_Mod) (N := 36) hx hb hts in_Mod hown hK (hP 0 _ rfl) 0 rfl rfl 2 (by decide) (hts _ fl_Mod_88) (fun _ h9 => h9) rfl d_Mod_read_45 ?_
      refine lv_icmp_ge (tgt := 103) hx hb d_Mod_read_48 (by decide) (fun c6 => ?_) (fun c6 => ?_)
      · have h := ite_t c6 h
        exact k_Mod_read_103 C0 o0 _ _ _ hP hS (lv_sub hl [0] rfl) h
      · have h := ite_f c6 h
        refine lv_aload_n hx hb d_Mod_read_51 rfl (lv_at hl 0 rfl) ?_
        obtain ⟨v8, hG7, h⟩ := bind1_some h
        refine bw_callR (va_runV (As := []) (rest := []) ⟨hx, hb, hml, hown, hts⟩ (c_Mod_here l ct dC dI a0 _ o0 v8 hG7) (cwV 0 hts g_Mod_111 rfl rfl rfl (by decide +kernel) ⟨Nat.le_of_ble_eq_true rfl, Nat.le_of_ble_eq_true rfl⟩) ⟨bw_blind nx_call, va_recv hK (hP 0 _ rfl) (ci := 6) (q0 := 0) rfl rfl, fun U hU hW => ⟨rfl, by rw [hU], by rw [hU]; exact hP.sub [0] rfl, va_K.moved hW.alike hK, (hN.sub [0] (by decide) rfl).weaken (fun _ _ => trivial), nx_warm hW hnx⟩⟩ rfl rfl hl.1 rfl (Nat.le_of_ble_eq_true rfl) d_Mod_read_52 ⟨Nat.le_of_ble_eq_true rfl, Nat.le_of_ble_eq_true rfl⟩) ?_
        refine lv_bipush (v := 59) hx hb d_Mod_read_55 (by decide) ?_
        refine lv_icmp_ne (tgt := 71) hx hb d_Mod_read_57 (by decide) (fun c9 => ?_) (fun c9 => ?_)
        · have h := ite_f c9 h
          exact k_Mod_read_71 C0 ih o0 _ _ _ hP hS (lv_sub hl [0] rfl) h
        · have h := ite_t c9 h
          refine lv_aload_n hx hb d_Mod_read_60 rfl (lv_at hl 0 rfl) ?_
          refine va_get (D := (dC, dI)) (ci := 6) (v := .ref (a0 5)) (C := R_Mod) (T := T_Mod) (N := 36) hx hb hts in_Mod hown hK (hP 0 _ rfl) 0 rfl rfl 8 (by decide) (hts _ fl_Mod_22) (fun _ h9 => h9) rfl d_Mod_read_61 ?_
          refine lv_iconst (v := 1) hx hb d_Mod_read_64 (by decide) ?_
          obtain ⟨hi10, h⟩ := chk_some h
          refine va_iald (f := g32 o0 8) hx hb hK (hP 0 _ rfl) 5 0 rfl rfl (inb_in hi10) d_Mod_read_65 ?_
          refine lv_bipush (v := 24) hx hb d_Mod_read_66 (by decide) ?_
          refine lv_icmp_ne (tgt := 79) hx hb d_Mod_read_68 (by decide) (fun c11 => ?_) (fun c11 => ?_)
          · have h := ite_f c11 h
            refine lv_aload_n hx hb d_Mod_read_79 rfl (lv_at hl 0 rfl) ?_
            refine lv_dup hx hb d_Mod_read_80 rfl ?_
            refine va_get (D := (dC, dI)) (ci := 6) (v := .int (g32 o0 3 0)) (C := R_Mod) (T := T_Mod) (N := 36) hx hb hts in_Mod hown hK (hP 0 _ rfl) 0 rfl rfl 3 (by decide) (hts _ fl_Mod_91) (fun _ h9 => h9) rfl d_Mod_read_81 ?_
            refine lv_iconst (v := 1) hx hb d_Mod_read_84 (by decide) ?_
            refine lv_iadd hx hb d_Mod_read_85 ?_
            refine pt_Mod_3 hx hb hts hown hK hP hN hS 0 rfl (hts _ fl_Mod_91) d_Mod_read_86 (fun H locs hP hS => ?_)
            have hP : bw_P (dC, dI) vwCl [wMod ct a0 (s32 o0 3 0 ((g32 o0 3 0) + (1 : Int32)))] H := hP
            refine lv_aload_n hx hb d_Mod_read_89 rfl (lv_at hl 0 rfl) ?_
            refine va_get (D := (dC, dI)) (ci := 6) (v := .int (g32 o0 4 0)) (C := R_Mod) (T := T_Mod) (N := 36) hx hb hts in_Mod hown hK (hP 0 _ rfl) 0 rfl rfl 4 (by decide) (hts _ fl_Mod_94) (fun _ h9 => h9) rfl d_Mod_read_90 ?_
            refine lv_if_ge (tgt := 33) hx hb d_Mod_read_93 (by decide) (fun c12 => ?_) (fun c12 => ?_)
            · have h := ite_t c12 h
              exact ih (s32 o0 3 0 ((g32 o0 3 0) + (1 : Int32))) _ _ _ hP hS (lv_sub hl [0] rfl) h
            · have h := ite_f c12 h
              refine lv_aload_n hx hb d_Mod_read_96 rfl (lv_at hl 0 rfl) ?_
              obtain ⟨o_14, hG13, h⟩ := bind1_some h
              refine bw_call (Lc := [wMod ct a0 (s32 o0 3 0 ((g32 o0 3 0) + (1 : Int32)))]) (Lc' := [wMod ct a0 o_14]) (L' := [wMod ct a0 o_14]) [0] (va_runV (As := []) (rest := []) ⟨hx, hb, hml, hown, hts⟩ (c_Mod_readStatement l ct dC dI a0 _ (s32 o0 3 0 ((g32 o0 3 0) + (1 : Int32))) o_14 hG13) (cwV 0 hts g_Mod_176 rfl rfl rfl (by decide +kernel) ⟨Nat.le_of_ble_eq_true rfl, Nat.le_of_ble_eq_true rfl⟩) ⟨bw_blind nx_call, va_recv hK (hP 0 _ rfl) (ci := 6) (q0 := 0) rfl rfl, fun U hU hW => ⟨rfl, by rw [hU], by rw [hU]; exact hP.sub [0] rfl, va_K.moved hW.alike hK, (hN.sub [0] (by decide) rfl).weaken (fun _ _ => trivial), nx_warm hW hnx⟩⟩ rfl rfl hl.1 rfl (Nat.le_of_ble_eq_true rfl) d_Mod_read_97 ⟨Nat.le_of_ble_eq_true rfl, Nat.le_of_ble_eq_true rfl⟩) hP hN hS hA rfl rfl rfl (fun H locs hP hS => ?_)
              refine lv_goto (tgt := 33) hx hb d_Mod_read_100 (by decide) ?_
              exact ih o_14 _ _ _ hP hS (lv_sub hl [0] rfl) h
          · have h := ite_t c11 h
            exact k_Mod_read_71 C0 ih o0 _ _ _ hP hS (lv_sub hl [0] rfl) h
set_option maxHeartbeats 4000000 in
set_option maxRecDepth 100000 in
theorem c_Mod_read (l : Launch) (ct dC : Nat → ClassId) (dI : Nat → Nat → Nat) (a0 : Nat → Nat)  (sz : Nat)  (o0 : Ob) (r : Int32) (n0 : Ob) (hF : F_Mod_read o0 = some (r, n0)) : Met l y_Mod_read ws_Mod_read rm_Mod_read (bw_Pc [.ref (a0 0)] (dC, dI) vwCl (tyA ct) [wMod ct a0 o0] sz nx) (bw_Q (dC, dI) vwCl (some (.int r)) [wMod ct a0 n0] (bw_A [adMod a0] sz)) 0 0 (bw_A [adMod a0] sz) := by
  refine Met.ofW (cc := b_Mod_read) (maxL := 1) (ret := (some .int)) (by decide) rfl ?_
  intro p e s m args below meth c s₁ B hml hv
  obtain ⟨rfl, hsz, hP, hK, hN0, hnx⟩ := hv
  have hx := B.exec
  have hb := B.bytes
  have hr := B.returns
  have hts : ∀ w ∈ wsAll, w.before [.ref (a0 0)].toArray s = true := fun w h9 => atoms_spec (ws := ws_Mod_read) B.pre w (List.mem_cons_of_mem _ h9)
  have hown : s.vm.findClass R_Mod = some m.cls := findClass_of_methodNamed B.named
  have hlocks := B.notSynchronized
  subst hsz
  have hN : bw_N (bw_A [adMod a0] s.heap.size) [adMod a0] := hN0.self s.heap.size
  generalize hAe : bw_A [adMod a0] s.heap.size = A at hN ⊢
  have hA : ∀ q : Nat, s.heap.size ≤ q → A q := fun q h => by rw [← hAe]; exact Or.inr h
  have hS : va_S A s.heap s.heap [] := va_S.rf
  have hl := lv_entry ([.ref (a0 0)]) (n := 1) (Nat.le_of_ble_eq_true rfl)
  rw [lg_entry_eq]
  generalize (lg_sl ([.ref (a0 0)]) ++ List.replicate (1 - (lg_sl ([.ref (a0 0)])).length) Slot.unset).toArray = ls at hl ⊢
  have hl : lv_has ls 1 [(0, .ref (a0 0))] := hl
  have C0 : cx wsAll vwCl nx p s m [.ref (a0 0)].toArray meth c (dC, dI) (tyA ct) b_Mod_read 1 (some .int) R_Mod A [adMod a0] := ⟨hx, hb, hr, hml, hown, hlocks, hts, hK, hN, hA, hnx⟩
  have h := hF
  rw [F_Mod_read] at h
  refine lv_aload_n hx hb d_Mod_read_0 rfl (lv_at hl 0 rfl) ?_
  refine lv_iconst (v := 0) hx hb d_Mod_read_1 (by decide) ?_
  refine pt_Mod_0 hx hb hts hown hK hP hN hS 0 rfl (hts _ fl_Mod_84) d_Mod_read_2 (fun H locs hP hS => ?_)
  have hP : bw_P (dC, dI) vwCl [wMod ct a0 (s32 o0 0 0 (0 : Int32))] H := hP
  refine lv_aload_n hx hb d_Mod_read_5 rfl (lv_at hl 0 rfl) ?_
  refine lv_iconst (v := 0) hx hb d_Mod_read_6 (by decide) ?_
  refine pt_Mod_3 hx hb hts hown hK hP hN hS 0 rfl (hts _ fl_Mod_91) d_Mod_read_7 (fun H locs hP hS => ?_)
  have hP : bw_P (dC, dI) vwCl [wMod ct a0 (s32 (s32 o0 0 0 (0 : Int32)) 3 0 (0 : Int32))] H := hP
  refine lv_aload_n hx hb d_Mod_read_10 rfl (lv_at hl 0 rfl) ?_
  refine lv_iconst (v := -1) hx hb d_Mod_read_11 (by decide) ?_
  refine pt_Mod_4 hx hb hts hown hK hP hN hS 0 rfl (hts _ fl_Mod_94) d_Mod_read_12 (fun H locs hP hS => ?_)
  have hP : bw_P (dC, dI) vwCl [wMod ct a0 (s32 (s32 (s32 o0 0 0 (0 : Int32)) 3 0 (0 : Int32)) 4 0 (-1 : Int32))] H := hP
  refine lv_aload_n hx hb d_Mod_read_15 rfl (lv_at hl 0 rfl) ?_
  refine va_get (D := (dC, dI)) (ci := 6) (v := .ref (a0 4)) (C := R_Mod) (T := T_Mod) (N := 36) hx hb hts in_Mod hown hK (hP 0 _ rfl) 0 rfl rfl 7 (by decide) (hts _ fl_Mod_19) (fun _ h9 => h9) rfl d_Mod_read_16 ?_
  refine lv_iconst (v := 1) hx hb d_Mod_read_19 (by decide) ?_
  refine lv_iconst (v := 0) hx hb d_Mod_read_20 (by decide) ?_
  obtain ⟨hi1, h⟩ := chk_some h
  refine st_Mod_7 hx hb hK hP hN hS 0 rfl (inb_in hi1) d_Mod_read_21 (fun H locs hP hS => ?_)
  have hP : bw_P (dC, dI) vwCl [wMod ct a0 (s32 (s32 (s32 (s32 o0 0 0 (0 : Int32)) 3 0 (0 : Int32)) 4 0 (-1 : Int32)) 7 (Int32.toNatClampNeg (1 : Int32)) (0 : Int32))] H := hP
  refine lv_aload_n hx hb d_Mod_read_22 rfl (lv_at hl 0 rfl) ?_
  refine va_get (D := (dC, dI)) (ci := 6) (v := .ref (a0 5)) (C := R_Mod) (T := T_Mod) (N := 36) hx hb hts in_Mod hown hK (hP 0 _ rfl) 0 rfl rfl 8 (by decide) (hts _ fl_Mod_22) (fun _ h9 => h9) rfl d_Mod_read_23 ?_
  refine lv_iconst (v := 1) hx hb d_Mod_read_26 (by decide) ?_
  refine lv_iconst (v := 0) hx hb d_Mod_read_27 (by decide) ?_
  refine st_Mod_8 hx hb hK hP hN hS 0 rfl (inb_in hi1) d_Mod_read_28 (fun H locs hP hS => ?_)
  have hP : bw_P (dC, dI) vwCl [wMod ct a0 (s32 (s32 (s32 (s32 (s32 o0 0 0 (0 : Int32)) 3 0 (0 : Int32)) 4 0 (-1 : Int32)) 7 (Int32.toNatClampNeg (1 : Int32)) (0 : Int32)) 8 (Int32.toNatClampNeg (1 : Int32)) (0 : Int32))] H := hP
  refine lv_aload_n hx hb d_Mod_read_29 rfl (lv_at hl 0 rfl) ?_
  obtain ⟨o_4, hG3, h⟩ := bind1_some h
  refine bw_call (Lc := [wMod ct a0 (s32 (s32 (s32 (s32 (s32 o0 0 0 (0 : Int32)) 3 0 (0 : Int32)) 4 0 (-1 : Int32)) 7 (Int32.toNatClampNeg (1 : Int32)) (0 : Int32)) 8 (Int32.toNatClampNeg (1 : Int32)) (0 : Int32))]) (Lc' := [wMod ct a0 o_4]) (L' := [wMod ct a0 o_4]) [0] (va_runV (As := []) (rest := []) ⟨hx, hb, hml, hown, hts⟩ (c_Mod_readStatement l ct dC dI a0 _ (s32 (s32 (s32 (s32 (s32 o0 0 0 (0 : Int32)) 3 0 (0 : Int32)) 4 0 (-1 : Int32)) 7 (Int32.toNatClampNeg (1 : Int32)) (0 : Int32)) 8 (Int32.toNatClampNeg (1 : Int32)) (0 : Int32)) o_4 hG3) (cwV 0 hts g_Mod_176 rfl rfl rfl (by decide +kernel) ⟨Nat.le_of_ble_eq_true rfl, Nat.le_of_ble_eq_true rfl⟩) ⟨bw_blind nx_call, va_recv hK (hP 0 _ rfl) (ci := 6) (q0 := 0) rfl rfl, fun U hU hW => ⟨rfl, by rw [hU], by rw [hU]; exact hP.sub [0] rfl, va_K.moved hW.alike hK, (hN.sub [0] (by decide) rfl).weaken (fun _ _ => trivial), nx_warm hW hnx⟩⟩ rfl rfl hl.1 rfl (Nat.le_of_ble_eq_true rfl) d_Mod_read_30 ⟨Nat.le_of_ble_eq_true rfl, Nat.le_of_ble_eq_true rfl⟩) hP hN hS hA rfl rfl rfl (fun H locs hP hS => ?_)
  exact k_Mod_read_33 C0 fuel o_4 _ _ _ hP hS (lv_sub hl [0] rfl) h
def F_Mod_mentions_26 (o0 : Ob)  : Nat → Int32 → Int32 → Int32 → Int32 → Option (Bool)
  | 0, _, _, _, _ => none
  | n + 1, x2, x3, x4, x5 =>
    if x3 < 0 then (chk (isB x4) (some (decide (¬ x4 = 0)))) else (chk (inb (x3 + (1 : Int32)) 50) (if (g32 o0 9 (Int32.toNatClampNeg (x3 + (1 : Int32)))) ≤ x5 then (chk (isB x4) (some (decide (¬ x4 = 0)))) else (if x4 = 0 then (chk (inb x5 1000) (if (g32 o0 5 (Int32.toNatClampNeg x5)) = (2 : Int32) then (if (g32 o0 6 (Int32.toNatClampNeg x5)) = x2 then (F_Mod_mentions_26 o0 n x2 x3 (1 : Int32) (x5 + (1 : Int32))) else (F_Mod_mentions_26 o0 n x2 x3 (0 : Int32) (x5 + (1 : Int32)))) else (F_Mod_mentions_26 o0 n x2 x3 (0 : Int32) (x5 + (1 : Int32))))) else (F_Mod_mentions_26 o0 n x2 x3 (1 : Int32) (x5 + (1 : Int32))))))
def F_Mod_mentions (x1 : Int32) (x2 : Int32) (o0 : Ob) : Option (Bool) :=
  chk (inb x1 60) (if 0 ≤ (g32 o0 17 (Int32.toNatClampNeg x1)) then (chk (inb (g32 o0 17 (Int32.toNatClampNeg x1)) 50) (F_Mod_mentions_26 o0 fuel x2 (g32 o0 17 (Int32.toNatClampNeg x1)) (0 : Int32) (g32 o0 9 (Int32.toNatClampNeg (g32 o0 17 (Int32.toNatClampNeg x1)))))) else (F_Mod_mentions_26 o0 fuel x2 (g32 o0 17 (Int32.toNatClampNeg x1)) (0 : Int32) (0 : Int32)))
abbrev ws_Mod_mentions : List Cond := Cond.code y_Mod_mentions b_Mod_mentions 6 (some .boolean) :: wsAll
abbrev rm_Mod_mentions : Room := { frames := 0, cells := 0, slots := 0, locals := 0 }
set_option maxHeartbeats 4000000 in
set_option maxRecDepth 100000 in
theorem k_Mod_mentions_26 {p : Program} {l : Launch} {e : Env} {s : State} {m : MethodId} {args : Array Value} {below : List Frame} {meth : Method} {c : Code} {A : Nat → Prop} {ct dC : Nat → ClassId} {dI : Nat → Nat → Nat} {a0 : Nat → Nat}  {r : Bool} {o0 : Ob}  (C0 : cx wsAll vwCl nx p s m args meth c (dC, dI) (tyA ct) b_Mod_mentions 6 (some .boolean) R_Mod A [adMod a0])  : ∀ (n : Nat) (x2 : Int32) (x3 : Int32) (x4 : Int32) (x5 : Int32) (H : Heap) (locs : List Loc) (ls : Array Slot), bw_P (dC, dI) vwCl [wMod ct a0 o0] H → (H = s.heap ∧ locs = []) → lv_has ls 6 [(0, .ref (a0 0)), (2, .int x2), (3, .int x3), (4, .int x4), (5, .int x5)] → F_Mod_mentions_26 o0 n x2 x3 x4 x5 = some r → W p l e (headSpec ws_Mod_mentions rm_Mod_mentions).room s m args below meth c H locs 0 0 (MQ below (bw_QR (some (.int (b2i r)))) args s 0 0 (fun _ => False)) (F0 m 26 ls []) := by
  obtain ⟨hx, hb, hr, hml, hown, hlocks, hts, hK, hN, hA, hnx⟩ := id C0
  intro n
  induction n with
  | zero =>
    intro x2 x3 x4 x5 H locs ls hP hS hl h
    cases h
  | succ n ih =>
    intro x2 x3 x4 x5 H locs ls hP hS hl h
    rw [F_Mod_mentions_26] at h
    refine lv_iload_n hx hb d_Mod_mentions_26 rfl (lv_at hl 2 rfl) ?_
    refine lv_if_lt (tgt := 83) hx hb d_Mod_mentions_27 (by decide) (fun c4 => ?_) (fun c4 => ?_)
    · have h := ite_t c4 h
      refine lv_iload hx hb d_Mod_mentions_83 (lv_at hl 3 rfl) ?_
      obtain ⟨hb5, h⟩ := chk_some h
      rw [isB_of hb5]
      obtain rfl := res1 h
      exact W.zret hx hb hr (b2i_nar _) (fun t ht hW => ⟨rfl, ht.trans hS.1⟩) (bw_nil hS.2) d_Mod_mentions_85
    · have h := ite_f c4 h
      refine lv_iload hx hb d_Mod_mentions_30 (lv_at hl 4 rfl) ?_
      refine lv_aload_n hx hb d_Mod_mentions_32 rfl (lv_at hl 0 rfl) ?_
      refine va_get (D := (dC, dI)) (ci := 6) (v := .ref (a0 6)) (C := R_Mod) (T := T_Mod) (N := 36) hx hb hts in_Mod hown hK (hP 0 _ rfl) 0 rfl rfl 9 (by decide) (hts _ fl_Mod_25) (fun _ h9 => h9) rfl d_Mod_mentions_33 ?_
      refine lv_iload_n hx hb d_Mod_mentions_36 rfl (lv_at hl 2 rfl) ?_
      refine lv_iconst (v := 1) hx hb d_Mod_mentions_37 (by decide) ?_
      refine lv_iadd hx hb d_Mod_mentions_38 ?_
      obtain ⟨hi6, h⟩ := chk_some h
      refine va_iald (f := g32 o0 9) hx hb hK (hP 0 _ rfl) 6 0 rfl rfl (inb_in hi6) d_Mod_mentions_39 ?_
      refine lv_icmp_ge (tgt := 83) hx hb d_Mod_mentions_40 (by decide) (fun c7 => ?_) (fun c7 => ?_)
      · have h := ite_t c7 h
        refine lv_iload hx hb d_Mod_mentions_83 (lv_at hl 3 rfl) ?_
        obtain ⟨hb8, h⟩ := chk_some h
        rw [isB_of hb8]
        obtain rfl := res1 h
        exact W.zret hx hb hr (b2i_nar _) (fun t ht hW => ⟨rfl, ht.trans hS.1⟩) (bw_nil hS.2) d_Mod_mentions_85
      · have h := ite_f c7 h
        refine lv_iload hx hb d_Mod_mentions_43 (lv_at hl 3 rfl) ?_
        refine lv_if_ne (tgt := 70) hx hb d_Mod_mentions_45 (by decide) (fun c9 => ?_) (fun c9 => ?_)
        · have h := ite_f c9 h
          refine lv_iconst (v := 1) hx hb d_Mod_mentions_70 (by decide) ?_
          refine lv_goto (tgt := 75) hx hb d_Mod_mentions_71 (by decide) ?_
          refine lv_istore (lv' := [(4, .int (1 : Int32)), (0, .ref (a0 0)), (2, .int x2), (3, .int x3), (5, .int x5)]) hx hb d_Mod_mentions_75 hl (by decide) rfl (fun ls hl => ?_)
          refine lv_iinc (v := (x5 + (1 : Int32))) (lv' := [(5, .int (x5 + (1 : Int32))), (4, .int (1 : Int32)), (0, .ref (a0 0)), (2, .int x2), (3, .int x3)]) hx hb d_Mod_mentions_77 hl (k := 4) rfl rfl (by decide) rfl (fun ls hl => ?_)
          refine lv_goto (tgt := 26) hx hb d_Mod_mentions_80 (by decide) ?_
          exact ih x2 x3 (1 : Int32) (x5 + (1 : Int32)) _ _ _ hP hS (lv_sub hl [2, 3, 4, 1, 0] rfl) h
        · have h := ite_t c9 h
          refine lv_aload_n hx hb d_Mod_mentions_48 rfl (lv_at hl 0 rfl) ?_
          refine va_get (D := (dC, dI)) (ci := 6) (v := .ref (a0 2)) (C := R_Mod) (T := T_Mod) (N := 36) hx hb hts in_Mod hown hK (hP 0 _ rfl) 0 rfl rfl 5 (by decide) (hts _ fl_Mod_13) (fun _ h9 => h9) rfl d_Mod_mentions_49 ?_
          refine lv_iload hx hb d_Mod_mentions_52 (lv_at hl 4 rfl) ?_
          obtain ⟨hi10, h⟩ := chk_some h
          refine va_iald (f := g32 o0 5) hx hb hK (hP 0 _ rfl) 2 0 rfl rfl (inb_in hi10) d_Mod_mentions_54 ?_
          refine lv_iconst (v := 2) hx hb d_Mod_mentions_55 (by decide) ?_
          refine lv_icmp_ne (tgt := 74) hx hb d_Mod_mentions_56 (by decide) (fun c11 => ?_) (fun c11 => ?_)
          · have h := ite_f c11 h
            refine lv_iconst (v := 0) hx hb d_Mod_mentions_74 (by decide) ?_
            refine lv_istore (lv' := [(4, .int (0 : Int32)), (0, .ref (a0 0)), (2, .int x2), (3, .int x3), (5, .int x5)]) hx hb d_Mod_mentions_75 hl (by decide) rfl (fun ls hl => ?_)
            refine lv_iinc (v := (x5 + (1 : Int32))) (lv' := [(5, .int (x5 + (1 : Int32))), (4, .int (0 : Int32)), (0, .ref (a0 0)), (2, .int x2), (3, .int x3)]) hx hb d_Mod_mentions_77 hl (k := 4) rfl rfl (by decide) rfl (fun ls hl => ?_)
            refine lv_goto (tgt := 26) hx hb d_Mod_mentions_80 (by decide) ?_
            exact ih x2 x3 (0 : Int32) (x5 + (1 : Int32)) _ _ _ hP hS (lv_sub hl [2, 3, 4, 1, 0] rfl) h
          · have h := ite_t c11 h
            refine lv_aload_n hx hb d_Mod_mentions_59 rfl (lv_at hl 0 rfl) ?_
            refine va_get (D := (dC, dI)) (ci := 6) (v := .ref (a0 3)) (C := R_Mod) (T := T_Mod) (N := 36) hx hb hts in_Mod hown hK (hP 0 _ rfl) 0 rfl rfl 6 (by decide) (hts _ fl_Mod_16) (fun _ h9 => h9) rfl d_Mod_mentions_60 ?_
            refine lv_iload hx hb d_Mod_mentions_63 (lv_at hl 4 rfl) ?_
            refine va_iald (f := g32 o0 6) hx hb hK (hP 0 _ rfl) 3 0 rfl rfl (inb_in hi10) d_Mod_mentions_65 ?_
            refine lv_iload_n hx hb d_Mod_mentions_66 rfl (lv_at hl 1 rfl) ?_
            refine lv_icmp_ne (tgt := 74) hx hb d_Mod_mentions_67 (by decide) (fun c13 => ?_) (fun c13 => ?_)
            · have h := ite_f c13 h
              refine lv_iconst (v := 0) hx hb d_Mod_mentions_74 (by decide) ?_
              refine lv_istore (lv' := [(4, .int (0 : Int32)), (0, .ref (a0 0)), (2, .int x2), (3, .int x3), (5, .int x5)]) hx hb d_Mod_mentions_75 hl (by decide) rfl (fun ls hl => ?_)
              refine lv_iinc (v := (x5 + (1 : Int32))) (lv' := [(5, .int (x5 + (1 : Int32))), (4, .int (0 : Int32)), (0, .ref (a0 0)), (2, .int x2), (3, .int x3)]) hx hb d_Mod_mentions_77 hl (k := 4) rfl rfl (by decide) rfl (fun ls hl => ?_)
              refine lv_goto (tgt := 26) hx hb d_Mod_mentions_80 (by decide) ?_
              exact ih x2 x3 (0 : Int32) (x5 + (1 : Int32)) _ _ _ hP hS (lv_sub hl [2, 3, 4, 1, 0] rfl) h
            · have h := ite_t c13 h
              refine lv_iconst (v := 1) hx hb d_Mod_mentions_70 (by decide) ?_
              refine lv_goto (tgt := 75) hx hb d_Mod_mentions_71 (by decide) ?_
              refine lv_istore (lv' := [(4, .int (1 : Int32)), (0, .ref (a0 0)), (2, .int x2), (3, .int x3), (5, .int x5)]) hx hb d_Mod_mentions_75 hl (by decide) rfl (fun ls hl => ?_)
              refine lv_iinc (v := (x5 + (1 : Int32))) (lv' := [(5, .int (x5 + (1 : Int32))), (4, .int (1 : Int32)), (0, .ref (a0 0)), (2, .int x2), (3, .int x3)]) hx hb d_Mod_mentions_77 hl (k := 4) rfl rfl (by decide) rfl (fun ls hl => ?_)
              refine lv_goto (tgt := 26) hx hb d_Mod_mentions_80 (by decide) ?_
              exact ih x2 x3 (1 : Int32) (x5 + (1 : Int32)) _ _ _ hP hS (lv_sub hl [2, 3, 4, 1, 0] rfl) h
set_option maxHeartbeats 4000000 in
set_option maxRecDepth 100000 in
theorem c_Mod_mentions (l : Launch) (ct dC : Nat → ClassId) (dI : Nat → Nat → Nat) (a0 : Nat → Nat)  (sz : Nat) (x1 : Int32) (x2 : Int32) (o0 : Ob) (r : Bool) (hF : F_Mod_mentions x1 x2 o0 = some r) : Met l y_Mod_mentions ws_Mod_mentions rm_Mod_mentions (bw_Pc [.ref (a0 0), .int x1, .int x2] (dC, dI) vwCl (tyA ct) [wMod ct a0 o0] sz nx) (bw_QR (some (.int (b2i r)))) 0 0 (fun _ => False) := by
  refine Met.ofW (cc := b_Mod_mentions) (maxL := 6) (ret := (some .boolean)) (by decide) rfl ?_
  intro p e s m args below meth c s₁ B hml hv
  obtain ⟨rfl, hsz, hP, hK, hN0, hnx⟩ := hv
  have hx := B.exec
  have hb := B.bytes
  have hr := B.returns
  have hts : ∀ w ∈ wsAll, w.before [.ref (a0 0), .int x1, .int x2].toArray s = true := fun w h9 => atoms_spec (ws := ws_Mod_mentions) B.pre w (List.mem_cons_of_mem _ h9)
  have hown : s.vm.findClass R_Mod = some m.cls := findClass_of_methodNamed B.named
  have hlocks := B.notSynchronized
  subst hsz
  have hN : bw_N (fun _ => True) [adMod a0] := hN0
  generalize hAe : (fun _ : Nat => True) = A at hN
  have hA : ∀ q : Nat, s.heap.size ≤ q → A q := fun q _ => by rw [← hAe]; trivial
  have hS : s.heap = s.heap ∧ ([] : List Loc) = [] := ⟨rfl, rfl⟩
  have hl := lv_entry ([.ref (a0 0), .int x1, .int x2]) (n := 6) (Nat.le_of_ble_eq_true rfl)
  rw [lg_entry_eq]
  generalize (lg_sl ([.ref (a0 0), .int x1, .int x2]) ++ List.replicate (6 - (lg_sl ([.ref (a0 0), .int x1, .int x2])).length) Slot.unset).toArray = ls at hl ⊢
  have hl : lv_has ls 6 [(0, .ref (a0 0)), (1, .int x1), (2, .int x2)] := hl
  have C0 : cx wsAll vwCl nx p s m [.ref (a0 0), .int x1, .int x2].toArray meth c (dC, dI) (tyA ct) b_Mod_mentions 6 (some .boolean) R_Mod A [adMod a0] := ⟨hx, hb, hr, hml, hown, hlocks, hts, hK, hN, hA, hnx⟩
  have h := hF
  rw [F_Mod_mentions] at h
  refine lv_aload_n hx hb d_Mod_mentions_0 rfl (lv_at hl 0 rfl) ?_
  refine va_get (D := (dC, dI)) (ci := 6) (v := .ref (a0 11)) (C := R_Mod) (T := T_Mod) (N := 36) hx hb hts in_Mod hown hK (hP 0 _ rfl) 0 rfl rfl 17 (by decide) (hts _ fl_Mod_41) (fun _ h9 => h9) rfl d_Mod_mentions_1 ?_
  refine lv_iload_n hx hb d_Mod_mentions_4 rfl (lv_at hl 1 rfl) ?_
  obtain ⟨hi1, h⟩ := chk_some h
  refine va_iald (f := g32 o0 17) hx hb hK (hP 0 _ rfl) 11 0 rfl rfl (inb_in hi1) d_Mod_mentions_5 ?_
  refine lv_istore_n (lv' := [(3, .int (g32 o0 17 (Int32.toNatClampNeg x1))), (0, .ref (a0 0)), (1, .int x1), (2, .int x2)]) hx hb d_Mod_mentions_6 rfl hl (by decide) rfl (fun ls hl => ?_)
  refine lv_iconst (v := 0) hx hb d_Mod_mentions_7 (by decide) ?_
  refine lv_istore (lv' := [(4, .int (0 : Int32)), (3, .int (g32 o0 17 (Int32.toNatClampNeg x1))), (0, .ref (a0 0)), (1, .int x1), (2, .int x2)]) hx hb d_Mod_mentions_8 hl (by decide) rfl (fun ls hl => ?_)
  refine lv_iload_n hx hb d_Mod_mentions_10 rfl (lv_at hl 1 rfl) ?_
  refine lv_if_ge (tgt := 18) hx hb d_Mod_mentions_11 (by decide) (fun c2 => ?_) (fun c2 => ?_)
  · have h := ite_t c2 h
    refine lv_aload_n hx hb d_Mod_mentions_18 rfl (lv_at hl 2 rfl) ?_
    refine va_get (D := (dC, dI)) (ci := 6) (v := .ref (a0 6)) (C := R_Mod) (T := T_Mod) (N := 36) hx hb hts in_Mod hown hK (hP 0 _ rfl) 0 rfl rfl 9 (by decide) (hts _ fl_Mod_25) (fun _ h9 => h9) rfl d_Mod_mentions_19 ?_
    refine lv_iload_n hx hb d_Mod_mentions_22 rfl (lv_at hl 1 rfl) ?_
    obtain ⟨hi3, h⟩ := chk_some h
    refine va_iald (f := g32 o0 9) hx hb hK (hP 0 _ rfl) 6 0 rfl rfl (inb_in hi3) d_Mod_mentions_23 ?_
    refine lv_istore (lv' := [(5, .int (g32 o0 9 (Int32.toNatClampNeg (g32 o0 17 (Int32.toNatClampNeg x1))))), (4, .int (0 : Int32)), (3, .int (g32 o0 17 (Int32.toNatClampNeg x1))), (0, .ref (a0 0)), (1, .int x1), (2, .int x2)]) hx hb d_Mod_mentions_24 hl (by decide) rfl (fun ls hl => ?_)
    exact k_Mod_mentions_26 C0 fuel x2 (g32 o0 17 (Int32.toNatClampNeg x1)) (0 : Int32) (g32 o0 9 (Int32.toNatClampNeg (g32 o0 17 (Int32.toNatClampNeg x1)))) _ _ _ hP hS (lv_sub hl [3, 5, 2, 1, 0] rfl) h
  · have h := ite_f c2 h
    refine lv_iconst (v := 0) hx hb d_Mod_mentions_14 (by decide) ?_
    refine lv_goto (tgt := 24) hx hb d_Mod_mentions_15 (by decide) ?_
    refine lv_istore (lv' := [(5, .int (0 : Int32)), (4, .int (0 : Int32)), (3, .int (g32 o0 17 (Int32.toNatClampNeg x1))), (0, .ref (a0 0)), (1, .int x1), (2, .int x2)]) hx hb d_Mod_mentions_24 hl (by decide) rfl (fun ls hl => ?_)
    exact k_Mod_mentions_26 C0 fuel x2 (g32 o0 17 (Int32.toNatClampNeg x1)) (0 : Int32) (0 : Int32) _ _ _ hP hS (lv_sub hl [3, 5, 2, 1, 0] rfl) h
theorem g_Mod_182 : GoodIn wsAll (wsV R_Mod 182 R_Mod y_Mod_mentions ws_Mod_mentions) := gd_V ml_Mod_182 im_Mod_mentions se_Mod_mentions ini_Mod cd_Mod_mentions
def F_Mod_hangs_10 (o0 : Ob)  : Nat → Int32 → Int32 → Int32 → Int32 → Option (Bool)
  | 0, _, _, _, _ => none
  | n + 1, x1, x2, x3, x4 =>
    if (60 : Int32) ≤ x4 then (chk (isB x3) (some (decide (¬ x3 = 0)))) else (if x3 = 0 then (chk (inb (((60 : Int32) * x1) + x4) 3600) (if (g32 o0 18 (Int32.toNatClampNeg (((60 : Int32) * x1) + x4))) = 0 then (F_Mod_hangs_10 o0 n x1 x2 (0 : Int32) (x4 + (1 : Int32))) else (bind1 (F_Mod_mentions x4 x2 o0) (fun v9 => if (b2i v9) = 0 then (F_Mod_hangs_10 o0 n x1 x2 (0 : Int32) (x4 + (1 : Int32))) else (F_Mod_hangs_10 o0 n x1 x2 (1 : Int32) (x4 + (1 : Int32))))))) else (F_Mod_hangs_10 o0 n x1 x2 (1 : Int32) (x4 + (1 : Int32))))
def F_Mod_hangs (x1 : Int32) (x2 : Int32) (o0 : Ob) : Option (Bool) :=
  bind1 (F_Mod_mentions x1 x2 o0) (fun v2 => F_Mod_hangs_10 o0 fuel x1 x2 (b2i v2) (0 : Int32))
abbrev ws_Mod_hangs : List Cond := Cond.code y_Mod_hangs b_Mod_hangs 5 (some .boolean) :: wsAll
abbrev rm_Mod_hangs : Room := { frames := 1, cells := 0, slots := 0, locals := 25 }
set_option maxHeartbeats 4000000 in
set_option maxRecDepth 100000 in
theorem k_Mod_hangs_10 {p : Program} {l : Launch} {e : Env} {s : State} {m : MethodId} {args : Array Value} {below : List Frame} {meth : Method} {c : Code} {A : Nat → Prop} {ct dC : Nat → ClassId} {dI : Nat → Nat → Nat} {a0 : Nat → Nat}  {r : Bool} {o0 : Ob}  (C0 : cx wsAll vwCl nx p s m args meth c (dC, dI) (tyA ct) b_Mod_hangs 5 (some .boolean) R_Mod A [adMod a0])  : ∀ (n : Nat) (x1 : Int32) (x2 : Int32) (x3 : Int32) (x4 : Int32) (H : Heap) (locs : List Loc) (ls : Array Slot), bw_P (dC, dI) vwCl [wMod ct a0 o0] H → (H = s.heap ∧ locs = []) → lv_has ls 5 [(0, .ref (a0 0)), (1, .int x1), (2, .int x2), (3, .int x3), (4, .int x4)] → F_Mod_hangs_10 o0 n x1 x2 x3 x4 = some r → W p l e (headSpec ws_Mod_hangs rm_Mod_hangs).room s m args below meth c H locs 0 0 (MQ below (bw_QR (some (.int (b2i r)))) args s 0 0 (fun _ => False)) (F0 m 10 ls []) := by
  obtain ⟨hx, hb, hr, hml, hown, hlocks, hts, hK, hN, hA, hnx⟩ := id C0
  intro n
  induction n with
  | zero =>
    intro x1 x2 x3 x4 H locs ls hP hS hl h
    cases h
  | succ n ih =>
    intro x1 x2 x3 x4 H locs ls hP hS hl h
    rw [F_Mod_hangs_10] at h
    refine lv_iload hx hb d_Mod_hangs_10 (lv_at hl 4 rfl) ?_
    refine lv_bipush (v := 60) hx hb d_Mod_hangs_12 (by decide) ?_
    refine lv_icmp_ge (tgt := 58) hx hb d_Mod_hangs_14 (by decide) (fun c3 => ?_) (fun c3 => ?_)
    · have h := ite_t c3 h
      refine lv_iload_n hx hb d_Mod_hangs_58 rfl (lv_at hl 3 rfl) ?_
      obtain ⟨hb4, h⟩ := chk_some h
      rw [isB_of hb4]
      obtain rfl := res1 h
      exact W.zret hx hb hr (b2i_nar _) (fun t ht hW => ⟨rfl, ht.trans hS.1⟩) (bw_nil hS.2) d_Mod_hangs_59
    · have h := ite_f c3 h
      refine lv_iload_n hx hb d_Mod_hangs_17 rfl (lv_at hl 3 rfl) ?_
      refine lv_if_ne (tgt := 46) hx hb d_Mod_hangs_18 (by decide) (fun c5 => ?_) (fun c5 => ?_)
      · have h := ite_f c5 h
        refine lv_iconst (v := 1) hx hb d_Mod_hangs_46 (by decide) ?_
        refine lv_goto (tgt := 51) hx hb d_Mod_hangs_47 (by decide) ?_
        refine lv_istore_n (lv' := [(3, .int (1 : Int32)), (0, .ref (a0 0)), (1, .int x1), (2, .int x2), (4, .int x4)]) hx hb d_Mod_hangs_51 rfl hl (by decide) rfl (fun ls hl => ?_)
        refine lv_iinc (v := (x4 + (1 : Int32))) (lv' := [(4, .int (x4 + (1 : Int32))), (3, .int (1 : Int32)), (0, .ref (a0 0)), (1, .int x1), (2, .int x2)]) hx hb d_Mod_hangs_52 hl (k := 4) rfl rfl (by decide) rfl (fun ls hl => ?_)
        refine lv_goto (tgt := 10) hx hb d_Mod_hangs_55 (by decide) ?_
        exact ih x1 x2 (1 : Int32) (x4 + (1 : Int32)) _ _ _ hP hS (lv_sub hl [2, 3, 4, 1, 0] rfl) h
      · have h := ite_t c5 h
        refine lv_aload_n hx hb d_Mod_hangs_21 rfl (lv_at hl 0 rfl) ?_
        refine va_get (D := (dC, dI)) (ci := 6) (v := .ref (a0 12)) (C := R_Mod) (T := T_Mod) (N := 36) hx hb hts in_Mod hown hK (hP 0 _ rfl) 0 rfl rfl 18 (by decide) (hts _ fl_Mod_44) (fun _ h9 => h9) rfl d_Mod_hangs_22 ?_
        refine lv_bipush (v := 60) hx hb d_Mod_hangs_25 (by decide) ?_
        refine lv_iload_n hx hb d_Mod_hangs_27 rfl (lv_at hl 1 rfl) ?_
        refine lv_imul hx hb d_Mod_hangs_28 ?_
        refine lv_iload hx hb d_Mod_hangs_29 (lv_at hl 4 rfl) ?_
        refine lv_iadd hx hb d_Mod_hangs_31 ?_
        obtain ⟨hi6, h⟩ := chk_some h
        refine va_zald (f := g32 o0 18) hx hb hK (hP 0 _ rfl) 12 3 rfl rfl (inb_in hi6) d_Mod_hangs_32 ?_
        refine lv_if_eq (tgt := 50) hx hb d_Mod_hangs_33 (by decide) (fun c7 => ?_) (fun c7 => ?_)
        · have h := ite_t c7 h
          refine lv_iconst (v := 0) hx hb d_Mod_hangs_50 (by decide) ?_
          refine lv_istore_n (lv' := [(3, .int (0 : Int32)), (0, .ref (a0 0)), (1, .int x1), (2, .int x2), (4, .int x4)]) hx hb d_Mod_hangs_51 rfl hl (by decide) rfl (fun ls hl => ?_)
          refine lv_iinc (v := (x4 + (1 : Int32))) (lv' := [(4, .int (x4 + (1 : Int32))), (3, .int (0 : Int32)), (0, .ref (a0 0)), (1, .int x1), (2, .int x2)]) hx hb d_Mod_hangs_52 hl (k := 4) rfl rfl (by decide) rfl (fun ls hl => ?_)
          refine lv_goto (tgt := 10) hx hb d_Mod_hangs_55 (by decide) ?_
          exact ih x1 x2 (0 : Int32) (x4 + (1 : Int32)) _ _ _ hP hS (lv_sub hl [2, 3, 4, 1, 0] rfl) h
        · have h := ite_f c7 h
          refine lv_aload_n hx hb d_Mod_hangs_36 rfl (lv_at hl 0 rfl) ?_
          refine lv_iload hx hb d_Mod_hangs_37 (lv_at hl 4 rfl) ?_
          refine lv_iload_n hx hb d_Mod_hangs_39 rfl (lv_at hl 2 rfl) ?_
          obtain ⟨v9, hG8, h⟩ := bind1_some h
          refine bw_callR (va_runV (As := [.int x4, .int x2]) (rest := []) ⟨hx, hb, hml, hown, hts⟩ (c_Mod_mentions l ct dC dI a0 _ x4 x2 o0 v9 hG8) (cwV 2 hts g_Mod_182 rfl rfl rfl (by decide +kernel) ⟨Nat.le_of_ble_eq_true rfl, Nat.le_of_ble_eq_true rfl⟩) ⟨bw_blind nx_call, va_recv hK (hP 0 _ rfl) (ci := 6) (q0 := 0) rfl rfl, fun U hU hW => ⟨rfl, by rw [hU], by rw [hU]; exact hP.sub [0] rfl, va_K.moved hW.alike hK, (hN.sub [0] (by decide) rfl).weaken (fun _ _ => trivial), nx_warm hW hnx⟩⟩ rfl rfl hl.1 rfl (Nat.le_of_ble_eq_true rfl) d_Mod_hangs_40 ⟨Nat.le_of_ble_eq_true rfl, Nat.le_of_ble_eq_true rfl⟩) ?_
          refine lv_if_eq (tgt := 50) hx hb d_Mod_hangs_43 (by decide) (fun c10 => ?_) (fun c10 => ?_)
          · have h := ite_t c10 h
            refine lv_iconst (v := 0) hx hb d_Mod_hangs_50 (by decide) ?_
            refine lv_istore_n (lv' := [(3, .int (0 : Int32)), (0, .ref (a0 0)), (1, .int x1), (2, .int x2), (4, .int x4)]) hx hb d_Mod_hangs_51 rfl hl (by decide) rfl (fun ls hl => ?_)
            refine lv_iinc (v := (x4 + (1 : Int32))) (lv' := [(4, .int (x4 + (1 : Int32))), (3, .int (0 : Int32)), (0, .ref (a0 0)), (1, .int x1), (2, .int x2)]) hx hb d_Mod_hangs_52 hl (k := 4) rfl rfl (by decide) rfl (fun ls hl => ?_)
            refine lv_goto (tgt := 10) hx hb d_Mod_hangs_55 (by decide) ?_
            exact ih x1 x2 (0 : Int32) (x4 + (1 : Int32)) _ _ _ hP hS (lv_sub hl [2, 3, 4, 1, 0] rfl) h
          · have h := ite_f c10 h
            refine lv_iconst (v := 1) hx hb d_Mod_hangs_46 (by decide) ?_
            refine lv_goto (tgt := 51) hx hb d_Mod_hangs_47 (by decide) ?_
            refine lv_istore_n (lv' := [(3, .int (1 : Int32)), (0, .ref (a0 0)), (1, .int x1), (2, .int x2), (4, .int x4)]) hx hb d_Mod_hangs_51 rfl hl (by decide) rfl (fun ls hl => ?_)
            refine lv_iinc (v := (x4 + (1 : Int32))) (lv' := [(4, .int (x4 + (1 : Int32))), (3, .int (1 : Int32)), (0, .ref (a0 0)), (1, .int x1), (2, .int x2)]) hx hb d_Mod_hangs_52 hl (k := 4) rfl rfl (by decide) rfl (fun ls hl => ?_)
            refine lv_goto (tgt := 10) hx hb d_Mod_hangs_55 (by decide) ?_
            exact ih x1 x2 (1 : Int32) (x4 + (1 : Int32)) _ _ _ hP hS (lv_sub hl [2, 3, 4, 1, 0] rfl) h
set_option maxHeartbeats 4000000 in
set_option maxRecDepth 100000 in
theorem c_Mod_hangs (l : Launch) (ct dC : Nat → ClassId) (dI : Nat → Nat → Nat) (a0 : Nat → Nat)  (sz : Nat) (x1 : Int32) (x2 : Int32) (o0 : Ob) (r : Bool) (hF : F_Mod_hangs x1 x2 o0 = some r) : Met l y_Mod_hangs ws_Mod_hangs rm_Mod_hangs (bw_Pc [.ref (a0 0), .int x1, .int x2] (dC, dI) vwCl (tyA ct) [wMod ct a0 o0] sz nx) (bw_QR (some (.int (b2i r)))) 0 0 (fun _ => False) := by
  refine Met.ofW (cc := b_Mod_hangs) (maxL := 5) (ret := (some .boolean)) (by decide) rfl ?_
  intro p e s m args below meth c s₁ B hml hv
  obtain ⟨rfl, hsz, hP, hK, hN0, hnx⟩ := hv
  have hx := B.exec
  have hb := B.bytes
  have hr := B.returns
  have hts : ∀ w ∈ wsAll, w.before [.ref (a0 0), .int x1, .int x2].toArray s = true := fun w h9 => atoms_spec (ws := ws_Mod_hangs) B.pre w (List.mem_cons_of_mem _ h9)
  have hown : s.vm.findClass R_Mod = some m.cls := findClass_of_methodNamed B.named
  have hlocks := B.notSynchronized
  subst hsz
  have hN : bw_N (fun _ => True) [adMod a0] := hN0
  generalize hAe : (fun _ : Nat => True) = A at hN
  have hA : ∀ q : Nat, s.heap.size ≤ q → A q := fun q _ => by rw [← hAe]; trivial
  have hS : s.heap = s.heap ∧ ([] : List Loc) = [] := ⟨rfl, rfl⟩
  have hl := lv_entry ([.ref (a0 0), .int x1, .int x2]) (n := 5) (Nat.le_of_ble_eq_true rfl)
  rw [lg_entry_eq]
  generalize (lg_sl ([.ref (a0 0), .int x1, .int x2]) ++ List.replicate (5 - (lg_sl ([.ref (a0 0), .int x1, .int x2])).length) Slot.unset).toArray = ls at hl ⊢
  have hl : lv_has ls 5 [(0, .ref (a0 0)), (1, .int x1), (2, .int x2)] := hl
  have C0 : cx wsAll vwCl nx p s m [.ref (a0 0), .int x1, .int x2].toArray meth c (dC, dI) (tyA ct) b_Mod_hangs 5 (some .boolean) R_Mod A [adMod a0] := ⟨hx, hb, hr, hml, hown, hlocks, hts, hK, hN, hA, hnx⟩
  have h := hF
  rw [F_Mod_hangs] at h
  refine lv_aload_n hx hb d_Mod_hangs_0 rfl (lv_at hl 0 rfl) ?_
  refine lv_iload_n hx hb d_Mod_hangs_1 rfl (lv_at hl 1 rfl) ?_
  refine lv_iload_n hx hb d_Mod_hangs_2 rfl (lv_at hl 2 rfl) ?_
  obtain ⟨v2, hG1, h⟩ := bind1_some h
  refine bw_callR (va_runV (As := [.int x1, .int x2]) (rest := []) ⟨hx, hb, hml, hown, hts⟩ (c_Mod_mentions l ct dC dI a0 _ x1 x2 o0 v2 hG1) (cwV 2 hts g_Mod_182 rfl rfl rfl (by decide +kernel) ⟨Nat.le_of_ble_eq_true rfl, Nat.le_of_ble_eq_true rfl⟩) ⟨bw_blind nx_call, va_recv hK (hP 0 _ rfl) (ci := 6) (q0 := 0) rfl rfl, fun U hU hW => ⟨rfl, by rw [hU], by rw [hU]; exact hP.sub [0] rfl, va_K.moved hW.alike hK, (hN.sub [0] (by decide) rfl).weaken (fun _ _ => trivial), nx_warm hW hnx⟩⟩ rfl rfl hl.1 rfl (Nat.le_of_ble_eq_true rfl) d_Mod_hangs_3 ⟨Nat.le_of_ble_eq_true rfl, Nat.le_of_ble_eq_true rfl⟩) ?_
  refine lv_istore_n (lv' := [(3, .int (b2i v2)), (0, .ref (a0 0)), (1, .int x1), (2, .int x2)]) hx hb d_Mod_hangs_6 rfl hl (by decide) rfl (fun ls hl => ?_)
  refine lv_iconst (v := 0) hx hb d_Mod_hangs_7 (by decide) ?_
  refine lv_istore (lv' := [(4, .int (0 : Int32)), (3, .int (b2i v2)), (0, .ref (a0 0)), (1, .int x1), (2, .int x2)]) hx hb d_Mod_hangs_8 hl (by decide) rfl (fun ls hl => ?_)
  exact k_Mod_hangs_10 C0 fuel x1 x2 (b2i v2) (0 : Int32) _ _ _ hP hS (lv_sub hl [2, 3, 4, 1, 0] rfl) h
def F_Mod_isRing (x1 : Int32) (o0 : Ob) : Option (Bool) :=
  chk (inb (((60 : Int32) * x1) + x1) 3600) (chk (isB (g32 o0 18 (Int32.toNatClampNeg (((60 : Int32) * x1) + x1)))) (some (decide (¬ (g32 o0 18 (Int32.toNatClampNeg (((60 : Int32) * x1) + x1))) = 0))))
abbrev ws_Mod_isRing : List Cond := Cond.code y_Mod_isRing b_Mod_isRing 2 (some .boolean) :: wsAll
abbrev rm_Mod_isRing : Room := { frames := 0, cells := 0, slots := 0, locals := 0 }
set_option maxHeartbeats 4000000 in
set_option maxRecDepth 100000 in
theorem c_Mod_isRing (l : Launch) (ct dC : Nat → ClassId) (dI : Nat → Nat → Nat) (a0 : Nat → Nat)  (sz : Nat) (x1 : Int32) (o0 : Ob) (r : Bool) (hF : F_Mod_isRing x1 o0 = some r) : Met l y_Mod_isRing ws_Mod_isRing rm_Mod_isRing (bw_Pc [.ref (a0 0), .int x1] (dC, dI) vwCl (tyA ct) [wMod ct a0 o0] sz nx) (bw_QR (some (.int (b2i r)))) 0 0 (fun _ => False) := by
  refine Met.ofW (cc := b_Mod_isRing) (maxL := 2) (ret := (some .boolean)) (by decide) rfl ?_
  intro p e s m args below meth c s₁ B hml hv
  obtain ⟨rfl, hsz, hP, hK, hN0, hnx⟩ := hv
  have hx := B.exec
  have hb := B.bytes
  have hr := B.returns
  have hts : ∀ w ∈ wsAll, w.before [.ref (a0 0), .int x1].toArray s = true := fun w h9 => atoms_spec (ws := ws_Mod_isRing) B.pre w (List.mem_cons_of_mem _ h9)
  have hown : s.vm.findClass R_Mod = some m.cls := findClass_of_methodNamed B.named
  have hlocks := B.notSynchronized
  subst hsz
  have hN : bw_N (fun _ => True) [adMod a0] := hN0
  generalize hAe : (fun _ : Nat => True) = A at hN
  have hA : ∀ q : Nat, s.heap.size ≤ q → A q := fun q _ => by rw [← hAe]; trivial
  have hS : s.heap = s.heap ∧ ([] : List Loc) = [] := ⟨rfl, rfl⟩
  have hl := lv_entry ([.ref (a0 0), .int x1]) (n := 2) (Nat.le_of_ble_eq_true rfl)
  rw [lg_entry_eq]
  generalize (lg_sl ([.ref (a0 0), .int x1]) ++ List.replicate (2 - (lg_sl ([.ref (a0 0), .int x1])).length) Slot.unset).toArray = ls at hl ⊢
  have hl : lv_has ls 2 [(0, .ref (a0 0)), (1, .int x1)] := hl
  have C0 : cx wsAll vwCl nx p s m [.ref (a0 0), .int x1].toArray meth c (dC, dI) (tyA ct) b_Mod_isRing 2 (some .boolean) R_Mod A [adMod a0] := ⟨hx, hb, hr, hml, hown, hlocks, hts, hK, hN, hA, hnx⟩
  have h := hF
  rw [F_Mod_isRing] at h
  refine lv_aload_n hx hb d_Mod_isRing_0 rfl (lv_at hl 0 rfl) ?_
  refine va_get (D := (dC, dI)) (ci := 6) (v := .ref (a0 12)) (C := R_Mod) (T := T_Mod) (N := 36) hx hb hts in_Mod hown hK (hP 0 _ rfl) 0 rfl rfl 18 (by decide) (hts _ fl_Mod_44) (fun _ h9 => h9) rfl d_Mod_isRing_1 ?_
  refine lv_bipush (v := 60) hx hb d_Mod_isRing_4 (by decide) ?_
  refine lv_iload_n hx hb d_Mod_isRing_6 rfl (lv_at hl 1 rfl) ?_
  refine lv_imul hx hb d_Mod_isRing_7 ?_
  refine lv_iload_n hx hb d_Mod_isRing_8 rfl (lv_at hl 1 rfl) ?_
  refine lv_iadd hx hb d_Mod_isRing_9 ?_
  obtain ⟨hi1, h⟩ := chk_some h
  refine va_zald (f := g32 o0 18) hx hb hK (hP 0 _ rfl) 12 3 rfl rfl (inb_in hi1) d_Mod_isRing_10 ?_
  obtain ⟨hb2, h⟩ := chk_some h
  rw [isB_of hb2]
  obtain rfl := res1 h
  exact W.zret hx hb hr (b2i_nar _) (fun t ht hW => ⟨rfl, ht.trans hS.1⟩) (bw_nil hS.2) d_Mod_isRing_11
def F_Mod_common_17  : Nat → Int64 → Int64 → Option (Int64)
  | 0, _, _ => none
  | n + 1, x4, x6 =>
    if (lg_cmp x6 (0 : Int64)) = 0 then (some x4) else (chk (decide (¬ x6 = 0)) (F_Mod_common_17 n x6 (x4 - x4 / x6 * x6)))
def F_Mod_common (x0 : Int64) (x2 : Int64)  : Option (Int64) :=
  if 0 ≤ (lg_cmp x0 (0 : Int64)) then (F_Mod_common_17 fuel x0 x2) else (F_Mod_common_17 fuel (-x0) x2)
abbrev ws_Mod_common : List Cond := Cond.code y_Mod_common b_Mod_common 10 (some .long) :: wsAll
abbrev rm_Mod_common : Room := { frames := 0, cells := 0, slots := 0, locals := 0 }
set_option maxHeartbeats 4000000 in
set_option maxRecDepth 100000 in
theorem k_Mod_common_17 {p : Program} {l : Launch} {e : Env} {s : State} {m : MethodId} {args : Array Value} {below : List Frame} {meth : Method} {c : Code} {A : Nat → Prop} {ct dC : Nat → ClassId} {dI : Nat → Nat → Nat}   {r : Int64}   (C0 : cx wsAll vwCl nx p s m args meth c (dC, dI) (tyA ct) b_Mod_common 10 (some .long) R_Mod A [])  : ∀ (n : Nat) (x4 : Int64) (x6 : Int64) (H : Heap) (locs : List Loc) (ls : Array Slot), bw_P (dC, dI) vwCl [] H → (H = s.heap ∧ locs = []) → lv_has ls 10 [(4, .long x4), (6, .long x6)] → F_Mod_common_17 n x4 x6 = some r → W p l e (headSpec ws_Mod_common rm_Mod_common).room s m args below meth c H locs 0 0 (MQ below (bw_QR (some (.long r))) args s 0 0 (fun _ => False)) (F0 m 17 ls []) := by
  obtain ⟨hx, hb, hr, hml, hown, hlocks, hts, hK, hN, hA, hnx⟩ := id C0
  intro n
  induction n with
  | zero =>
    intro x4 x6 H locs ls hP hS hl h
    cases h
  | succ n ih =>
    intro x4 x6 H locs ls hP hS hl h
    rw [F_Mod_common_17] at h
    refine lv_lload hx hb d_Mod_common_17 (lv_at hl 1 rfl) ?_
    refine lv_lconst (v := 0) hx hb d_Mod_common_19 (by decide) ?_
    refine W.lcmp hx hb d_Mod_common_20 ?_
    refine lv_if_eq (tgt := 42) hx hb d_Mod_common_21 (by decide) (fun c2 => ?_) (fun c2 => ?_)
    · have h := ite_t c2 h
      refine lv_lload hx hb d_Mod_common_42 (lv_at hl 0 rfl) ?_
      obtain rfl := res1 h
      exact W.lret hx hb hr (fun t ht hW => ⟨rfl, ht.trans hS.1⟩) (bw_nil hS.2) d_Mod_common_44
    · have h := ite_f c2 h
      refine lv_lload hx hb d_Mod_common_24 (lv_at hl 0 rfl) ?_
      refine lv_lload hx hb d_Mod_common_26 (lv_at hl 1 rfl) ?_
      obtain ⟨hz3, h⟩ := chk_some h
      refine lv_lrem hx hb d_Mod_common_28 (of_decide_eq_true hz3) ?_
      refine lv_lstore (lv' := [(8, .long (x4 - x4 / x6 * x6)), (4, .long x4), (6, .long x6)]) hx hb d_Mod_common_29 hl (by decide) rfl (fun ls hl => ?_)
      refine lv_lload hx hb d_Mod_common_31 (lv_at hl 2 rfl) ?_
      refine lv_lstore (lv' := [(4, .long x6), (8, .long (x4 - x4 / x6 * x6)), (6, .long x6)]) hx hb d_Mod_common_33 hl (by decide) rfl (fun ls hl => ?_)
      refine lv_lload hx hb d_Mod_common_35 (lv_at hl 1 rfl) ?_
      refine lv_lstore (lv' := [(6, .long (x4 - x4 / x6 * x6)), (4, .long x6), (8, .long (x4 - x4 / x6 * x6))]) hx hb d_Mod_common_37 hl (by decide) rfl (fun ls hl => ?_)
      refine lv_goto (tgt := 17) hx hb d_Mod_common_39 (by decide) ?_
      exact ih x6 (x4 - x4 / x6 * x6) _ _ _ hP hS (lv_sub hl [1, 0] rfl) h
set_option maxHeartbeats 4000000 in
set_option maxRecDepth 100000 in
theorem c_Mod_common (l : Launch) (ct dC : Nat → ClassId) (dI : Nat → Nat → Nat)   (sz : Nat) (x0 : Int64) (x2 : Int64)  (r : Int64) (hF : F_Mod_common x0 x2 = some r) : Met l y_Mod_common ws_Mod_common rm_Mod_common (bw_Pc [.long x0, .long x2] (dC, dI) vwCl (tyA ct) [] sz nx) (bw_QR (some (.long r))) 0 0 (fun _ => False) := by
  refine Met.ofW (cc := b_Mod_common) (maxL := 10) (ret := (some .long)) (by decide) rfl ?_
  intro p e s m args below meth c s₁ B hml hv
  obtain ⟨rfl, hsz, hP, hK, hN0, hnx⟩ := hv
  have hx := B.exec
  have hb := B.bytes
  have hr := B.returns
  have hts : ∀ w ∈ wsAll, w.before [.long x0, .long x2].toArray s = true := fun w h9 => atoms_spec (ws := ws_Mod_common) B.pre w (List.mem_cons_of_mem _ h9)
  have hown : s.vm.findClass R_Mod = some m.cls := findClass_of_methodNamed B.named
  have hlocks := B.notSynchronized
  subst hsz
  have hN : bw_N (fun _ => True) [] := hN0
  generalize hAe : (fun _ : Nat => True) = A at hN
  have hA : ∀ q : Nat, s.heap.size ≤ q → A q := fun q _ => by rw [← hAe]; trivial
  have hS : s.heap = s.heap ∧ ([] : List Loc) = [] := ⟨rfl, rfl⟩
  have hl := lv_entry ([.long x0, .long x2]) (n := 10) (Nat.le_of_ble_eq_true rfl)
  rw [lg_entry_eq]
  generalize (lg_sl ([.long x0, .long x2]) ++ List.replicate (10 - (lg_sl ([.long x0, .long x2])).length) Slot.unset).toArray = ls at hl ⊢
  have hl : lv_has ls 10 [(0, .long x0), (2, .long x2)] := hl
  have C0 : cx wsAll vwCl nx p s m [.long x0, .long x2].toArray meth c (dC, dI) (tyA ct) b_Mod_common 10 (some .long) R_Mod A [] := ⟨hx, hb, hr, hml, hown, hlocks, hts, hK, hN, hA, hnx⟩
  have h := hF
  rw [F_Mod_common] at h
  refine lv_lload_n hx hb d_Mod_common_0 rfl (lv_at hl 0 rfl) ?_
  refine lv_lconst (v := 0) hx hb d_Mod_common_1 (by decide) ?_
  refine W.lcmp hx hb d_Mod_common_2 ?_
  refine lv_if_ge (tgt := 11) hx hb d_Mod_common_3 (by decide) (fun c1 => ?_) (fun c1 => ?_)
  · have h := ite_t c1 h
    refine lv_lload_n hx hb d_Mod_common_11 rfl (lv_at hl 0 rfl) ?_
    refine lv_lstore (lv' := [(4, .long x0), (0, .long x0), (2, .long x2)]) hx hb d_Mod_common_12 hl (by decide) rfl (fun ls hl => ?_)
    refine lv_lload_n hx hb d_Mod_common_14 rfl (lv_at hl 2 rfl) ?_
    refine lv_lstore (lv' := [(6, .long x2), (4, .long x0), (0, .long x0), (2, .long x2)]) hx hb d_Mod_common_15 hl (by decide) rfl (fun ls hl => ?_)
    exact k_Mod_common_17 C0 fuel x0 x2 _ _ _ hP hS (lv_sub hl [1, 0] rfl) h
  · have h := ite_f c1 h
    refine lv_lload_n hx hb d_Mod_common_6 rfl (lv_at hl 0 rfl) ?_
    refine lv_lneg hx hb d_Mod_common_7 ?_
    refine lv_goto (tgt := 12) hx hb d_Mod_common_8 (by decide) ?_
    refine lv_lstore (lv' := [(4, .long (-x0)), (0, .long x0), (2, .long x2)]) hx hb d_Mod_common_12 hl (by decide) rfl (fun ls hl => ?_)
    refine lv_lload_n hx hb d_Mod_common_14 rfl (lv_at hl 2 rfl) ?_
    refine lv_lstore (lv' := [(6, .long x2), (4, .long (-x0)), (0, .long x0), (2, .long x2)]) hx hb d_Mod_common_15 hl (by decide) rfl (fun ls hl => ?_)
    exact k_Mod_common_17 C0 fuel (-x0) x2 _ _ _ hP hS (lv_sub hl [1, 0] rfl) h
theorem g_Mod_187 : GoodIn wsAll (wsS R_Mod 187 y_Mod_common ws_Mod_common) := gd_S ml_Mod_187 st_Mod_common ini_Mod cd_Mod_common
def F_Mod_put_79  (x9 : Int64) (x11 : Int64) (y1 : Int32) (o0 : Ob) : Option (Ob) :=
  chk (inb (g32 o0 30 0) 420) (some (s32 (s64 (s64 (s32 o0 31 0 y1) 28 (Int32.toNatClampNeg (g32 o0 30 0)) x9) 29 (Int32.toNatClampNeg (g32 o0 30 0)) x11) 30 0 ((g32 o0 30 0) + (1 : Int32))))
def F_Mod_put_13  (x1 : Int64) (x3 : Int64) (y0 : Int64) (o0 : Ob) : Option (Ob) :=
  bind1 (F_Mod_common x1 (y0 * x3)) (fun v3 => chk (decide (¬ v3 = 0)) (if 0 < (lg_cmp ((y0 * x1) / v3) (1000000000 : Int64)) then (F_Mod_put_79 ((y0 * x1) / v3) ((y0 * x3) / v3) (3 : Int32) o0) else (if (lg_cmp ((y0 * x1) / v3) (-1000000000 : Int64)) < 0 then (F_Mod_put_79 ((y0 * x1) / v3) ((y0 * x3) / v3) (3 : Int32) o0) else (if (lg_cmp ((y0 * x3) / v3) (1000000000 : Int64)) ≤ 0 then (F_Mod_put_79 ((y0 * x1) / v3) ((y0 * x3) / v3) (g32 o0 31 0) o0) else (F_Mod_put_79 ((y0 * x1) / v3) ((y0 * x3) / v3) (3 : Int32) o0)))))
def F_Mod_put (x1 : Int64) (x3 : Int64) (o0 : Ob) : Option (Ob) :=
  if 0 ≤ (lg_cmp x3 (0 : Int64)) then (F_Mod_put_13 x1 x3 (1 : Int64) o0) else (F_Mod_put_13 x1 x3 (-1 : Int64) o0)
abbrev ws_Mod_put : List Cond := Cond.code y_Mod_put b_Mod_put 13 (none : Option Jvm.ClassFile.FieldType) :: wsAll
abbrev rm_Mod_put : Room := { frames := 1, cells := 0, slots := 0, locals := 29 }
set_option maxHeartbeats 4000000 in
set_option maxRecDepth 100000 in
theorem k_Mod_put_79 {p : Program} {l : Launch} {e : Env} {s : State} {m : MethodId} {args : Array Value} {below : List Frame} {meth : Method} {c : Code} {A : Nat → Prop} {ct dC : Nat → ClassId} {dI : Nat → Nat → Nat} {a0 : Nat → Nat}  {n0 : Ob}   (C0 : cx wsAll vwCl nx p s m args meth c (dC, dI) (tyA ct) b_Mod_put 13 (none : Option Jvm.ClassFile.FieldType) R_Mod A [adMod a0])  : ∀ (x9 : Int64) (x11 : Int64) (y1 : Int32) (o0 : Ob) (H : Heap) (locs : List Loc) (ls : Array Slot), bw_P (dC, dI) vwCl [wMod ct a0 o0] H → va_S A s.heap H locs → lv_has ls 13 [(0, .ref (a0 0)), (9, .long x9), (11, .long x11)] → F_Mod_put_79 x9 x11 y1 o0 = some n0 → W p l e (headSpec ws_Mod_put rm_Mod_put).room s m args below meth c H locs 0 0 (MQ below (bw_Q (dC, dI) vwCl none [wMod ct a0 n0] A) args s 0 0 A) (F0 m 79 ls [.int y1, .ref (a0 0)]) := by
  obtain ⟨hx, hb, hr, hml, hown, hlocks, hts, hK, hN, hA, hnx⟩ := id C0
  intro x9 x11 y1 o0 H locs ls hP hS hl h
  rw [F_Mod_put_79] at h
  refine pt_Mod_31 hx hb hts hown hK hP hN hS 0 rfl (hts _ fl_Mod_195) d_Mod_put_79 (fun H locs hP hS => ?_)
  have hP : bw_P (dC, dI) vwCl [wMod ct a0 (s32 o0 31 0 y1)] H := hP
  refine lv_aload_n hx hb d_Mod_put_82 rfl (lv_at hl 0 rfl) ?_
  refine va_get (D := (dC, dI)) (ci := 6) (v := .ref (a0 20)) (C := R_Mod) (T := T_Mod) (N := 36) hx hb hts in_Mod hown hK (hP 0 _ rfl) 0 rfl rfl 28 (by decide) (hts _ fl_Mod_69) (fun _ h9 => h9) rfl d_Mod_put_83 ?_
  refine lv_aload_n hx hb d_Mod_put_86 rfl (lv_at hl 0 rfl) ?_
  refine va_get (D := (dC, dI)) (ci := 6) (v := .int (g32 o0 30 0)) (C := R_Mod) (T := T_Mod) (N := 36) hx hb hts in_Mod hown hK (hP 0 _ rfl) 0 rfl rfl 30 (by decide) (hts _ fl_Mod_198) (fun _ h9 => h9) rfl d_Mod_put_87 ?_
  refine lv_lload hx hb d_Mod_put_90 (lv_at hl 1 rfl) ?_
  obtain ⟨hi9, h⟩ := chk_some h
  refine st_Mod_28 hx hb hK hP hN hS 0 rfl (inb_in hi9) d_Mod_put_92 (fun H locs hP hS => ?_)
  have hP : bw_P (dC, dI) vwCl [wMod ct a0 (s64 (s32 o0 31 0 y1) 28 (Int32.toNatClampNeg (g32 o0 30 0)) x9)] H := hP
  refine lv_aload_n hx hb d_Mod_put_93 rfl (lv_at hl 0 rfl) ?_
  refine va_get (D := (dC, dI)) (ci := 6) (v := .ref (a0 21)) (C := R_Mod) (T := T_Mod) (N := 36) hx hb hts in_Mod hown hK (hP 0 _ rfl) 0 rfl rfl 29 (by decide) (hts _ fl_Mod_72) (fun _ h9 => h9) rfl d_Mod_put_94 ?_
  refine lv_aload_n hx hb d_Mod_put_97 rfl (lv_at hl 0 rfl) ?_
  refine va_get (D := (dC, dI)) (ci := 6) (v := .int (g32 o0 30 0)) (C := R_Mod) (T := T_Mod) (N := 36) hx hb hts in_Mod hown hK (hP 0 _ rfl) 0 rfl rfl 30 (by decide) (hts _ fl_Mod_198) (fun _ h9 => h9) rfl d_Mod_put_98 ?_
  refine lv_lload hx hb d_Mod_put_101 (lv_at hl 2 rfl) ?_
  refine st_Mod_29 hx hb hK hP hN hS 0 rfl (inb_in hi9) d_Mod_put_103 (fun H locs hP hS => ?_)
  have hP : bw_P (dC, dI) vwCl [wMod ct a0 (s64 (s64 (s32 o0 31 0 y1) 28 (Int32.toNatClampNeg (g32 o0 30 0)) x9) 29 (Int32.toNatClampNeg (g32 o0 30 0)) x11)] H := hP
  refine lv_aload_n hx hb d_Mod_put_104 rfl (lv_at hl 0 rfl) ?_
  refine lv_dup hx hb d_Mod_put_105 rfl ?_
  refine va_get (D := (dC, dI)) (ci := 6) (v := .int (g32 o0 30 0)) (C := R_Mod) (T := T_Mod) (N := 36) hx hb hts in_Mod hown hK (hP 0 _ rfl) 0 rfl rfl 30 (by decide) (hts _ fl_Mod_198) (fun _ h9 => h9) rfl d_Mod_put_106 ?_
  refine lv_iconst (v := 1) hx hb d_Mod_put_109 (by decide) ?_
  refine lv_iadd hx hb d_Mod_put_110 ?_
  refine pt_Mod_30 hx hb hts hown hK hP hN hS 0 rfl (hts _ fl_Mod_198) d_Mod_put_111 (fun H locs hP hS => ?_)
  have hP : bw_P (dC, dI) vwCl [wMod ct a0 (s32 (s64 (s64 (s32 o0 31 0 y1) 28 (Int32.toNatClampNeg (g32 o0 30 0)) x9) 29 (Int32.toNatClampNeg (g32 o0 30 0)) x11) 30 0 ((g32 o0 30 0) + (1 : Int32)))] H := hP
  obtain rfl := res1 h
  exact W.vret hx hb hr (fun t ht hW => ⟨rfl, by rw [ht]; exact hP, hS.F ht⟩) hS.2.2 d_Mod_put_114
set_option maxHeartbeats 4000000 in
set_option maxRecDepth 100000 in
theorem k_Mod_put_13 {p : Program} {l : Launch} {e : Env} {s : State} {m : MethodId} {args : Array Value} {below : List Frame} {meth : Method} {c : Code} {A : Nat → Prop} {ct dC : Nat → ClassId} {dI : Nat → Nat → Nat} {a0 : Nat → Nat}  {n0 : Ob}   (C0 : cx wsAll vwCl nx p s m args meth c (dC, dI) (tyA ct) b_Mod_put 13 (none : Option Jvm.ClassFile.FieldType) R_Mod A [adMod a0])  : ∀ (x1 : Int64) (x3 : Int64) (y0 : Int64) (o0 : Ob) (H : Heap) (locs : List Loc) (ls : Array Slot), bw_P (dC, dI) vwCl [wMod ct a0 o0] H → va_S A s.heap H locs → lv_has ls 13 [(0, .ref (a0 0)), (1, .long x1), (3, .long x3)] → F_Mod_put_13 x1 x3 y0 o0 = some n0 → W p l e (headSpec ws_Mod_put rm_Mod_put).room s m args below meth c H locs 0 0 (MQ below (bw_Q (dC, dI) vwCl none [wMod ct a0 n0] A) args s 0 0 A) (F0 m 13 ls [.long y0]) := by
  obtain ⟨hx, hb, hr, hml, hown, hlocks, hts, hK, hN, hA, hnx⟩ := id C0
  intro x1 x3 y0 o0 H locs ls hP hS hl h
  rw [F_Mod_put_13] at h
  refine lv_lstore (lv' := [(5, .long y0), (0, .ref (a0 0)), (1, .long x1), (3, .long x3)]) hx hb d_Mod_put_13 hl (by decide) rfl (fun ls hl => ?_)
  refine lv_lload_n hx hb d_Mod_put_15 rfl (lv_at hl 2 rfl) ?_
  refine lv_lload hx hb d_Mod_put_16 (lv_at hl 0 rfl) ?_
  refine lv_lload_n hx hb d_Mod_put_18 rfl (lv_at hl 3 rfl) ?_
  refine lv_lmul hx hb d_Mod_put_19 ?_
  obtain ⟨v3, hG2, h⟩ := bind1_some h
  refine bw_callR (va_runS (As := [.long x1, .long (y0 * x3)]) (rest := []) ⟨hx, hb, hml, hown, hts⟩ (c_Mod_common l ct dC dI _ x1 (y0 * x3) v3 hG2) (cwS 2 hts g_Mod_187 rfl rfl rfl (by decide +kernel) ⟨Nat.le_of_ble_eq_true rfl, Nat.le_of_ble_eq_true rfl⟩) ⟨bw_blind nx_call, fun U hU hW => ⟨rfl, by rw [hU], by rw [hU]; exact hP.sub [] rfl, va_K.moved hW.alike hK, (hN.sub [] (by decide) rfl).weaken (fun _ _ => trivial), nx_warm hW hnx⟩⟩ rfl rfl hl.1 rfl (Nat.le_of_ble_eq_true rfl) d_Mod_put_20 ⟨Nat.le_of_ble_eq_true rfl, Nat.le_of_ble_eq_true rfl⟩) ?_
  refine lv_lstore (lv' := [(7, .long v3), (5, .long y0), (0, .ref (a0 0)), (1, .long x1), (3, .long x3)]) hx hb d_Mod_put_23 hl (by decide) rfl (fun ls hl => ?_)
  refine lv_lload hx hb d_Mod_put_25 (lv_at hl 1 rfl) ?_
  refine lv_lload_n hx hb d_Mod_put_27 rfl (lv_at hl 3 rfl) ?_
  refine lv_lmul hx hb d_Mod_put_28 ?_
  refine lv_lload hx hb d_Mod_put_29 (lv_at hl 0 rfl) ?_
  obtain ⟨hz4, h⟩ := chk_some h
  refine lv_ldiv hx hb d_Mod_put_31 (of_decide_eq_true hz4) ?_
  refine lv_lstore (lv' := [(9, .long ((y0 * x1) / v3)), (7, .long v3), (5, .long y0), (0, .ref (a0 0)), (1, .long x1), (3, .long x3)]) hx hb d_Mod_put_32 hl (by decide) rfl (fun ls hl => ?_)
  refine lv_lload hx hb d_Mod_put_34 (lv_at hl 2 rfl) ?_
  refine lv_lload_n hx hb d_Mod_put_36 rfl (lv_at hl 5 rfl) ?_
  refine lv_lmul hx hb d_Mod_put_37 ?_
  refine lv_lload hx hb d_Mod_put_38 (lv_at hl 1 rfl) ?_
  refine lv_ldiv hx hb d_Mod_put_40 (of_decide_eq_true hz4) ?_
  refine lv_lstore (lv' := [(11, .long ((y0 * x3) / v3)), (9, .long ((y0 * x1) / v3)), (7, .long v3), (5, .long y0), (0, .ref (a0 0)), (1, .long x1), (3, .long x3)]) hx hb d_Mod_put_41 hl (by decide) rfl (fun ls hl => ?_)
  refine lv_aload_n hx hb d_Mod_put_43 rfl (lv_at hl 4 rfl) ?_
  refine lv_lload hx hb d_Mod_put_44 (lv_at hl 1 rfl) ?_
  refine lv_ldc2 (v := 1000000000) hx hb hown (hts _ cn_Mod_191) d_Mod_put_46 ?_
  refine W.lcmp hx hb d_Mod_put_49 ?_
  refine lv_if_gt (tgt := 71) hx hb d_Mod_put_50 (by decide) (fun c6 => ?_) (fun c6 => ?_)
  · have h := ite_t c6 h
    refine lv_iconst (v := 3) hx hb d_Mod_put_71 (by decide) ?_
    refine lv_goto (tgt := 79) hx hb d_Mod_put_72 (by decide) ?_
    exact k_Mod_put_79 C0 ((y0 * x1) / v3) ((y0 * x3) / v3) (3 : Int32) o0 _ _ _ hP hS (lv_sub hl [4, 1, 0] rfl) h
  · have h := ite_f c6 h
    refine lv_lload hx hb d_Mod_put_53 (lv_at hl 1 rfl) ?_
    refine lv_ldc2 (v := -1000000000) hx hb hown (hts _ cn_Mod_193) d_Mod_put_55 ?_
    refine W.lcmp hx hb d_Mod_put_58 ?_
    refine lv_if_lt (tgt := 71) hx hb d_Mod_put_59 (by decide) (fun c7 => ?_) (fun c7 => ?_)
    · have h := ite_t c7 h
      refine lv_iconst (v := 3) hx hb d_Mod_put_71 (by decide) ?_
      refine lv_goto (tgt := 79) hx hb d_Mod_put_72 (by decide) ?_
      exact k_Mod_put_79 C0 ((y0 * x1) / v3) ((y0 * x3) / v3) (3 : Int32) o0 _ _ _ hP hS (lv_sub hl [4, 1, 0] rfl) h
    · have h := ite_f c7 h
      refine lv_lload hx hb d_Mod_put_62 (lv_at hl 0 rfl) ?_
      refine lv_ldc2 (v := 1000000000) hx hb hown (hts _ cn_Mod_191) d_Mod_put_64 ?_
      refine W.lcmp hx hb d_Mod_put_67 ?_
      refine lv_if_le (tgt := 75) hx hb d_Mod_put_68 (by decide) (fun c8 => ?_) (fun c8 => ?_)
      · have h := ite_t c8 h
        refine lv_aload_n hx hb d_Mod_put_75 rfl (lv_at hl 4 rfl) ?_
        refine va_get (D := (dC, dI)) (ci := 6) (v := .int (g32 o0 31 0)) (C := R_Mod) (T := T_Mod) (N := 36) hx hb hts in_Mod hown hK (hP 0 _ rfl) 0 rfl rfl 31 (by decide) (hts _ fl_Mod_195) (fun _ h9 => h9) rfl d_Mod_put_76 ?_
        exact k_Mod_put_79 C0 ((y0 * x1) / v3) ((y0 * x3) / v3) (g32 o0 31 0) o0 _ _ _ hP hS (lv_sub hl [4, 1, 0] rfl) h
      · have h := ite_f c8 h
        refine lv_iconst (v := 3) hx hb d_Mod_put_71 (by decide) ?_
        refine lv_goto (tgt := 79) hx hb d_Mod_put_72 (by decide) ?_
        exact k_Mod_put_79 C0 ((y0 * x1) / v3) ((y0 * x3) / v3) (3 : Int32) o0 _ _ _ hP hS (lv_sub hl [4, 1, 0] rfl) h
set_option maxHeartbeats 4000000 in
set_option maxRecDepth 100000 in
theorem c_Mod_put (l : Launch) (ct dC : Nat → ClassId) (dI : Nat → Nat → Nat) (a0 : Nat → Nat)  (sz : Nat) (x1 : Int64) (x3 : Int64) (o0 : Ob) (n0 : Ob) (hF : F_Mod_put x1 x3 o0 = some n0) : Met l y_Mod_put ws_Mod_put rm_Mod_put (bw_Pc [.ref (a0 0), .long x1, .long x3] (dC, dI) vwCl (tyA ct) [wMod ct a0 o0] sz nx) (bw_Q (dC, dI) vwCl none [wMod ct a0 n0] (bw_A [adMod a0] sz)) 0 0 (bw_A [adMod a0] sz) := by
  refine Met.ofW (cc := b_Mod_put) (maxL := 13) (ret := (none : Option Jvm.ClassFile.FieldType)) (by decide) rfl ?_
  intro p e s m args below meth c s₁ B hml hv
  obtain ⟨rfl, hsz, hP, hK, hN0, hnx⟩ := hv
  have hx := B.exec
  have hb := B.bytes
  have hr := B.returns
  have hts : ∀ w ∈ wsAll, w.before [.ref (a0 0), .long x1, .long x3].toArray s = true := fun w h9 => atoms_spec (ws := ws_Mod_put) B.pre w (List.mem_cons_of_mem _ h9)
  have hown : s.vm.findClass R_Mod = some m.cls := findClass_of_methodNamed B.named
  have hlocks := B.notSynchronized
  subst hsz
  have hN : bw_N (bw_A [adMod a0] s.heap.size) [adMod a0] := hN0.self s.heap.size
  generalize hAe : bw_A [adMod a0] s.heap.size = A at hN ⊢
  have hA : ∀ q : Nat, s.heap.size ≤ q → A q := fun q h => by rw [← hAe]; exact Or.inr h
  have hS : va_S A s.heap s.heap [] := va_S.rf
  have hl := lv_entry ([.ref (a0 0), .long x1, .long x3]) (n := 13) (Nat.le_of_ble_eq_true rfl)
  rw [lg_entry_eq]
  generalize (lg_sl ([.ref (a0 0), .long x1, .long x3]) ++ List.replicate (13 - (lg_sl ([.ref (a0 0), .long x1, .long x3])).length) Slot.unset).toArray = ls at hl ⊢
  have hl : lv_has ls 13 [(0, .ref (a0 0)), (1, .long x1), (3, .long x3)] := hl
  have C0 : cx wsAll vwCl nx p s m [.ref (a0 0), .long x1, .long x3].toArray meth c (dC, dI) (tyA ct) b_Mod_put 13 (none : Option Jvm.ClassFile.FieldType) R_Mod A [adMod a0] := ⟨hx, hb, hr, hml, hown, hlocks, hts, hK, hN, hA, hnx⟩
  have h := hF
  rw [F_Mod_put] at h
  refine lv_lload_n hx hb d_Mod_put_0 rfl (lv_at hl 2 rfl) ?_
  refine lv_lconst (v := 0) hx hb d_Mod_put_1 (by decide) ?_
  refine W.lcmp hx hb d_Mod_put_2 ?_
  refine lv_if_ge (tgt := 12) hx hb d_Mod_put_3 (by decide) (fun c1 => ?_) (fun c1 => ?_)
  · have h := ite_t c1 h
    refine lv_lconst (v := 1) hx hb d_Mod_put_12 (by decide) ?_
    exact k_Mod_put_13 C0 x1 x3 (1 : Int64) o0 _ _ _ hP hS (lv_sub hl [0, 1, 2] rfl) h
  · have h := ite_f c1 h
    refine lv_ldc2 (v := -1) hx hb hown (hts _ cn_Mod_185) d_Mod_put_6 ?_
    refine lv_goto (tgt := 13) hx hb d_Mod_put_9 (by decide) ?_
    exact k_Mod_put_13 C0 x1 x3 (-1 : Int64) o0 _ _ _ hP hS (lv_sub hl [0, 1, 2] rfl) h
def F_Mod_pushCell (x1 : Int32) (o0 : Ob) : Option (Ob) :=
  chk (inb x1 60) (if (g32 o0 19 (Int32.toNatClampNeg x1)) = (1 : Int32) then (chk (inb (g32 o0 30 0) 420) (some (s32 (s64 (s64 o0 28 (Int32.toNatClampNeg (g32 o0 30 0)) (g64 o0 20 (Int32.toNatClampNeg x1))) 29 (Int32.toNatClampNeg (g32 o0 30 0)) (g64 o0 21 (Int32.toNatClampNeg x1))) 30 0 ((g32 o0 30 0) + (1 : Int32))))) else (some (s32 o0 31 0 (5 : Int32))))
abbrev ws_Mod_pushCell : List Cond := Cond.code y_Mod_pushCell b_Mod_pushCell 2 (none : Option Jvm.ClassFile.FieldType) :: wsAll
abbrev rm_Mod_pushCell : Room := { frames := 0, cells := 0, slots := 0, locals := 0 }
set_option maxHeartbeats 4000000 in
set_option maxRecDepth 100000 in
theorem c_Mod_pushCell (l : Launch) (ct dC : Nat → ClassId) (dI : Nat → Nat → Nat) (a0 : Nat → Nat)  (sz : Nat) (x1 : Int32) (o0 : Ob) (n0 : Ob) (hF : F_Mod_pushCell x1 o0 = some n0) : Met l y_Mod_pushCell ws_Mod_pushCell rm_Mod_pushCell (bw_Pc [.ref (a0 0), .int x1] (dC, dI) vwCl (tyA ct) [wMod ct a0 o0] sz nx) (bw_Q (dC, dI) vwCl none [wMod ct a0 n0] (bw_A [adMod a0] sz)) 0 0 (bw_A [adMod a0] sz) := by
  refine Met.ofW (cc := b_Mod_pushCell) (maxL := 2) (ret := (none : Option Jvm.ClassFile.FieldType)) (by decide) rfl ?_
  intro p e s m args below meth c s₁ B hml hv
  obtain ⟨rfl, hsz, hP, hK, hN0, hnx⟩ := hv
  have hx := B.exec
  have hb := B.bytes
  have hr := B.returns
  have hts : ∀ w ∈ wsAll, w.before [.ref (a0 0), .int x1].toArray s = true := fun w h9 => atoms_spec (ws := ws_Mod_pushCell) B.pre w (List.mem_cons_of_mem _ h9)
  have hown : s.vm.findClass R_Mod = some m.cls := findClass_of_methodNamed B.named
  have hlocks := B.notSynchronized
  subst hsz
  have hN : bw_N (bw_A [adMod a0] s.heap.size) [adMod a0] := hN0.self s.heap.size
  generalize hAe : bw_A [adMod a0] s.heap.size = A at hN ⊢
  have hA : ∀ q : Nat, s.heap.size ≤ q → A q := fun q h => by rw [← hAe]; exact Or.inr h
  have hS : va_S A s.heap s.heap [] := va_S.rf
  have hl := lv_entry ([.ref (a0 0), .int x1]) (n := 2) (Nat.le_of_ble_eq_true rfl)
  rw [lg_entry_eq]
  generalize (lg_sl ([.ref (a0 0), .int x1]) ++ List.replicate (2 - (lg_sl ([.ref (a0 0), .int x1])).length) Slot.unset).toArray = ls at hl ⊢
  have hl : lv_has ls 2 [(0, .ref (a0 0)), (1, .int x1)] := hl
  have C0 : cx wsAll vwCl nx p s m [.ref (a0 0), .int x1].toArray meth c (dC, dI) (tyA ct) b_Mod_pushCell 2 (none : Option Jvm.ClassFile.FieldType) R_Mod A [adMod a0] := ⟨hx, hb, hr, hml, hown, hlocks, hts, hK, hN, hA, hnx⟩
  have h := hF
  rw [F_Mod_pushCell] at h
  refine lv_aload_n hx hb d_Mod_pushCell_0 rfl (lv_at hl 0 rfl) ?_
  refine va_get (D := (dC, dI)) (ci := 6) (v := .ref (a0 13)) (C := R_Mod) (T := T_Mod) (N := 36) hx hb hts in_Mod hown hK (hP 0 _ rfl) 0 rfl rfl 19 (by decide) (hts _ fl_Mod_48) (fun _ h9 => h9) rfl d_Mod_pushCell_1 ?_
  refine lv_iload_n hx hb d_Mod_pushCell_4 rfl (lv_at hl 1 rfl) ?_
  obtain ⟨hi1, h⟩ := chk_some h
  refine va_iald (f := g32 o0 19) hx hb hK (hP 0 _ rfl) 13 0 rfl rfl (inb_in hi1) d_Mod_pushCell_5 ?_
  refine lv_iconst (v := 1) hx hb d_Mod_pushCell_6 (by decide) ?_
  refine lv_icmp_eq (tgt := 16) hx hb d_Mod_pushCell_7 (by decide) (fun c2 => ?_) (fun c2 => ?_)
  · have h := ite_t c2 h
    refine lv_aload_n hx hb d_Mod_pushCell_16 rfl (lv_at hl 0 rfl) ?_
    refine va_get (D := (dC, dI)) (ci := 6) (v := .ref (a0 20)) (C := R_Mod) (T := T_Mod) (N := 36) hx hb hts in_Mod hown hK (hP 0 _ rfl) 0 rfl rfl 28 (by decide) (hts _ fl_Mod_69) (fun _ h9 => h9) rfl d_Mod_pushCell_17 ?_
    refine lv_aload_n hx hb d_Mod_pushCell_20 rfl (lv_at hl 0 rfl) ?_
    refine va_get (D := (dC, dI)) (ci := 6) (v := .int (g32 o0 30 0)) (C := R_Mod) (T := T_Mod) (N := 36) hx hb hts in_Mod hown hK (hP 0 _ rfl) 0 rfl rfl 30 (by decide) (hts _ fl_Mod_198) (fun _ h9 => h9) rfl d_Mod_pushCell_21 ?_
    refine lv_aload_n hx hb d_Mod_pushCell_24 rfl (lv_at hl 0 rfl) ?_
    refine va_get (D := (dC, dI)) (ci := 6) (v := .ref (a0 14)) (C := R_Mod) (T := T_Mod) (N := 36) hx hb hts in_Mod hown hK (hP 0 _ rfl) 0 rfl rfl 20 (by decide) (hts _ fl_Mod_51) (fun _ h9 => h9) rfl d_Mod_pushCell_25 ?_
    refine lv_iload_n hx hb d_Mod_pushCell_28 rfl (lv_at hl 1 rfl) ?_
    refine va_lald (f := g64 o0 20) hx hb hK (hP 0 _ rfl) 14 1 rfl rfl (inb_in hi1) d_Mod_pushCell_29 ?_
    obtain ⟨hi4, h⟩ := chk_some h
    refine st_Mod_28 hx hb hK hP hN hS 0 rfl (inb_in hi4) d_Mod_pushCell_30 (fun H locs hP hS => ?_)
    have hP : bw_P (dC, dI) vwCl [wMod ct a0 (s64 o0 28 (Int32.toNatClampNeg (g32 o0 30 0)) (g64 o0 20 (Int32.toNatClampNeg x1)))] H := hP
    refine lv_aload_n hx hb d_Mod_pushCell_31 rfl (lv_at hl 0 rfl) ?_
    refine va_get (D := (dC, dI)) (ci := 6) (v := .ref (a0 21)) (C := R_Mod) (T := T_Mod) (N := 36) hx hb hts in_Mod hown hK (hP 0 _ rfl) 0 rfl rfl 29 (by decide) (hts _ fl_Mod_72) (fun _ h9 => h9) rfl d_Mod_pushCell_32 ?_
    refine lv_aload_n hx hb d_Mod_pushCell_35 rfl (lv_at hl 0 rfl) ?_
    refine va_get (D := (dC, dI)) (ci := 6) (v := .int (g32 o0 30 0)) (C := R_Mod) (T := T_Mod) (N := 36) hx hb hts in_Mod hown hK (hP 0 _ rfl) 0 rfl rfl 30 (by decide) (hts _ fl_Mod_198) (fun _ h9 => h9) rfl d_Mod_pushCell_36 ?_
    refine lv_aload_n hx hb d_Mod_pushCell_39 rfl (lv_at hl 0 rfl) ?_
    refine va_get (D := (dC, dI)) (ci := 6) (v := .ref (a0 15)) (C := R_Mod) (T := T_Mod) (N := 36) hx hb hts in_Mod hown hK (hP 0 _ rfl) 0 rfl rfl 21 (by decide) (hts _ fl_Mod_54) (fun _ h9 => h9) rfl d_Mod_pushCell_40 ?_
    refine lv_iload_n hx hb d_Mod_pushCell_43 rfl (lv_at hl 1 rfl) ?_
    refine va_lald (f := g64 o0 21) hx hb hK (hP 0 _ rfl) 15 1 rfl rfl (inb_in hi1) d_Mod_pushCell_44 ?_
    refine st_Mod_29 hx hb hK hP hN hS 0 rfl (inb_in hi4) d_Mod_pushCell_45 (fun H locs hP hS => ?_)
    have hP : bw_P (dC, dI) vwCl [wMod ct a0 (s64 (s64 o0 28 (Int32.toNatClampNeg (g32 o0 30 0)) (g64 o0 20 (Int32.toNatClampNeg x1))) 29 (Int32.toNatClampNeg (g32 o0 30 0)) (g64 o0 21 (Int32.toNatClampNeg x1)))] H := hP
    refine lv_aload_n hx hb d_Mod_pushCell_46 rfl (lv_at hl 0 rfl) ?_
    refine lv_dup hx hb d_Mod_pushCell_47 rfl ?_
    refine va_get (D := (dC, dI)) (ci := 6) (v := .int (g32 o0 30 0)) (C := R_Mod) (T := T_Mod) (N := 36) hx hb hts in_Mod hown hK (hP 0 _ rfl) 0 rfl rfl 30 (by decide) (hts _ fl_Mod_198) (fun _ h9 => h9) rfl d_Mod_pushCell_48 ?_
    refine lv_iconst (v := 1) hx hb d_Mod_pushCell_51 (by decide) ?_
    refine lv_iadd hx hb d_Mod_pushCell_52 ?_
    refine pt_Mod_30 hx hb hts hown hK hP hN hS 0 rfl (hts _ fl_Mod_198) d_Mod_pushCell_53 (fun H locs hP hS => ?_)
    have hP : bw_P (dC, dI) vwCl [wMod ct a0 (s32 (s64 (s64 o0 28 (Int32.toNatClampNeg (g32 o0 30 0)) (g64 o0 20 (Int32.toNatClampNeg x1))) 29 (Int32.toNatClampNeg (g32 o0 30 0)) (g64 o0 21 (Int32.toNatClampNeg x1))) 30 0 ((g32 o0 30 0) + (1 : Int32)))] H := hP
    obtain rfl := res1 h
    exact W.vret hx hb hr (fun t ht hW => ⟨rfl, by rw [ht]; exact hP, hS.F ht⟩) hS.2.2 d_Mod_pushCell_56
  · have h := ite_f c2 h
    refine lv_aload_n hx hb d_Mod_pushCell_10 rfl (lv_at hl 0 rfl) ?_
    refine lv_iconst (v := 5) hx hb d_Mod_pushCell_11 (by decide) ?_
    refine pt_Mod_31 hx hb hts hown hK hP hN hS 0 rfl (hts _ fl_Mod_195) d_Mod_pushCell_12 (fun H locs hP hS => ?_)
    have hP : bw_P (dC, dI) vwCl [wMod ct a0 (s32 o0 31 0 (5 : Int32))] H := hP
    obtain rfl := res1 h
    exact W.vret hx hb hr (fun t ht hW => ⟨rfl, by rw [ht]; exact hP, hS.F ht⟩) hS.2.2 d_Mod_pushCell_15
theorem g_Mod_201 : GoodIn wsAll (wsV R_Mod 201 R_Mod y_Mod_put ws_Mod_put) := gd_V ml_Mod_201 im_Mod_put se_Mod_put ini_Mod cd_Mod_put
def F_Mod_between (x1 : Int32) (o0 : Ob) : Option (Ob) :=
  chk (inb ((g32 o0 30 0) - (2 : Int32)) 420) (chk (inb ((g32 o0 30 0) - (1 : Int32)) 420) (if x1 = (5 : Int32) then (bind1 (F_Mod_put (((g64 o0 28 (Int32.toNatClampNeg ((g32 o0 30 0) - (2 : Int32)))) * (g64 o0 29 (Int32.toNatClampNeg ((g32 o0 30 0) - (1 : Int32))))) + ((g64 o0 28 (Int32.toNatClampNeg ((g32 o0 30 0) - (1 : Int32)))) * (g64 o0 29 (Int32.toNatClampNeg ((g32 o0 30 0) - (2 : Int32)))))) ((g64 o0 29 (Int32.toNatClampNeg ((g32 o0 30 0) - (2 : Int32)))) * (g64 o0 29 (Int32.toNatClampNeg ((g32 o0 30 0) - (1 : Int32))))) (s32 o0 30 0 ((g32 o0 30 0) - (2 : Int32)))) (fun o_16 => some o_16)) else (if x1 = (6 : Int32) then (bind1 (F_Mod_put (((g64 o0 28 (Int32.toNatClampNeg ((g32 o0 30 0) - (2 : Int32)))) * (g64 o0 29 (Int32.toNatClampNeg ((g32 o0 30 0) - (1 : Int32))))) - ((g64 o0 28 (Int32.toNatClampNeg ((g32 o0 30 0) - (1 : Int32)))) * (g64 o0 29 (Int32.toNatClampNeg ((g32 o0 30 0) - (2 : Int32)))))) ((g64 o0 29 (Int32.toNatClampNeg ((g32 o0 30 0) - (2 : Int32)))) * (g64 o0 29 (Int32.toNatClampNeg ((g32 o0 30 0) - (1 : Int32))))) (s32 o0 30 0 ((g32 o0 30 0) - (2 : Int32)))) (fun o_14 => some o_14)) else (if x1 = (7 : Int32) then (bind1 (F_Mod_put ((g64 o0 28 (Int32.toNatClampNeg ((g32 o0 30 0) - (2 : Int32)))) * (g64 o0 28 (Int32.toNatClampNeg ((g32 o0 30 0) - (1 : Int32))))) ((g64 o0 29 (Int32.toNatClampNeg ((g32 o0 30 0) - (2 : Int32)))) * (g64 o0 29 (Int32.toNatClampNeg ((g32 o0 30 0) - (1 : Int32))))) (s32 o0 30 0 ((g32 o0 30 0) - (2 : Int32)))) (fun o_12 => some o_12)) else (if (lg_cmp (g64 o0 28 (Int32.toNatClampNeg ((g32 o0 30 0) - (1 : Int32)))) (0 : Int64)) = 0 then (some (s32 (s32 o0 30 0 ((g32 o0 30 0) - (2 : Int32))) 31 0 (2 : Int32))) else (bind1 (F_Mod_put ((g64 o0 28 (Int32.toNatClampNeg ((g32 o0 30 0) - (2 : Int32)))) * (g64 o0 29 (Int32.toNatClampNeg ((g32 o0 30 0) - (1 : Int32))))) ((g64 o0 29 (Int32.toNatClampNeg ((g32 o0 30 0) - (2 : Int32)))) * (g64 o0 28 (Int32.toNatClampNeg ((g32 o0 30 0) - (1 : Int32))))) (s32 o0 30 0 ((g32 o0 30 0) - (2 : Int32)))) (fun o_10 => some o_10)))))))
abbrev ws_Mod_between : List Cond := Cond.code y_Mod_between b_Mod_between 10 (none : Option Jvm.ClassFile.FieldType) :: wsAll
abbrev rm_Mod_between : Room := { frames := 2, cells := 0, slots := 0, locals := 61 }
set_option maxHeartbeats 4000000 in
set_option maxRecDepth 100000 in
theorem c_Mod_between (l : Launch) (ct dC : Nat → ClassId) (dI : Nat → Nat → Nat) (a0 : Nat → Nat)  (sz : Nat) (x1 : Int32) (o0 : Ob) (n0 : Ob) (hF : F_Mod_between x1 o0 = some n0) : Met l y_Mod_between ws_Mod_between rm_Mod_between (bw_Pc [.ref (a0 0), .int x1] (dC, dI) vwCl (tyA ct) [wMod ct a0 o0] sz nx) (bw_Q (dC, dI) vwCl none [wMod ct a0 n0] (bw_A [adMod a0] sz)) 0 0 (bw_A [adMod a0] sz) := by
  refine Met.ofW (cc := b_Mod_between) (maxL := 10) (ret := (none : Option Jvm.ClassFile.FieldType)) (by decide) rfl ?_
  intro p e s m args below meth c s₁ B hml hv
  obtain ⟨rfl, hsz, hP, hK, hN0, hnx⟩ := hv
  have hx := B.exec
  have hb := B.bytes
  have hr := B.returns
  have hts : ∀ w ∈ wsAll, w.before [.ref (a0 0), .int x1].toArray s = true := fun w h9 => atoms_spec (ws := ws_Mod_between) B.pre w (List.mem_cons_of_mem _ h9)
  have hown : s.vm.findClass R_Mod = some m.cls := findClass_of_methodNamed B.named
  have hlocks := B.notSynchronized
  subst hsz
  have hN : bw_N (bw_A [adMod a0] s.heap.size) [adMod a0] := hN0.self s.heap.size
  generalize hAe : bw_A [adMod a0] s.heap.size = A at hN ⊢
  have hA : ∀ q : Nat, s.heap.size ≤ q → A q := fun q h => by rw [← hAe]; exact Or.inr h
  have hS : va_S A s.heap s.heap [] := va_S.rf
  have hl := lv_entry ([.ref (a0 0), .int x1]) (n := 10) (Nat.le_of_ble_eq_true rfl)
  rw [lg_entry_eq]
  generalize (lg_sl ([.ref (a0 0), .int x1]) ++ List.replicate (10 - (lg_sl ([.ref (a0 0), .int x1])).length) Slot.unset).toArray = ls at hl ⊢
  have hl : lv_has ls 10 [(0, .ref (a0 0)), (1, .int x1)] := hl
  have C0 : cx wsAll vwCl nx p s m [.ref (a0 0), .int x1].toArray meth c (dC, dI) (tyA ct) b_Mod_between 10 (none : Option Jvm.ClassFile.FieldType) R_Mod A [adMod a0] := ⟨hx, hb, hr, hml, hown, hlocks, hts, hK, hN, hA, hnx⟩
  have h := hF
  rw [F_Mod_between] at h
  refine lv_aload_n hx hb d_Mod_between_0 rfl (lv_at hl 0 rfl) ?_
  refine va_get (D := (dC, dI)) (ci := 6) (v := .ref (a0 20)) (C := R_Mod) (T := T_Mod) (N := 36) hx hb hts in_Mod hown hK (hP 0 _ rfl) 0 rfl rfl 28 (by decide) (hts _ fl_Mod_69) (fun _ h9 => h9) rfl d_Mod_between_1 ?_
  refine lv_aload_n hx hb d_Mod_between_4 rfl (lv_at hl 0 rfl) ?_
  refine va_get (D := (dC, dI)) (ci := 6) (v := .int (g32 o0 30 0)) (C := R_Mod) (T := T_Mod) (N := 36) hx hb hts in_Mod hown hK (hP 0 _ rfl) 0 rfl rfl 30 (by decide) (hts _ fl_Mod_198) (fun _ h9 => h9) rfl d_Mod_between_5 ?_
  refine lv_iconst (v := 2) hx hb d_Mod_between_8 (by decide) ?_
  refine lv_isub hx hb d_Mod_between_9 ?_
  obtain ⟨hi1, h⟩ := chk_some h
  refine va_lald (f := g64 o0 28) hx hb hK (hP 0 _ rfl) 20 1 rfl rfl (inb_in hi1) d_Mod_between_10 ?_
  refine lv_lstore_n (lv' := [(2, .long (g64 o0 28 (Int32.toNatClampNeg ((g32 o0 30 0) - (2 : Int32))))), (0, .ref (a0 0)), (1, .int x1)]) hx hb d_Mod_between_11 rfl hl (by decide) rfl (fun ls hl => ?_)
  refine lv_aload_n hx hb d_Mod_between_12 rfl (lv_at hl 1 rfl) ?_
  refine va_get (D := (dC, dI)) (ci := 6) (v := .ref (a0 21)) (C := R_Mod) (T := T_Mod) (N := 36) hx hb hts in_Mod hown hK (hP 0 _ rfl) 0 rfl rfl 29 (by decide) (hts _ fl_Mod_72) (fun _ h9 => h9) rfl d_Mod_between_13 ?_
  refine lv_aload_n hx hb d_Mod_between_16 rfl (lv_at hl 1 rfl) ?_
  refine va_get (D := (dC, dI)) (ci := 6) (v := .int (g32 o0 30 0)) (C := R_Mod) (T := T_Mod) (N := 36) hx hb hts in_Mod hown hK (hP 0 _ rfl) 0 rfl rfl 30 (by decide) (hts _ fl_Mod_198) (fun _ h9 => h9) rfl d_Mod_between_17 ?_
  refine lv_iconst (v := 2) hx hb d_Mod_between_20 (by decide) ?_
  refine lv_isub hx hb d_Mod_between_21 ?_
  refine va_lald (f := g64 o0 29) hx hb hK (hP 0 _ rfl) 21 1 rfl rfl (inb_in hi1) d_Mod_between_22 ?_
  refine lv_lstore (lv' := [(4, .long (g64 o0 29 (Int32.toNatClampNeg ((g32 o0 30 0) - (2 : Int32))))), (2, .long (g64 o0 28 (Int32.toNatClampNeg ((g32 o0 30 0) - (2 : Int32))))), (0, .ref (a0 0)), (1, .int x1)]) hx hb d_Mod_between_23 hl (by decide) rfl (fun ls hl => ?_)
  refine lv_aload_n hx hb d_Mod_between_25 rfl (lv_at hl 2 rfl) ?_
  refine va_get (D := (dC, dI)) (ci := 6) (v := .ref (a0 20)) (C := R_Mod) (T := T_Mod) (N := 36) hx hb hts in_Mod hown hK (hP 0 _ rfl) 0 rfl rfl 28 (by decide) (hts _ fl_Mod_69) (fun _ h9 => h9) rfl d_Mod_between_26 ?_
  refine lv_aload_n hx hb d_Mod_between_29 rfl (lv_at hl 2 rfl) ?_
  refine va_get (D := (dC, dI)) (ci := 6) (v := .int (g32 o0 30 0)) (C := R_Mod) (T := T_Mod) (N := 36) hx hb hts in_Mod hown hK (hP 0 _ rfl) 0 rfl rfl 30 (by decide) (hts _ fl_Mod_198) (fun _ h9 => h9) rfl d_Mod_between_30 ?_
  refine lv_iconst (v := 1) hx hb d_Mod_between_33 (by decide) ?_
  refine lv_isub hx hb d_Mod_between_34 ?_
  obtain ⟨hi3, h⟩ := chk_some h
  refine va_lald (f := g64 o0 28) hx hb hK (hP 0 _ rfl) 20 1 rfl rfl (inb_in hi3) d_Mod_between_35 ?_
  refine lv_lstore (lv' := [(6, .long (g64 o0 28 (Int32.toNatClampNeg ((g32 o0 30 0) - (1 : Int32))))), (4, .long (g64 o0 29 (Int32.toNatClampNeg ((g32 o0 30 0) - (2 : Int32))))), (2, .long (g64 o0 28 (Int32.toNatClampNeg ((g32 o0 30 0) - (2 : Int32))))), (0, .ref (a0 0)), (1, .int x1)]) hx hb d_Mod_between_36 hl (by decide) rfl (fun ls hl => ?_)
  refine lv_aload_n hx hb d_Mod_between_38 rfl (lv_at hl 3 rfl) ?_
  refine va_get (D := (dC, dI)) (ci := 6) (v := .ref (a0 21)) (C := R_Mod) (T := T_Mod) (N := 36) hx hb hts in_Mod hown hK (hP 0 _ rfl) 0 rfl rfl 29 (by decide) (hts _ fl_Mod_72) (fun _ h9 => h9) rfl d_Mod_between_39 ?_
  refine lv_aload_n hx hb d_Mod_between_42 rfl (lv_at hl 3 rfl) ?_
  refine va_get (D := (dC, dI)) (ci := 6) (v := .int (g32 o0 30 0)) (C := R_Mod) (T := T_Mod) (N := 36) hx hb hts in_Mod hown hK (hP 0 _ rfl) 0 rfl rfl 30 (by decide) (hts _ fl_Mod_198) (fun _ h9 => h9) rfl d_Mod_between_43 ?_
  refine lv_iconst (v := 1) hx hb d_Mod_between_46 (by decide) ?_
  refine lv_isub hx hb d_Mod_between_47 ?_
  refine va_lald (f := g64 o0 29) hx hb hK (hP 0 _ rfl) 21 1 rfl rfl (inb_in hi3) d_Mod_between_48 ?_
  refine lv_lstore (lv' := [(8, .long (g64 o0 29 (Int32.toNatClampNeg ((g32 o0 30 0) - (1 : Int32))))), (6, .long (g64 o0 28 (Int32.toNatClampNeg ((g32 o0 30 0) - (1 : Int32))))), (4, .long (g64 o0 29 (Int32.toNatClampNeg ((g32 o0 30 0) - (2 : Int32))))), (2, .long (g64 o0 28 (Int32.toNatClampNeg ((g32 o0 30 0) - (2 : Int32))))), (0, .ref (a0 0)), (1, .int x1)]) hx hb d_Mod_between_49 hl (by decide) rfl (fun ls hl => ?_)
  refine lv_aload_n hx hb d_Mod_between_51 rfl (lv_at hl 4 rfl) ?_
  refine lv_dup hx hb d_Mod_between_52 rfl ?_
  refine va_get (D := (dC, dI)) (ci := 6) (v := .int (g32 o0 30 0)) (C := R_Mod) (T := T_Mod) (N := 36) hx hb hts in_Mod hown hK (hP 0 _ rfl) 0 rfl rfl 30 (by decide) (hts _ fl_Mod_198) (fun _ h9 => h9) rfl d_Mod_between_53 ?_
  refine lv_iconst (v := 2) hx hb d_Mod_between_56 (by decide) ?_
  refine lv_isub hx hb d_Mod_between_57 ?_
  refine pt_Mod_30 hx hb hts hown hK hP hN hS 0 rfl (hts _ fl_Mod_198) d_Mod_between_58 (fun H locs hP hS => ?_)
  have hP : bw_P (dC, dI) vwCl [wMod ct a0 (s32 o0 30 0 ((g32 o0 30 0) - (2 : Int32)))] H := hP
  refine lv_iload_n hx hb d_Mod_between_61 rfl (lv_at hl 5 rfl) ?_
  refine lv_iconst (v := 5) hx hb d_Mod_between_62 (by decide) ?_
  refine lv_icmp_ne (tgt := 88) hx hb d_Mod_between_63 (by decide) (fun c5 => ?_) (fun c5 => ?_)
  · have h := ite_f c5 h
    refine lv_iload_n hx hb d_Mod_between_88 rfl (lv_at hl 5 rfl) ?_
    refine lv_bipush (v := 6) hx hb d_Mod_between_89 (by decide) ?_
    refine lv_icmp_ne (tgt := 116) hx hb d_Mod_between_91 (by decide) (fun c6 => ?_) (fun c6 => ?_)
    · have h := ite_f c6 h
      refine lv_iload_n hx hb d_Mod_between_116 rfl (lv_at hl 5 rfl) ?_
      refine lv_bipush (v := 7) hx hb d_Mod_between_117 (by decide) ?_
      refine lv_icmp_ne (tgt := 138) hx hb d_Mod_between_119 (by decide) (fun c7 => ?_) (fun c7 => ?_)
      · have h := ite_f c7 h
        refine lv_lload hx hb d_Mod_between_138 (lv_at hl 1 rfl) ?_
        refine lv_lconst (v := 0) hx hb d_Mod_between_140 (by decide) ?_
        refine W.lcmp hx hb d_Mod_between_141 ?_
        refine lv_if_ne (tgt := 153) hx hb d_Mod_between_142 (by decide) (fun c8 => ?_) (fun c8 => ?_)
        · have h := ite_f c8 h
          refine lv_aload_n hx hb d_Mod_between_153 rfl (lv_at hl 4 rfl) ?_
          refine lv_lload_n hx hb d_Mod_between_154 rfl (lv_at hl 3 rfl) ?_
          refine lv_lload hx hb d_Mod_between_155 (lv_at hl 0 rfl) ?_
          refine lv_lmul hx hb d_Mod_between_157 ?_
          refine lv_lload hx hb d_Mod_between_158 (lv_at hl 2 rfl) ?_
          refine lv_lload hx hb d_Mod_between_160 (lv_at hl 1 rfl) ?_
          refine lv_lmul hx hb d_Mod_between_162 ?_
          obtain ⟨o_10, hG9, h⟩ := bind1_some h
          refine bw_call (Lc := [wMod ct a0 (s32 o0 30 0 ((g32 o0 30 0) - (2 : Int32)))]) (Lc' := [wMod ct a0 o_10]) (L' := [wMod ct a0 o_10]) [0] (va_runV (As := [.long ((g64 o0 28 (Int32.toNatClampNeg ((g32 o0 30 0) - (2 : Int32)))) * (g64 o0 29 (Int32.toNatClampNeg ((g32 o0 30 0) - (1 : Int32))))), .long ((g64 o0 29 (Int32.toNatClampNeg ((g32 o0 30 0) - (2 : Int32)))) * (g64 o0 28 (Int32.toNatClampNeg ((g32 o0 30 0) - (1 : Int32)))))]) (rest := []) ⟨hx, hb, hml, hown, hts⟩ (c_Mod_put l ct dC dI a0 _ ((g64 o0 28 (Int32.toNatClampNeg ((g32 o0 30 0) - (2 : Int32)))) * (g64 o0 29 (Int32.toNatClampNeg ((g32 o0 30 0) - (1 : Int32))))) ((g64 o0 29 (Int32.toNatClampNeg ((g32 o0 30 0) - (2 : Int32)))) * (g64 o0 28 (Int32.toNatClampNeg ((g32 o0 30 0) - (1 : Int32))))) (s32 o0 30 0 ((g32 o0 30 0) - (2 : Int32))) o_10 hG9) (cwV 2 hts g_Mod_201 rfl rfl rfl (by decide +kernel) ⟨Nat.le_of_ble_eq_true rfl, Nat.le_of_ble_eq_true rfl⟩) ⟨bw_blind nx_call, va_recv hK (hP 0 _ rfl) (ci := 6) (q0 := 0) rfl rfl, fun U hU hW => ⟨rfl, by rw [hU], by rw [hU]; exact hP.sub [0] rfl, va_K.moved hW.alike hK, (hN.sub [0] (by decide) rfl).weaken (fun _ _ => trivial), nx_warm hW hnx⟩⟩ rfl rfl hl.1 rfl (Nat.le_of_ble_eq_true rfl) d_Mod_between_163 ⟨Nat.le_of_ble_eq_true rfl, Nat.le_of_ble_eq_true rfl⟩) hP hN hS hA rfl rfl rfl (fun H locs hP hS => ?_)
          obtain rfl := res1 h
          exact W.vret hx hb hr (fun t ht hW => ⟨rfl, by rw [ht]; exact hP, hS.F ht⟩) hS.2.2 d_Mod_between_166
        · have h := ite_t c8 h
          refine lv_aload_n hx hb d_Mod_between_145 rfl (lv_at hl 4 rfl) ?_
          refine lv_iconst (v := 2) hx hb d_Mod_between_146 (by decide) ?_
          refine pt_Mod_31 hx hb hts hown hK hP hN hS 0 rfl (hts _ fl_Mod_195) d_Mod_between_147 (fun H locs hP hS => ?_)
          have hP : bw_P (dC, dI) vwCl [wMod ct a0 (s32 (s32 o0 30 0 ((g32 o0 30 0) - (2 : Int32))) 31 0 (2 : Int32))] H := hP
          refine lv_goto (tgt := 166) hx hb d_Mod_between_150 (by decide) ?_
          obtain rfl := res1 h
          exact W.vret hx hb hr (fun t ht hW => ⟨rfl, by rw [ht]; exact hP, hS.F ht⟩) hS.2.2 d_Mod_between_166
      · have h := ite_t c7 h
        refine lv_aload_n hx hb d_Mod_between_122 rfl (lv_at hl 4 rfl) ?_
        refine lv_lload_n hx hb d_Mod_between_123 rfl (lv_at hl 3 rfl) ?_
        refine lv_lload hx hb d_Mod_between_124 (lv_at hl 1 rfl) ?_
        refine lv_lmul hx hb d_Mod_between_126 ?_
        refine lv_lload hx hb d_Mod_between_127 (lv_at hl 2 rfl) ?_
        refine lv_lload hx hb d_Mod_between_129 (lv_at hl 0 rfl) ?_
        refine lv_lmul hx hb d_Mod_between_131 ?_
        obtain ⟨o_12, hG11, h⟩ := bind1_some h
        refine bw_call (Lc := [wMod ct a0 (s32 o0 30 0 ((g32 o0 30 0) - (2 : Int32)))]) (Lc' := [wMod ct a0 o_12]) (L' := [wMod ct a0 o_12]) [0] (va_runV (As := [.long ((g64 o0 28 (Int32.toNatClampNeg ((g32 o0 30 0) - (2 : Int32)))) * (g64 o0 28 (Int32.toNatClampNeg ((g32 o0 30 0) - (1 : Int32))))), .long ((g64 o0 29 (Int32.toNatClampNeg ((g32 o0 30 0) - (2 : Int32)))) * (g64 o0 29 (Int32.toNatClampNeg ((g32 o0 30 0) - (1 : Int32)))))]) (rest := []) ⟨hx, hb, hml, hown, hts⟩ (c_Mod_put l ct dC dI a0 _ ((g64 o0 28 (Int32.toNatClampNeg ((g32 o0 30 0) - (2 : Int32)))) * (g64 o0 28 (Int32.toNatClampNeg ((g32 o0 30 0) - (1 : Int32))))) ((g64 o0 29 (Int32.toNatClampNeg ((g32 o0 30 0) - (2 : Int32)))) * (g64 o0 29 (Int32.toNatClampNeg ((g32 o0 30 0) - (1 : Int32))))) (s32 o0 30 0 ((g32 o0 30 0) - (2 : Int32))) o_12 hG11) (cwV 2 hts g_Mod_201 rfl rfl rfl (by decide +kernel) ⟨Nat.le_of_ble_eq_true rfl, Nat.le_of_ble_eq_true rfl⟩) ⟨bw_blind nx_call, va_recv hK (hP 0 _ rfl) (ci := 6) (q0 := 0) rfl rfl, fun U hU hW => ⟨rfl, by rw [hU], by rw [hU]; exact hP.sub [0] rfl, va_K.moved hW.alike hK, (hN.sub [0] (by decide) rfl).weaken (fun _ _ => trivial), nx_warm hW hnx⟩⟩ rfl rfl hl.1 rfl (Nat.le_of_ble_eq_true rfl) d_Mod_between_132 ⟨Nat.le_of_ble_eq_true rfl, Nat.le_of_ble_eq_true rfl⟩) hP hN hS hA rfl rfl rfl (fun H locs hP hS => ?_)
        refine lv_goto (tgt := 166) hx hb d_Mod_between_135 (by decide) ?_
        obtain rfl := res1 h
        exact W.vret hx hb hr (fun t ht hW => ⟨rfl, by rw [ht]; exact hP, hS.F ht⟩) hS.2.2 d_Mod_between_166
    · have h := ite_t c6 h
      refine lv_aload_n hx hb d_Mod_between_94 rfl (lv_at hl 4 rfl) ?_
      refine lv_lload_n hx hb d_Mod_between_95 rfl (lv_at hl 3 rfl) ?_
      refine lv_lload hx hb d_Mod_between_96 (lv_at hl 0 rfl) ?_
      refine lv_lmul hx hb d_Mod_between_98 ?_
      refine lv_lload hx hb d_Mod_between_99 (lv_at hl 1 rfl) ?_
      refine lv_lload hx hb d_Mod_between_101 (lv_at hl 2 rfl) ?_
      refine lv_lmul hx hb d_Mod_between_103 ?_
      refine lv_lsub hx hb d_Mod_between_104 ?_
      refine lv_lload hx hb d_Mod_between_105 (lv_at hl 2 rfl) ?_
      refine lv_lload hx hb d_Mod_between_107 (lv_at hl 0 rfl) ?_
      refine lv_lmul hx hb d_Mod_between_109 ?_
      obtain ⟨o_14, hG13, h⟩ := bind1_some h
      refine bw_call (Lc := [wMod ct a0 (s32 o0 30 0 ((g32 o0 30 0) - (2 : Int32)))]) (Lc' := [wMod ct a0 o_14]) (L' := [wMod ct a0 o_14]) [0] (va_runV (As := [.long (((g64 o0 28 (Int32.toNatClampNeg ((g32 o0 30 0) - (2 : Int32)))) * (g64 o0 29 (Int32.toNatClampNeg ((g32 o0 30 0) - (1 : Int32))))) - ((g64 o0 28 (Int32.toNatClampNeg ((g32 o0 30 0) - (1 : Int32)))) * (g64 o0 29 (Int32.toNatClampNeg ((g32 o0 30 0) - (2 : Int32)))))), .long ((g64 o0 29 (Int32.toNatClampNeg ((g32 o0 30 0) - (2 : Int32)))) * (g64 o0 29 (Int32.toNatClampNeg ((g32 o0 30 0) - (1 : Int32)))))]) (rest := []) ⟨hx, hb, hml, hown, hts⟩ (c_Mod_put l ct dC dI a0 _ (((g64 o0 28 (Int32.toNatClampNeg ((g32 o0 30 0) - (2 : Int32)))) * (g64 o0 29 (Int32.toNatClampNeg ((g32 o0 30 0) - (1 : Int32))))) - ((g64 o0 28 (Int32.toNatClampNeg ((g32 o0 30 0) - (1 : Int32)))) * (g64 o0 29 (Int32.toNatClampNeg ((g32 o0 30 0) - (2 : Int32)))))) ((g64 o0 29 (Int32.toNatClampNeg ((g32 o0 30 0) - (2 : Int32)))) * (g64 o0 29 (Int32.toNatClampNeg ((g32 o0 30 0) - (1 : Int32))))) (s32 o0 30 0 ((g32 o0 30 0) - (2 : Int32))) o_14 hG13) (cwV 2 hts g_Mod_201 rfl rfl rfl (by decide +kernel) ⟨Nat.le_of_ble_eq_true rfl, Nat.le_of_ble_eq_true rfl⟩) ⟨bw_blind nx_call, va_recv hK (hP 0 _ rfl) (ci := 6) (q0 := 0) rfl rfl, fun U hU hW => ⟨rfl, by rw [hU], by rw [hU]; exact hP.sub [0] rfl, va_K.moved hW.alike hK, (hN.sub [0] (by decide) rfl).weaken (fun _ _ => trivial), nx_warm hW hnx⟩⟩ rfl rfl hl.1 rfl (Nat.le_of_ble_eq_true rfl) d_Mod_between_110 ⟨Nat.le_of_ble_eq_true rfl, Nat.le_of_ble_eq_true rfl⟩) hP hN hS hA rfl rfl rfl (fun H locs hP hS => ?_)
      refine lv_goto (tgt := 166) hx hb d_Mod_between_113 (by decide) ?_
      obtain rfl := res1 h
      exact W.vret hx hb hr (fun t ht hW => ⟨rfl, by rw [ht]; exact hP, hS.F ht⟩) hS.2.2 d_Mod_between_166
  · have h := ite_t c5 h
    refine lv_aload_n hx hb d_Mod_between_66 rfl (lv_at hl 4 rfl) ?_
    refine lv_lload_n hx hb d_Mod_between_67 rfl (lv_at hl 3 rfl) ?_
    refine lv_lload hx hb d_Mod_between_68 (lv_at hl 0 rfl) ?_
    refine lv_lmul hx hb d_Mod_between_70 ?_
    refine lv_lload hx hb d_Mod_between_71 (lv_at hl 1 rfl) ?_
    refine lv_lload hx hb d_Mod_between_73 (lv_at hl 2 rfl) ?_
    refine lv_lmul hx hb d_Mod_between_75 ?_
    refine lv_ladd hx hb d_Mod_between_76 ?_
    refine lv_lload hx hb d_Mod_between_77 (lv_at hl 2 rfl) ?_
    refine lv_lload hx hb d_Mod_between_79 (lv_at hl 0 rfl) ?_
    refine lv_lmul hx hb d_Mod_between_81 ?_
    obtain ⟨o_16, hG15, h⟩ := bind1_some h
    refine bw_call (Lc := [wMod ct a0 (s32 o0 30 0 ((g32 o0 30 0) - (2 : Int32)))]) (Lc' := [wMod ct a0 o_16]) (L' := [wMod ct a0 o_16]) [0] (va_runV (As := [.long (((g64 o0 28 (Int32.toNatClampNeg ((g32 o0 30 0) - (2 : Int32)))) * (g64 o0 29 (Int32.toNatClampNeg ((g32 o0 30 0) - (1 : Int32))))) + ((g64 o0 28 (Int32.toNatClampNeg ((g32 o0 30 0) - (1 : Int32)))) * (g64 o0 29 (Int32.toNatClampNeg ((g32 o0 30 0) - (2 : Int32)))))), .long ((g64 o0 29 (Int32.toNatClampNeg ((g32 o0 30 0) - (2 : Int32)))) * (g64 o0 29 (Int32.toNatClampNeg ((g32 o0 30 0) - (1 : Int32)))))]) (rest := []) ⟨hx, hb, hml, hown, hts⟩ (c_Mod_put l ct dC dI a0 _ (((g64 o0 28 (Int32.toNatClampNeg ((g32 o0 30 0) - (2 : Int32)))) * (g64 o0 29 (Int32.toNatClampNeg ((g32 o0 30 0) - (1 : Int32))))) + ((g64 o0 28 (Int32.toNatClampNeg ((g32 o0 30 0) - (1 : Int32)))) * (g64 o0 29 (Int32.toNatClampNeg ((g32 o0 30 0) - (2 : Int32)))))) ((g64 o0 29 (Int32.toNatClampNeg ((g32 o0 30 0) - (2 : Int32)))) * (g64 o0 29 (Int32.toNatClampNeg ((g32 o0 30 0) - (1 : Int32))))) (s32 o0 30 0 ((g32 o0 30 0) - (2 : Int32))) o_16 hG15) (cwV 2 hts g_Mod_201 rfl rfl rfl (by decide +kernel) ⟨Nat.le_of_ble_eq_true rfl, Nat.le_of_ble_eq_true rfl⟩) ⟨bw_blind nx_call, va_recv hK (hP 0 _ rfl) (ci := 6) (q0 := 0) rfl rfl, fun U hU hW => ⟨rfl, by rw [hU], by rw [hU]; exact hP.sub [0] rfl, va_K.moved hW.alike hK, (hN.sub [0] (by decide) rfl).weaken (fun _ _ => trivial), nx_warm hW hnx⟩⟩ rfl rfl hl.1 rfl (Nat.le_of_ble_eq_true rfl) d_Mod_between_82 ⟨Nat.le_of_ble_eq_true rfl, Nat.le_of_ble_eq_true rfl⟩) hP hN hS hA rfl rfl rfl (fun H locs hP hS => ?_)
    refine lv_goto (tgt := 166) hx hb d_Mod_between_85 (by decide) ?_
    obtain rfl := res1 h
    exact W.vret hx hb hr (fun t ht hW => ⟨rfl, by rw [ht]; exact hP, hS.F ht⟩) hS.2.2 d_Mod_between_166
theorem g_Mod_210 : GoodIn wsAll (wsV R_Mod 210 R_Mod y_Mod_between ws_Mod_between) := gd_V ml_Mod_210 im_Mod_between se_Mod_between ini_Mod cd_Mod_between
theorem g_Mod_207 : GoodIn wsAll (wsV R_Mod 207 R_Mod y_Mod_pushCell ws_Mod_pushCell) := gd_V ml_Mod_207 im_Mod_pushCell se_Mod_pushCell ini_Mod cd_Mod_pushCell
def F_Mod_reckon_12  : Nat → Int32 → Int32 → Ob → Option (Int32 × Ob)
  | 0, _, _, _ => none
  | n + 1, x2, x3, o0 =>
    if x2 ≤ x3 then (some (x3, o0)) else (chk (inb x3 1000) (if (g32 o0 5 (Int32.toNatClampNeg x3)) = (9 : Int32) then (some (x3, o0)) else (if (g32 o0 5 (Int32.toNatClampNeg x3)) = (10 : Int32) then (some (x3, o0)) else (if (g32 o0 31 0) = 0 then (if (g32 o0 5 (Int32.toNatClampNeg x3)) = (1 : Int32) then (bind1 (F_Mod_put (Int32.toInt64 (g32 o0 6 (Int32.toNatClampNeg x3))) (1000 : Int64) o0) (fun o_27 => F_Mod_reckon_12 n x2 (x3 + (1 : Int32)) o_27)) else (if (g32 o0 5 (Int32.toNatClampNeg x3)) = (2 : Int32) then (chk (inb (g32 o0 6 (Int32.toNatClampNeg x3)) 8) (chk (inb (g32 o0 30 0) 420) (F_Mod_reckon_12 n x2 (x3 + (1 : Int32)) (s32 (s64 (s64 o0 28 (Int32.toNatClampNeg (g32 o0 30 0)) (g64 o0 15 (Int32.toNatClampNeg (g32 o0 6 (Int32.toNatClampNeg x3))))) 29 (Int32.toNatClampNeg (g32 o0 30 0)) (g64 o0 16 (Int32.toNatClampNeg (g32 o0 6 (Int32.toNatClampNeg x3))))) 30 0 ((g32 o0 30 0) + (1 : Int32)))))) else (if (g32 o0 5 (Int32.toNatClampNeg x3)) = (3 : Int32) then (bind1 (F_Mod_pushCell (g32 o0 6 (Int32.toNatClampNeg x3)) o0) (fun o_18 => F_Mod_reckon_12 n x2 (x3 + (1 : Int32)) o_18)) else (if (g32 o0 5 (Int32.toNatClampNeg x3)) = (4 : Int32) then (chk (inb ((g32 o0 30 0) - (1 : Int32)) 420) (F_Mod_reckon_12 n x2 (x3 + (1 : Int32)) (s64 o0 28 (Int32.toNatClampNeg ((g32 o0 30 0) - (1 : Int32))) (-(g64 o0 28 (Int32.toNatClampNeg ((g32 o0 30 0) - (1 : Int32)))))))) else (bind1 (F_Mod_between (g32 o0 5 (Int32.toNatClampNeg x3)) o0) (fun o_13 => F_Mod_reckon_12 n x2 (x3 + (1 : Int32)) o_13)))))) else (some (x3, o0))))))
def F_Mod_reckon (x1 : Int32) (x2 : Int32) (o0 : Ob) : Option (Int32 × Ob) :=
  F_Mod_reckon_12 fuel x2 x1 (s32 (s32 o0 30 0 (0 : Int32)) 31 0 (0 : Int32))
abbrev ws_Mod_reckon : List Cond := Cond.code y_Mod_reckon b_Mod_reckon 5 (some .int) :: wsAll
abbrev rm_Mod_reckon : Room := { frames := 3, cells := 0, slots := 0, locals := 90 }
set_option maxHeartbeats 4000000 in
set_option maxRecDepth 100000 in
theorem k_Mod_reckon_12 {p : Program} {l : Launch} {e : Env} {s : State} {m : MethodId} {args : Array Value} {below : List Frame} {meth : Method} {c : Code} {A : Nat → Prop} {ct dC : Nat → ClassId} {dI : Nat → Nat → Nat} {a0 : Nat → Nat}  {r : Int32} {n0 : Ob}   (C0 : cx wsAll vwCl nx p s m args meth c (dC, dI) (tyA ct) b_Mod_reckon 5 (some .int) R_Mod A [adMod a0])  : ∀ (n : Nat) (x2 : Int32) (x3 : Int32) (o0 : Ob) (H : Heap) (locs : List Loc) (ls : Array Slot), bw_P (dC, dI) vwCl [wMod ct a0 o0] H → va_S A s.heap H locs → lv_has ls 5 [(0, .ref (a0 0)), (2, .int x2), (3, .int x3)] → F_Mod_reckon_12 n x2 x3 o0 = some (r, n0) → W p l e (headSpec ws_Mod_reckon rm_Mod_reckon).room s m args below meth c H locs 0 0 (MQ below (bw_Q (dC, dI) vwCl (some (.int r)) [wMod ct a0 n0] A) args s 0 0 A) (F0 m 12 ls []) := by
  obtain ⟨hx, hb, hr, hml, hown, hlocks, hts, hK, hN, hA, hnx⟩ := id C0
  intro n
  induction n with
  | zero =>
    intro x2 x3 o0 H locs ls hP hS hl h
    cases h
  | succ n ih =>
    intro x2 x3 o0 H locs ls hP hS hl h
    rw [F_Mod_reckon_12] at h
    refine lv_iload_n hx hb d_Mod_reckon_12 rfl (lv_at hl 2 rfl) ?_
    refine lv_iload_n hx hb d_Mod_reckon_13 rfl (lv_at hl 1 rfl) ?_
    refine lv_icmp_ge (tgt := 199) hx hb d_Mod_reckon_14 (by decide) (fun c1 => ?_) (fun c1 => ?_)
    · have h := ite_t c1 h
      refine lv_iload_n hx hb d_Mod_reckon_199 rfl (lv_at hl 2 rfl) ?_
      obtain ⟨rfl, rfl⟩ := res2 h
      exact W.iret hx hb hr (fun t ht hW => ⟨rfl, by rw [ht]; exact hP, hS.F ht⟩) hS.2.2 d_Mod_reckon_200
    · have h := ite_f c1 h
      refine lv_aload_n hx hb d_Mod_reckon_17 rfl (lv_at hl 0 rfl) ?_
      refine va_get (D := (dC, dI)) (ci := 6) (v := .ref (a0 2)) (C := R_Mod) (T := T_Mod) (N := 36) hx hb hts in_Mod hown hK (hP 0 _ rfl) 0 rfl rfl 5 (by decide) (hts _ fl_Mod_13) (fun _ h9 => h9) rfl d_Mod_reckon_18 ?_
      refine lv_iload_n hx hb d_Mod_reckon_21 rfl (lv_at hl 2 rfl) ?_
      obtain ⟨hi2, h⟩ := chk_some h
      refine va_iald (f := g32 o0 5) hx hb hK (hP 0 _ rfl) 2 0 rfl rfl (inb_in hi2) d_Mod_reckon_22 ?_
      refine lv_bipush (v := 9) hx hb d_Mod_reckon_23 (by decide) ?_
      refine lv_icmp_eq (tgt := 199) hx hb d_Mod_reckon_25 (by decide) (fun c3 => ?_) (fun c3 => ?_)
      · have h := ite_t c3 h
        refine lv_iload_n hx hb d_Mod_reckon_199 rfl (lv_at hl 2 rfl) ?_
        obtain ⟨rfl, rfl⟩ := res2 h
        exact W.iret hx hb hr (fun t ht hW => ⟨rfl, by rw [ht]; exact hP, hS.F ht⟩) hS.2.2 d_Mod_reckon_200
      · have h := ite_f c3 h
        refine lv_aload_n hx hb d_Mod_reckon_28 rfl (lv_at hl 0 rfl) ?_
        refine va_get (D := (dC, dI)) (ci := 6) (v := .ref (a0 2)) (C := R_Mod) (T := T_Mod) (N := 36) hx hb hts in_Mod hown hK (hP 0 _ rfl) 0 rfl rfl 5 (by decide) (hts _ fl_Mod_13) (fun _ h9 => h9) rfl d_Mod_reckon_29 ?_
        refine lv_iload_n hx hb d_Mod_reckon_32 rfl (lv_at hl 2 rfl) ?_
        refine va_iald (f := g32 o0 5) hx hb hK (hP 0 _ rfl) 2 0 rfl rfl (inb_in hi2) d_Mod_reckon_33 ?_
        refine lv_bipush (v := 10) hx hb d_Mod_reckon_34 (by decide) ?_
        refine lv_icmp_eq (tgt := 199) hx hb d_Mod_reckon_36 (by decide) (fun c5 => ?_) (fun c5 => ?_)
        · have h := ite_t c5 h
          refine lv_iload_n hx hb d_Mod_reckon_199 rfl (lv_at hl 2 rfl) ?_
          obtain ⟨rfl, rfl⟩ := res2 h
          exact W.iret hx hb hr (fun t ht hW => ⟨rfl, by rw [ht]; exact hP, hS.F ht⟩) hS.2.2 d_Mod_reckon_200
        · have h := ite_f c5 h
          refine lv_aload_n hx hb d_Mod_reckon_39 rfl (lv_at hl 0 rfl) ?_
          refine va_get (D := (dC, dI)) (ci := 6) (v := .int (g32 o0 31 0)) (C := R_Mod) (T := T_Mod) (N := 36) hx hb hts in_Mod hown hK (hP 0 _ rfl) 0 rfl rfl 31 (by decide) (hts _ fl_Mod_195) (fun _ h9 => h9) rfl d_Mod_reckon_40 ?_
          refine lv_if_ne (tgt := 199) hx hb d_Mod_reckon_43 (by decide) (fun c6 => ?_) (fun c6 => ?_)
          · have h := ite_f c6 h
            refine lv_iload_n hx hb d_Mod_reckon_199 rfl (lv_at hl 2 rfl) ?_
            obtain ⟨rfl, rfl⟩ := res2 h
            exact W.iret hx hb hr (fun t ht hW => ⟨rfl, by rw [ht]; exact hP, hS.F ht⟩) hS.2.2 d_Mod_reckon_200
          · have h := ite_t c6 h
            refine lv_aload_n hx hb d_Mod_reckon_46 rfl (lv_at hl 0 rfl) ?_
            refine va_get (D := (dC, dI)) (ci := 6) (v := .ref (a0 2)) (C := R_Mod) (T := T_Mod) (N := 36) hx hb hts in_Mod hown hK (hP 0 _ rfl) 0 rfl rfl 5 (by decide) (hts _ fl_Mod_13) (fun _ h9 => h9) rfl d_Mod_reckon_47 ?_
            refine lv_iload_n hx hb d_Mod_reckon_50 rfl (lv_at hl 2 rfl) ?_
            refine va_iald (f := g32 o0 5) hx hb hK (hP 0 _ rfl) 2 0 rfl rfl (inb_in hi2) d_Mod_reckon_51 ?_
            refine lv_istore (lv' := [(4, .int (g32 o0 5 (Int32.toNatClampNeg x3))), (0, .ref (a0 0)), (2, .int x2), (3, .int x3)]) hx hb d_Mod_reckon_52 hl (by decide) rfl (fun ls hl => ?_)
            refine lv_iload hx hb d_Mod_reckon_54 (lv_at hl 0 rfl) ?_
            refine lv_iconst (v := 1) hx hb d_Mod_reckon_56 (by decide) ?_
            refine lv_icmp_ne (tgt := 77) hx hb d_Mod_reckon_57 (by decide) (fun c8 => ?_) (fun c8 => ?_)
            · have h := ite_f c8 h
              refine lv_iload hx hb d_Mod_reckon_77 (lv_at hl 0 rfl) ?_
              refine lv_iconst (v := 2) hx hb d_Mod_reckon_79 (by decide) ?_
              refine lv_icmp_ne (tgt := 136) hx hb d_Mod_reckon_80 (by decide) (fun c9 => ?_) (fun c9 => ?_)
              · have h := ite_f c9 h
                refine lv_iload hx hb d_Mod_reckon_136 (lv_at hl 0 rfl) ?_
                refine lv_iconst (v := 3) hx hb d_Mod_reckon_138 (by decide) ?_
                refine lv_icmp_ne (tgt := 155) hx hb d_Mod_reckon_139 (by decide) (fun c10 => ?_) (fun c10 => ?_)
                · have h := ite_f c10 h
                  refine lv_iload hx hb d_Mod_reckon_155 (lv_at hl 0 rfl) ?_
                  refine lv_iconst (v := 4) hx hb d_Mod_reckon_157 (by decide) ?_
                  refine lv_icmp_ne (tgt := 187) hx hb d_Mod_reckon_158 (by decide) (fun c11 => ?_) (fun c11 => ?_)
                  · have h := ite_f c11 h
                    refine lv_aload_n hx hb d_Mod_reckon_187 rfl (lv_at hl 1 rfl) ?_
                    refine lv_iload hx hb d_Mod_reckon_188 (lv_at hl 0 rfl) ?_
                    obtain ⟨o_13, hG12, h⟩ := bind1_some h
                    refine bw_call (Lc := [wMod ct a0 o0]) (Lc' := [wMod ct a0 o_13]) (L' := [wMod ct a0 o_13]) [0] (va_runV (As := [.int (g32 o0 5 (Int32.toNatClampNeg x3))]) (rest := []) ⟨hx, hb, hml, hown, hts⟩ (c_Mod_between l ct dC dI a0 _ (g32 o0 5 (Int32.toNatClampNeg x3)) o0 o_13 hG12) (cwV 1 hts g_Mod_210 rfl rfl rfl (by decide +kernel) ⟨Nat.le_of_ble_eq_true rfl, Nat.le_of_ble_eq_true rfl⟩) ⟨bw_blind nx_call, va_recv hK (hP 0 _ rfl) (ci := 6) (q0 := 0) rfl rfl, fun U hU hW => ⟨rfl, by rw [hU], by rw [hU]; exact hP.sub [0] rfl, va_K.moved hW.alike hK, (hN.sub [0] (by decide) rfl).weaken (fun _ _ => trivial), nx_warm hW hnx⟩⟩ rfl rfl hl.1 rfl (Nat.le_of_ble_eq_true rfl) d_Mod_reckon_190 ⟨Nat.le_of_ble_eq_true rfl, Nat.le_of_ble_eq_true rfl⟩) hP hN hS hA rfl rfl rfl (fun H locs hP hS => ?_)
                    refine lv_iinc (v := (x3 + (1 : Int32))) (lv' := [(3, .int (x3 + (1 : Int32))), (4, .int (g32 o0 5 (Int32.toNatClampNeg x3))), (0, .ref (a0 0)), (2, .int x2)]) hx hb d_Mod_reckon_193 hl (k := 3) rfl rfl (by decide) rfl (fun ls hl => ?_)
                    refine lv_goto (tgt := 12) hx hb d_Mod_reckon_196 (by decide) ?_
                    exact ih x2 (x3 + (1 : Int32)) o_13 _ _ _ hP hS (lv_sub hl [2, 3, 0] rfl) h
                  · have h := ite_t c11 h
                    refine lv_aload_n hx hb d_Mod_reckon_161 rfl (lv_at hl 1 rfl) ?_
                    refine va_get (D := (dC, dI)) (ci := 6) (v := .ref (a0 20)) (C := R_Mod) (T := T_Mod) (N := 36) hx hb hts in_Mod hown hK (hP 0 _ rfl) 0 rfl rfl 28 (by decide) (hts _ fl_Mod_69) (fun _ h9 => h9) rfl d_Mod_reckon_162 ?_
                    refine lv_aload_n hx hb d_Mod_reckon_165 rfl (lv_at hl 1 rfl) ?_
                    refine va_get (D := (dC, dI)) (ci := 6) (v := .int (g32 o0 30 0)) (C := R_Mod) (T := T_Mod) (N := 36) hx hb hts in_Mod hown hK (hP 0 _ rfl) 0 rfl rfl 30 (by decide) (hts _ fl_Mod_198) (fun _ h9 => h9) rfl d_Mod_reckon_166 ?_
                    refine lv_iconst (v := 1) hx hb d_Mod_reckon_169 (by decide) ?_
                    refine lv_isub hx hb d_Mod_reckon_170 ?_
                    refine lv_aload_n hx hb d_Mod_reckon_171 rfl (lv_at hl 1 rfl) ?_
                    refine va_get (D := (dC, dI)) (ci := 6) (v := .ref (a0 20)) (C := R_Mod) (T := T_Mod) (N := 36) hx hb hts in_Mod hown hK (hP 0 _ rfl) 0 rfl rfl 28 (by decide) (hts _ fl_Mod_69) (fun _ h9 => h9) rfl d_Mod_reckon_172 ?_
                    refine lv_aload_n hx hb d_Mod_reckon_175 rfl (lv_at hl 1 rfl) ?_
                    refine va_get (D := (dC, dI)) (ci := 6) (v := .int (g32 o0 30 0)) (C := R_Mod) (T := T_Mod) (N := 36) hx hb hts in_Mod hown hK (hP 0 _ rfl) 0 rfl rfl 30 (by decide) (hts _ fl_Mod_198) (fun _ h9 => h9) rfl d_Mod_reckon_176 ?_
                    refine lv_iconst (v := 1) hx hb d_Mod_reckon_179 (by decide) ?_
                    refine lv_isub hx hb d_Mod_reckon_180 ?_
                    obtain ⟨hi14, h⟩ := chk_some h
                    refine va_lald (f := g64 o0 28) hx hb hK (hP 0 _ rfl) 20 1 rfl rfl (inb_in hi14) d_Mod_reckon_181 ?_
                    refine lv_lneg hx hb d_Mod_reckon_182 ?_
                    refine st_Mod_28 hx hb hK hP hN hS 0 rfl (inb_in hi14) d_Mod_reckon_183 (fun H locs hP hS => ?_)
                    have hP : bw_P (dC, dI) vwCl [wMod ct a0 (s64 o0 28 (Int32.toNatClampNeg ((g32 o0 30 0) - (1 : Int32))) (-(g64 o0 28 (Int32.toNatClampNeg ((g32 o0 30 0) - (1 : Int32))))))] H := hP
                    refine lv_goto (tgt := 193) hx hb d_Mod_reckon_184 (by decide) ?_
                    refine lv_iinc (v := (x3 + (1 : Int32))) (lv' := [(3, .int (x3 + (1 : Int32))), (4, .int (g32 o0 5 (Int32.toNatClampNeg x3))), (0, .ref (a0 0)), (2, .int x2)]) hx hb d_Mod_reckon_193 hl (k := 3) rfl rfl (by decide) rfl (fun ls hl => ?_)
                    refine lv_goto (tgt := 12) hx hb d_Mod_reckon_196 (by decide) ?_
                    exact ih x2 (x3 + (1 : Int32)) (s64 o0 28 (Int32.toNatClampNeg ((g32 o0 30 0) - (1 : Int32))) (-(g64 o0 28 (Int32.toNatClampNeg ((g32 o0 30 0) - (1 : Int32)))))) _ _ _ hP hS (lv_sub hl [2, 3, 0] rfl) h
                · have h := ite_t c10 h
                  refine lv_aload_n hx hb d_Mod_reckon_142 rfl (lv_at hl 1 rfl) ?_
                  refine lv_aload_n hx hb d_Mod_reckon_143 rfl (lv_at hl 1 rfl) ?_
                  refine va_get (D := (dC, dI)) (ci := 6) (v := .ref (a0 3)) (C := R_Mod) (T := T_Mod) (N := 36) hx hb hts in_Mod hown hK (hP 0 _ rfl) 0 rfl rfl 6 (by decide) (hts _ fl_Mod_16) (fun _ h9 => h9) rfl d_Mod_reckon_144 ?_
                  refine lv_iload_n hx hb d_Mod_reckon_147 rfl (lv_at hl 3 rfl) ?_
                  refine va_iald (f := g32 o0 6) hx hb hK (hP 0 _ rfl) 3 0 rfl rfl (inb_in hi2) d_Mod_reckon_148 ?_
                  obtain ⟨o_18, hG17, h⟩ := bind1_some h
                  refine bw_call (Lc := [wMod ct a0 o0]) (Lc' := [wMod ct a0 o_18]) (L' := [wMod ct a0 o_18]) [0] (va_runV (As := [.int (g32 o0 6 (Int32.toNatClampNeg x3))]) (rest := []) ⟨hx, hb, hml, hown, hts⟩ (c_Mod_pushCell l ct dC dI a0 _ (g32 o0 6 (Int32.toNatClampNeg x3)) o0 o_18 hG17) (cwV 1 hts g_Mod_207 rfl rfl rfl (by decide +kernel) ⟨Nat.le_of_ble_eq_true rfl, Nat.le_of_ble_eq_true rfl⟩) ⟨bw_blind nx_call, va_recv hK (hP 0 _ rfl) (ci := 6) (q0 := 0) rfl rfl, fun U hU hW => ⟨rfl, by rw [hU], by rw [hU]; exact hP.sub [0] rfl, va_K.moved hW.alike hK, (hN.sub [0] (by decide) rfl).weaken (fun _ _ => trivial), nx_warm hW hnx⟩⟩ rfl rfl hl.1 rfl (Nat.le_of_ble_eq_true rfl) d_Mod_reckon_149 ⟨Nat.le_of_ble_eq_true rfl, Nat.le_of_ble_eq_true rfl⟩) hP hN hS hA rfl rfl rfl (fun H locs hP hS => ?_)
                  refine lv_goto (tgt := 193) hx hb d_Mod_reckon_152 (by decide) ?_
                  refine lv_iinc (v := (x3 + (1 : Int32))) (lv' := [(3, .int (x3 + (1 : Int32))), (4, .int (g32 o0 5 (Int32.toNatClampNeg x3))), (0, .ref (a0 0)), (2, .int x2)]) hx hb d_Mod_reckon_193 hl (k := 3) rfl rfl (by decide) rfl (fun ls hl => ?_)
                  refine lv_goto (tgt := 12) hx hb d_Mod_reckon_196 (by decide) ?_
                  exact ih x2 (x3 + (1 : Int32)) o_18 _ _ _ hP hS (lv_sub hl [2, 3, 0] rfl) h
              · have h := ite_t c9 h
                refine lv_aload_n hx hb d_Mod_reckon_83 rfl (lv_at hl 1 rfl) ?_
                refine va_get (D := (dC, dI)) (ci := 6) (v := .ref (a0 20)) (C := R_Mod) (T := T_Mod) (N := 36) hx hb hts in_Mod hown hK (hP 0 _ rfl) 0 rfl rfl 28 (by decide) (hts _ fl_Mod_69) (fun _ h9 => h9) rfl d_Mod_reckon_84 ?_
                refine lv_aload_n hx hb d_Mod_reckon_87 rfl (lv_at hl 1 rfl) ?_
                refine va_get (D := (dC, dI)) (ci := 6) (v := .int (g32 o0 30 0)) (C := R_Mod) (T := T_Mod) (N := 36) hx hb hts in_Mod hown hK (hP 0 _ rfl) 0 rfl rfl 30 (by decide) (hts _ fl_Mod_198) (fun _ h9 => h9) rfl d_Mod_reckon_88 ?_
                refine lv_aload_n hx hb d_Mod_reckon_91 rfl (lv_at hl 1 rfl) ?_
                refine va_get (D := (dC, dI)) (ci := 6) (v := .ref (a0 9)) (C := R_Mod) (T := T_Mod) (N := 36) hx hb hts in_Mod hown hK (hP 0 _ rfl) 0 rfl rfl 15 (by decide) (hts _ fl_Mod_34) (fun _ h9 => h9) rfl d_Mod_reckon_92 ?_
                refine lv_aload_n hx hb d_Mod_reckon_95 rfl (lv_at hl 1 rfl) ?_
                refine va_get (D := (dC, dI)) (ci := 6) (v := .ref (a0 3)) (C := R_Mod) (T := T_Mod) (N := 36) hx hb hts in_Mod hown hK (hP 0 _ rfl) 0 rfl rfl 6 (by decide) (hts _ fl_Mod_16) (fun _ h9 => h9) rfl d_Mod_reckon_96 ?_
                refine lv_iload_n hx hb d_Mod_reckon_99 rfl (lv_at hl 3 rfl) ?_
                refine va_iald (f := g32 o0 6) hx hb hK (hP 0 _ rfl) 3 0 rfl rfl (inb_in hi2) d_Mod_reckon_100 ?_
                obtain ⟨hi20, h⟩ := chk_some h
                refine va_lald (f := g64 o0 15) hx hb hK (hP 0 _ rfl) 9 1 rfl rfl (inb_in hi20) d_Mod_reckon_101 ?_
                obtain ⟨hi21, h⟩ := chk_some h
                refine st_Mod_28 hx hb hK hP hN hS 0 rfl (inb_in hi21) d_Mod_reckon_102 (fun H locs hP hS => ?_)
                have hP : bw_P (dC, dI) vwCl [wMod ct a0 (s64 o0 28 (Int32.toNatClampNeg (g32 o0 30 0)) (g64 o0 15 (Int32.toNatClampNeg (g32 o0 6 (Int32.toNatClampNeg x3)))))] H := hP
                refine lv_aload_n hx hb d_Mod_reckon_103 rfl (lv_at hl 1 rfl) ?_
                refine va_get (D := (dC, dI)) (ci := 6) (v := .ref (a0 21)) (C := R_Mod) (T := T_Mod) (N := 36) hx hb hts in_Mod hown hK (hP 0 _ rfl) 0 rfl rfl 29 (by decide) (hts _ fl_Mod_72) (fun _ h9 => h9) rfl d_Mod_reckon_104 ?_
                refine lv_aload_n hx hb d_Mod_reckon_107 rfl (lv_at hl 1 rfl) ?_
                refine va_get (D := (dC, dI)) (ci := 6) (v := .int (g32 o0 30 0)) (C := R_Mod) (T := T_Mod) (N := 36) hx hb hts in_Mod hown hK (hP 0 _ rfl) 0 rfl rfl 30 (by decide) (hts _ fl_Mod_198) (fun _ h9 => h9) rfl d_Mod_reckon_108 ?_
                refine lv_aload_n hx hb d_Mod_reckon_111 rfl (lv_at hl 1 rfl) ?_
                refine va_get (D := (dC, dI)) (ci := 6) (v := .ref (a0 10)) (C := R_Mod) (T := T_Mod) (N := 36) hx hb hts in_Mod hown hK (hP 0 _ rfl) 0 rfl rfl 16 (by decide) (hts _ fl_Mod_38) (fun _ h9 => h9) rfl d_Mod_reckon_112 ?_
                refine lv_aload_n hx hb d_Mod_reckon_115 rfl (lv_at hl 1 rfl) ?_
                refine va_get (D := (dC, dI)) (ci := 6) (v := .ref (a0 3)) (C := R_Mod) (T := T_Mod) (N := 36) hx hb hts in_Mod hown hK (hP 0 _ rfl) 0 rfl rfl 6 (by decide) (hts _ fl_Mod_16) (fun _ h9 => h9) rfl d_Mod_reckon_116 ?_
                refine lv_iload_n hx hb d_Mod_reckon_119 rfl (lv_at hl 3 rfl) ?_
                refine va_iald (f := g32 o0 6) hx hb hK (hP 0 _ rfl) 3 0 rfl rfl (inb_in hi2) d_Mod_reckon_120 ?_
                refine va_lald (f := g64 o0 16) hx hb hK (hP 0 _ rfl) 10 1 rfl rfl (inb_in hi20) d_Mod_reckon_121 ?_
                refine st_Mod_29 hx hb hK hP hN hS 0 rfl (inb_in hi21) d_Mod_reckon_122 (fun H locs hP hS => ?_)
                have hP : bw_P (dC, dI) vwCl [wMod ct a0 (s64 (s64 o0 28 (Int32.toNatClampNeg (g32 o0 30 0)) (g64 o0 15 (Int32.toNatClampNeg (g32 o0 6 (Int32.toNatClampNeg x3))))) 29 (Int32.toNatClampNeg (g32 o0 30 0)) (g64 o0 16 (Int32.toNatClampNeg (g32 o0 6 (Int32.toNatClampNeg x3)))))] H := hP
                refine lv_aload_n hx hb d_Mod_reckon_123 rfl (lv_at hl 1 rfl) ?_
                refine lv_dup hx hb d_Mod_reckon_124 rfl ?_
                refine va_get (D := (dC, dI)) (ci := 6) (v := .int (g32 o0 30 0)) (C := R_Mod) (T := T_Mod) (N := 36) hx hb hts in_Mod hown hK (hP 0 _ rfl) 0 rfl rfl 30 (by decide) (hts _ fl_Mod_198) (fun _ h9 => h9) rfl d_Mod_reckon_125 ?_
                refine lv_iconst (v := 1) hx hb d_Mod_reckon_128 (by decide) ?_
                refine lv_iadd hx hb d_Mod_reckon_129 ?_
                refine pt_Mod_30 hx hb hts hown hK hP hN hS 0 rfl (hts _ fl_Mod_198) d_Mod_reckon_130 (fun H locs hP hS => ?_)
                have hP : bw_P (dC, dI) vwCl [wMod ct a0 (s32 (s64 (s64 o0 28 (Int32.toNatClampNeg (g32 o0 30 0)) (g64 o0 15 (Int32.toNatClampNeg (g32 o0 6 (Int32.toNatClampNeg x3))))) 29 (Int32.toNatClampNeg (g32 o0 30 0)) (g64 o0 16 (Int32.toNatClampNeg (g32 o0 6 (Int32.toNatClampNeg x3))))) 30 0 ((g32 o0 30 0) + (1 : Int32)))] H := hP
                refine lv_goto (tgt := 193) hx hb d_Mod_reckon_133 (by decide) ?_
                refine lv_iinc (v := (x3 + (1 : Int32))) (lv' := [(3, .int (x3 + (1 : Int32))), (4, .int (g32 o0 5 (Int32.toNatClampNeg x3))), (0, .ref (a0 0)), (2, .int x2)]) hx hb d_Mod_reckon_193 hl (k := 3) rfl rfl (by decide) rfl (fun ls hl => ?_)
                refine lv_goto (tgt := 12) hx hb d_Mod_reckon_196 (by decide) ?_
                exact ih x2 (x3 + (1 : Int32)) (s32 (s64 (s64 o0 28 (Int32.toNatClampNeg (g32 o0 30 0)) (g64 o0 15 (Int32.toNatClampNeg (g32 o0 6 (Int32.toNatClampNeg x3))))) 29 (Int32.toNatClampNeg (g32 o0 30 0)) (g64 o0 16 (Int32.toNatClampNeg (g32 o0 6 (Int32.toNatClampNeg x3))))) 30 0 ((g32 o0 30 0) + (1 : Int32))) _ _ _ hP hS (lv_sub hl [2, 3, 0] rfl) h
            · have h := ite_t c8 h
              refine lv_aload_n hx hb d_Mod_reckon_60 rfl (lv_at hl 1 rfl) ?_
              refine lv_aload_n hx hb d_Mod_reckon_61 rfl (lv_at hl 1 rfl) ?_
              refine va_get (D := (dC, dI)) (ci := 6) (v := .ref (a0 3)) (C := R_Mod) (T := T_Mod) (N := 36) hx hb hts in_Mod hown hK (hP 0 _ rfl) 0 rfl rfl 6 (by decide) (hts _ fl_Mod_16) (fun _ h9 => h9) rfl d_Mod_reckon_62 ?_
              refine lv_iload_n hx hb d_Mod_reckon_65 rfl (lv_at hl 3 rfl) ?_
              refine va_iald (f := g32 o0 6) hx hb hK (hP 0 _ rfl) 3 0 rfl rfl (inb_in hi2) d_Mod_reckon_66 ?_
              refine lv_i2l (v := (Int32.toInt64 (g32 o0 6 (Int32.toNatClampNeg x3)))) hx hb d_Mod_reckon_67 rfl ?_
              refine lv_ldc2 (v := 1000) hx hb hown (hts _ cn_Mod_205) d_Mod_reckon_68 ?_
              obtain ⟨o_27, hG26, h⟩ := bind1_some h
              refine bw_call (Lc := [wMod ct a0 o0]) (Lc' := [wMod ct a0 o_27]) (L' := [wMod ct a0 o_27]) [0] (va_runV (As := [.long (Int32.toInt64 (g32 o0 6 (Int32.toNatClampNeg x3))), .long (1000 : Int64)]) (rest := []) ⟨hx, hb, hml, hown, hts⟩ (c_Mod_put l ct dC dI a0 _ (Int32.toInt64 (g32 o0 6 (Int32.toNatClampNeg x3))) (1000 : Int64) o0 o_27 hG26) (cwV 2 hts g_Mod_201 rfl rfl rfl (by decide +kernel) ⟨Nat.le_of_ble_eq_true rfl, Nat.le_of_ble_eq_true rfl⟩) ⟨bw_blind nx_call, va_recv hK (hP 0 _ rfl) (ci := 6) (q0 := 0) rfl rfl, fun U hU hW => ⟨rfl, by rw [hU], by rw [hU]; exact hP.sub [0] rfl, va_K.moved hW.alike hK, (hN.sub [0] (by decide) rfl).weaken (fun _ _ => trivial), nx_warm hW hnx⟩⟩ rfl rfl hl.1 rfl (Nat.le_of_ble_eq_true rfl) d_Mod_reckon_71 ⟨Nat.le_of_ble_eq_true rfl, Nat.le_of_ble_eq_true rfl⟩) hP hN hS hA rfl rfl rfl (fun H locs hP hS => ?_)
              refine lv_goto (tgt := 193) hx hb d_Mod_reckon_74 (by decide) ?_
              refine lv_iinc (v := (x3 + (1 : Int32))) (lv' := [(3, .int (x3 + (1 : Int32))), (4, .int (g32 o0 5 (Int32.toNatClampNeg x3))), (0, .ref (a0 0)), (2, .int x2)]) hx hb d_Mod_reckon_193 hl (k := 3) rfl rfl (by decide) rfl (fun ls hl => ?_)
              refine lv_goto (tgt := 12) hx hb d_Mod_reckon_196 (by decide) ?_
              exact ih x2 (x3 + (1 : Int32)) o_27 _ _ _ hP hS (lv_sub hl [2, 3, 0] rfl) h
set_option maxHeartbeats 4000000 in
set_option maxRecDepth 100000 in
theorem c_Mod_reckon (l : Launch) (ct dC : Nat → ClassId) (dI : Nat → Nat → Nat) (a0 : Nat → Nat)  (sz : Nat) (x1 : Int32) (x2 : Int32) (o0 : Ob) (r : Int32) (n0 : Ob) (hF : F_Mod_reckon x1 x2 o0 = some (r, n0)) : Met l y_Mod_reckon ws_Mod_reckon rm_Mod_reckon (bw_Pc [.ref (a0 0), .int x1, .int x2] (dC, dI) vwCl (tyA ct) [wMod ct a0 o0] sz nx) (bw_Q (dC, dI) vwCl (some (.int r)) [wMod ct a0 n0] (bw_A [adMod a0] sz)) 0 0 (bw_A [adMod a0] sz) := by
  refine Met.ofW (cc := b_Mod_reckon) (maxL := 5) (ret := (some .int)) (by decide) rfl ?_
  intro p e s m args below meth c s₁ B hml hv
  obtain ⟨rfl, hsz, hP, hK, hN0, hnx⟩ := hv
  have hx := B.exec
  have hb := B.bytes
  have hr := B.returns
  have hts : ∀ w ∈ wsAll, w.before [.ref (a0 0), .int x1, .int x2].toArray s = true := fun w h9 => atoms_spec (ws := ws_Mod_reckon) B.pre w (List.mem_cons_of_mem _ h9)
  have hown : s.vm.findClass R_Mod = some m.cls := findClass_of_methodNamed B.named
  have hlocks := B.notSynchronized
  subst hsz
  have hN : bw_N (bw_A [adMod a0] s.heap.size) [adMod a0] := hN0.self s.heap.size
  generalize hAe : bw_A [adMod a0] s.heap.size = A at hN ⊢
  have hA : ∀ q : Nat, s.heap.size ≤ q → A q := fun q h => by rw [← hAe]; exact Or.inr h
  have hS : va_S A s.heap s.heap [] := va_S.rf
  have hl := lv_entry ([.ref (a0 0), .int x1, .int x2]) (n := 5) (Nat.le_of_ble_eq_true rfl)
  rw [lg_entry_eq]
  generalize (lg_sl ([.ref (a0 0), .int x1, .int x2]) ++ List.replicate (5 - (lg_sl ([.ref (a0 0), .int x1, .int x2])).length) Slot.unset).toArray = ls at hl ⊢
  have hl : lv_has ls 5 [(0, .ref (a0 0)), (1, .int x1), (2, .int x2)] := hl
  have C0 : cx wsAll vwCl nx p s m [.ref (a0 0), .int x1, .int x2].toArray meth c (dC, dI) (tyA ct) b_Mod_reckon 5 (some .int) R_Mod A [adMod a0] := ⟨hx, hb, hr, hml, hown, hlocks, hts, hK, hN, hA, hnx⟩
  have h := hF
  rw [F_Mod_reckon] at h
  refine lv_aload_n hx hb d_Mod_reckon_0 rfl (lv_at hl 0 rfl) ?_
  refine lv_iconst (v := 0) hx hb d_Mod_reckon_1 (by decide) ?_
  refine pt_Mod_30 hx hb hts hown hK hP hN hS 0 rfl (hts _ fl_Mod_198) d_Mod_reckon_2 (fun H locs hP hS => ?_)
  have hP : bw_P (dC, dI) vwCl [wMod ct a0 (s32 o0 30 0 (0 : Int32))] H := hP
  refine lv_aload_n hx hb d_Mod_reckon_5 rfl (lv_at hl 0 rfl) ?_
  refine lv_iconst (v := 0) hx hb d_Mod_reckon_6 (by decide) ?_
  refine pt_Mod_31 hx hb hts hown hK hP hN hS 0 rfl (hts _ fl_Mod_195) d_Mod_reckon_7 (fun H locs hP hS => ?_)
  have hP : bw_P (dC, dI) vwCl [wMod ct a0 (s32 (s32 o0 30 0 (0 : Int32)) 31 0 (0 : Int32))] H := hP
  refine lv_iload_n hx hb d_Mod_reckon_10 rfl (lv_at hl 1 rfl) ?_
  refine lv_istore_n (lv' := [(3, .int x1), (0, .ref (a0 0)), (1, .int x1), (2, .int x2)]) hx hb d_Mod_reckon_11 rfl hl (by decide) rfl (fun ls hl => ?_)
  exact k_Mod_reckon_12 C0 fuel x2 x1 (s32 (s32 o0 30 0 (0 : Int32)) 31 0 (0 : Int32)) _ _ _ hP hS (lv_sub hl [1, 3, 0] rfl) h
def F_Mod_compares (x1 : Int32) (o0 : Ob) : Option (Bool) :=
  chk (inb (0 : Int32) 420) (chk (inb (1 : Int32) 420) (if x1 = (60 : Int32) then (if 0 ≤ (lg_cmp ((g64 o0 28 (Int32.toNatClampNeg (0 : Int32))) * (g64 o0 29 (Int32.toNatClampNeg (1 : Int32)))) ((g64 o0 28 (Int32.toNatClampNeg (1 : Int32))) * (g64 o0 29 (Int32.toNatClampNeg (0 : Int32))))) then (some false) else (some true)) else (if x1 = (62 : Int32) then (if (lg_cmp ((g64 o0 28 (Int32.toNatClampNeg (0 : Int32))) * (g64 o0 29 (Int32.toNatClampNeg (1 : Int32)))) ((g64 o0 28 (Int32.toNatClampNeg (1 : Int32))) * (g64 o0 29 (Int32.toNatClampNeg (0 : Int32))))) ≤ 0 then (some false) else (some true)) else (if (lg_cmp ((g64 o0 28 (Int32.toNatClampNeg (0 : Int32))) * (g64 o0 29 (Int32.toNatClampNeg (1 : Int32)))) ((g64 o0 28 (Int32.toNatClampNeg (1 : Int32))) * (g64 o0 29 (Int32.toNatClampNeg (0 : Int32))))) = 0 then (some true) else (some false)))))
abbrev ws_Mod_compares : List Cond := Cond.code y_Mod_compares b_Mod_compares 6 (some .boolean) :: wsAll
abbrev rm_Mod_compares : Room := { frames := 0, cells := 0, slots := 0, locals := 0 }
set_option maxHeartbeats 4000000 in
set_option maxRecDepth 100000 in
theorem c_Mod_compares (l : Launch) (ct dC : Nat → ClassId) (dI : Nat → Nat → Nat) (a0 : Nat → Nat)  (sz : Nat) (x1 : Int32) (o0 : Ob) (r : Bool) (hF : F_Mod_compares x1 o0 = some r) : Met l y_Mod_compares ws_Mod_compares rm_Mod_compares (bw_Pc [.ref (a0 0), .int x1] (dC, dI) vwCl (tyA ct) [wMod ct a0 o0] sz nx) (bw_QR (some (.int (b2i r)))) 0 0 (fun _ => False) := by
  refine Met.ofW (cc := b_Mod_compares) (maxL := 6) (ret := (some .boolean)) (by decide) rfl ?_
  intro p e s m args below meth c s₁ B hml hv
  obtain ⟨rfl, hsz, hP, hK, hN0, hnx⟩ := hv
  have hx := B.exec
  have hb := B.bytes
  have hr := B.returns
  have hts : ∀ w ∈ wsAll, w.before [.ref (a0 0), .int x1].toArray s = true := fun w h9 => atoms_spec (ws := ws_Mod_compares) B.pre w (List.mem_cons_of_mem _ h9)
  have hown : s.vm.findClass R_Mod = some m.cls := findClass_of_methodNamed B.named
  have hlocks := B.notSynchronized
  subst hsz
  have hN : bw_N (fun _ => True) [adMod a0] := hN0
  generalize hAe : (fun _ : Nat => True) = A at hN
  have hA : ∀ q : Nat, s.heap.size ≤ q → A q := fun q _ => by rw [← hAe]; trivial
  have hS : s.heap = s.heap ∧ ([] : List Loc) = [] := ⟨rfl, rfl⟩
  have hl := lv_entry ([.ref (a0 0), .int x1]) (n := 6) (Nat.le_of_ble_eq_true rfl)
  rw [lg_entry_eq]
  generalize (lg_sl ([.ref (a0 0), .int x1]) ++ List.replicate (6 - (lg_sl ([.ref (a0 0), .int x1])).length) Slot.unset).toArray = ls at hl ⊢
  have hl : lv_has ls 6 [(0, .ref (a0 0)), (1, .int x1)] := hl
  have C0 : cx wsAll vwCl nx p s m [.ref (a0 0), .int x1].toArray meth c (dC, dI) (tyA ct) b_Mod_compares 6 (some .boolean) R_Mod A [adMod a0] := ⟨hx, hb, hr, hml, hown, hlocks, hts, hK, hN, hA, hnx⟩
  have h := hF
  rw [F_Mod_compares] at h
  refine lv_aload_n hx hb d_Mod_compares_0 rfl (lv_at hl 0 rfl) ?_
  refine va_get (D := (dC, dI)) (ci := 6) (v := .ref (a0 20)) (C := R_Mod) (T := T_Mod) (N := 36) hx hb hts in_Mod hown hK (hP 0 _ rfl) 0 rfl rfl 28 (by decide) (hts _ fl_Mod_69) (fun _ h9 => h9) rfl d_Mod_compares_1 ?_
  refine lv_iconst (v := 0) hx hb d_Mod_compares_4 (by decide) ?_
  obtain ⟨hi1, h⟩ := chk_some h
  refine va_lald (f := g64 o0 28) hx hb hK (hP 0 _ rfl) 20 1 rfl rfl (inb_in hi1) d_Mod_compares_5 ?_
  refine lv_aload_n hx hb d_Mod_compares_6 rfl (lv_at hl 0 rfl) ?_
  refine va_get (D := (dC, dI)) (ci := 6) (v := .ref (a0 21)) (C := R_Mod) (T := T_Mod) (N := 36) hx hb hts in_Mod hown hK (hP 0 _ rfl) 0 rfl rfl 29 (by decide) (hts _ fl_Mod_72) (fun _ h9 => h9) rfl d_Mod_compares_7 ?_
  refine lv_iconst (v := 1) hx hb d_Mod_compares_10 (by decide) ?_
  obtain ⟨hi2, h⟩ := chk_some h
  refine va_lald (f := g64 o0 29) hx hb hK (hP 0 _ rfl) 21 1 rfl rfl (inb_in hi2) d_Mod_compares_11 ?_
  refine lv_lmul hx hb d_Mod_compares_12 ?_
  refine lv_lstore_n (lv' := [(2, .long ((g64 o0 28 (Int32.toNatClampNeg (0 : Int32))) * (g64 o0 29 (Int32.toNatClampNeg (1 : Int32))))), (0, .ref (a0 0)), (1, .int x1)]) hx hb d_Mod_compares_13 rfl hl (by decide) rfl (fun ls hl => ?_)
  refine lv_aload_n hx hb d_Mod_compares_14 rfl (lv_at hl 1 rfl) ?_
  refine va_get (D := (dC, dI)) (ci := 6) (v := .ref (a0 20)) (C := R_Mod) (T := T_Mod) (N := 36) hx hb hts in_Mod hown hK (hP 0 _ rfl) 0 rfl rfl 28 (by decide) (hts _ fl_Mod_69) (fun _ h9 => h9) rfl d_Mod_compares_15 ?_
  refine lv_iconst (v := 1) hx hb d_Mod_compares_18 (by decide) ?_
  refine va_lald (f := g64 o0 28) hx hb hK (hP 0 _ rfl) 20 1 rfl rfl (inb_in hi2) d_Mod_compares_19 ?_
  refine lv_aload_n hx hb d_Mod_compares_20 rfl (lv_at hl 1 rfl) ?_
  refine va_get (D := (dC, dI)) (ci := 6) (v := .ref (a0 21)) (C := R_Mod) (T := T_Mod) (N := 36) hx hb hts in_Mod hown hK (hP 0 _ rfl) 0 rfl rfl 29 (by decide) (hts _ fl_Mod_72) (fun _ h9 => h9) rfl d_Mod_compares_21 ?_
  refine lv_iconst (v := 0) hx hb d_Mod_compares_24 (by decide) ?_
  refine va_lald (f := g64 o0 29) hx hb hK (hP 0 _ rfl) 21 1 rfl rfl (inb_in hi1) d_Mod_compares_25 ?_
  refine lv_lmul hx hb d_Mod_compares_26 ?_
  refine lv_lstore (lv' := [(4, .long ((g64 o0 28 (Int32.toNatClampNeg (1 : Int32))) * (g64 o0 29 (Int32.toNatClampNeg (0 : Int32))))), (2, .long ((g64 o0 28 (Int32.toNatClampNeg (0 : Int32))) * (g64 o0 29 (Int32.toNatClampNeg (1 : Int32))))), (0, .ref (a0 0)), (1, .int x1)]) hx hb d_Mod_compares_27 hl (by decide) rfl (fun ls hl => ?_)
  refine lv_iload_n hx hb d_Mod_compares_29 rfl (lv_at hl 3 rfl) ?_
  refine lv_bipush (v := 60) hx hb d_Mod_compares_30 (by decide) ?_
  refine lv_icmp_ne (tgt := 50) hx hb d_Mod_compares_32 (by decide) (fun c5 => ?_) (fun c5 => ?_)
  · have h := ite_f c5 h
    refine lv_iload_n hx hb d_Mod_compares_50 rfl (lv_at hl 3 rfl) ?_
    refine lv_bipush (v := 62) hx hb d_Mod_compares_51 (by decide) ?_
    refine lv_icmp_ne (tgt := 71) hx hb d_Mod_compares_53 (by decide) (fun c6 => ?_) (fun c6 => ?_)
    · have h := ite_f c6 h
      refine lv_lload_n hx hb d_Mod_compares_71 rfl (lv_at hl 1 rfl) ?_
      refine lv_lload hx hb d_Mod_compares_72 (lv_at hl 0 rfl) ?_
      refine W.lcmp hx hb d_Mod_compares_74 ?_
      refine lv_if_ne (tgt := 82) hx hb d_Mod_compares_75 (by decide) (fun c7 => ?_) (fun c7 => ?_)
      · have h := ite_f c7 h
        refine lv_iconst (v := 0) hx hb d_Mod_compares_82 (by decide) ?_
        obtain rfl := res1 h
        exact W.zret hx hb hr rfl (fun t ht hW => ⟨rfl, ht.trans hS.1⟩) (bw_nil hS.2) d_Mod_compares_83
      · have h := ite_t c7 h
        refine lv_iconst (v := 1) hx hb d_Mod_compares_78 (by decide) ?_
        refine lv_goto (tgt := 83) hx hb d_Mod_compares_79 (by decide) ?_
        obtain rfl := res1 h
        exact W.zret hx hb hr rfl (fun t ht hW => ⟨rfl, ht.trans hS.1⟩) (bw_nil hS.2) d_Mod_compares_83
    · have h := ite_t c6 h
      refine lv_lload_n hx hb d_Mod_compares_56 rfl (lv_at hl 1 rfl) ?_
      refine lv_lload hx hb d_Mod_compares_57 (lv_at hl 0 rfl) ?_
      refine W.lcmp hx hb d_Mod_compares_59 ?_
      refine lv_if_le (tgt := 67) hx hb d_Mod_compares_60 (by decide) (fun c8 => ?_) (fun c8 => ?_)
      · have h := ite_t c8 h
        refine lv_iconst (v := 0) hx hb d_Mod_compares_67 (by decide) ?_
        refine lv_goto (tgt := 83) hx hb d_Mod_compares_68 (by decide) ?_
        obtain rfl := res1 h
        exact W.zret hx hb hr rfl (fun t ht hW => ⟨rfl, ht.trans hS.1⟩) (bw_nil hS.2) d_Mod_compares_83
      · have h := ite_f c8 h
        refine lv_iconst (v := 1) hx hb d_Mod_compares_63 (by decide) ?_
        refine lv_goto (tgt := 83) hx hb d_Mod_compares_64 (by decide) ?_
        obtain rfl := res1 h
        exact W.zret hx hb hr rfl (fun t ht hW => ⟨rfl, ht.trans hS.1⟩) (bw_nil hS.2) d_Mod_compares_83
  · have h := ite_t c5 h
    refine lv_lload_n hx hb d_Mod_compares_35 rfl (lv_at hl 1 rfl) ?_
    refine lv_lload hx hb d_Mod_compares_36 (lv_at hl 0 rfl) ?_
    refine W.lcmp hx hb d_Mod_compares_38 ?_
    refine lv_if_ge (tgt := 46) hx hb d_Mod_compares_39 (by decide) (fun c9 => ?_) (fun c9 => ?_)
    · have h := ite_t c9 h
      refine lv_iconst (v := 0) hx hb d_Mod_compares_46 (by decide) ?_
      refine lv_goto (tgt := 83) hx hb d_Mod_compares_47 (by decide) ?_
      obtain rfl := res1 h
      exact W.zret hx hb hr rfl (fun t ht hW => ⟨rfl, ht.trans hS.1⟩) (bw_nil hS.2) d_Mod_compares_83
    · have h := ite_f c9 h
      refine lv_iconst (v := 1) hx hb d_Mod_compares_42 (by decide) ?_
      refine lv_goto (tgt := 83) hx hb d_Mod_compares_43 (by decide) ?_
      obtain rfl := res1 h
      exact W.zret hx hb hr rfl (fun t ht hW => ⟨rfl, ht.trans hS.1⟩) (bw_nil hS.2) d_Mod_compares_83
theorem g_Mod_213 : GoodIn wsAll (wsV R_Mod 213 R_Mod y_Mod_reckon ws_Mod_reckon) := gd_V ml_Mod_213 im_Mod_reckon se_Mod_reckon ini_Mod cd_Mod_reckon
theorem g_Mod_217 : GoodIn wsAll (wsV R_Mod 217 R_Mod y_Mod_compares ws_Mod_compares) := gd_V ml_Mod_217 im_Mod_compares se_Mod_compares ini_Mod cd_Mod_compares
def F_Mod_reckonCell_171  (x1 : Int32) (x5 : Int32) (y1 : Int32) (y2 : Int64) (o0 : Ob) : Option (Ob) :=
  chk (inb y1 60) (if (g32 o0 31 0) ≤ 0 then (chk (inb (0 : Int32) 420) (chk (inb x1 60) (if (g32 o0 31 0) ≤ 0 then (some (s32 (s64 (s64 o0 20 (Int32.toNatClampNeg y1) y2) 21 (Int32.toNatClampNeg x1) (g64 o0 29 (Int32.toNatClampNeg (0 : Int32)))) 22 (Int32.toNatClampNeg x1) x5)) else (some (s32 (s64 (s64 o0 20 (Int32.toNatClampNeg y1) y2) 21 (Int32.toNatClampNeg x1) (g64 o0 29 (Int32.toNatClampNeg (0 : Int32)))) 22 (Int32.toNatClampNeg x1) (-1 : Int32)))))) else (chk (inb x1 60) (if (g32 o0 31 0) ≤ 0 then (some (s32 (s64 (s64 o0 20 (Int32.toNatClampNeg y1) y2) 21 (Int32.toNatClampNeg x1) (1 : Int64)) 22 (Int32.toNatClampNeg x1) x5)) else (some (s32 (s64 (s64 o0 20 (Int32.toNatClampNeg y1) y2) 21 (Int32.toNatClampNeg x1) (1 : Int64)) 22 (Int32.toNatClampNeg x1) (-1 : Int32))))))
def F_Mod_reckonCell_148  (x1 : Int32) (x5 : Int32) (y1 : Int32) (y2 : Int32) (o0 : Ob) : Option (Ob) :=
  chk (inb y1 60) (if (g32 o0 31 0) ≤ 0 then (chk (inb (0 : Int32) 420) (F_Mod_reckonCell_171 x1 x5 x1 (g64 o0 28 (Int32.toNatClampNeg (0 : Int32))) (s32 o0 19 (Int32.toNatClampNeg y1) y2))) else (F_Mod_reckonCell_171 x1 x5 x1 (0 : Int64) (s32 o0 19 (Int32.toNatClampNeg y1) y2)))
def F_Mod_reckonCell_102 (k30 : Int32 → Int32 → Int32 → Int32 → Int32 → Ob → Option (Ob)) : Nat → Int32 → Int32 → Int32 → Int32 → Int32 → Ob → Option (Ob)
  | 0, _, _, _, _, _, _ => none
  | n + 1, x1, x3, x4, x5, x6, o0 =>
    chk (inb x3 1000) (if (g32 o0 5 (Int32.toNatClampNeg x3)) = (10 : Int32) then (k30 x1 (x3 + (1 : Int32)) x4 (x5 + (1 : Int32)) x6 o0) else (F_Mod_reckonCell_102 k30 n x1 (x3 + (1 : Int32)) x4 x5 x6 o0))
def F_Mod_reckonCell_30  : Nat → Int32 → Int32 → Int32 → Int32 → Int32 → Ob → Option (Ob)
  | 0, _, _, _, _, _, _ => none
  | n + 1, x1, x3, x4, x5, x6, o0 =>
    if x6 = 0 then (bind2 (F_Mod_reckon x3 x4 o0) (fun v7 o_8 => if 0 < (g32 o_8 31 0) then (F_Mod_reckonCell_30 n x1 v7 x4 x5 (1 : Int32) o_8) else (if v7 = x4 then (F_Mod_reckonCell_30 n x1 v7 x4 x5 (1 : Int32) o_8) else (chk (inb v7 1000) (if (g32 o_8 5 (Int32.toNatClampNeg v7)) = (10 : Int32) then (F_Mod_reckonCell_30 n x1 v7 x4 x5 (1 : Int32) o_8) else (bind1 (F_Mod_compares (g32 o_8 6 (Int32.toNatClampNeg v7)) o_8) (fun v15 => if (b2i v15) = 0 then (F_Mod_reckonCell_102 (F_Mod_reckonCell_30 n) fuel x1 v7 x4 x5 x6 o_8) else (bind2 (F_Mod_reckon (v7 + (1 : Int32)) x4 o_8) (fun v18 o_19 => F_Mod_reckonCell_30 n x1 v18 x4 x5 (1 : Int32) o_19))))))))) else (if (g32 o0 31 0) ≤ 0 then (F_Mod_reckonCell_148 x1 x5 x1 (1 : Int32) o0) else (F_Mod_reckonCell_148 x1 x5 x1 (g32 o0 31 0) o0))
def F_Mod_reckonCell (x1 : Int32) (o0 : Ob) : Option (Ob) :=
  chk (inb x1 60) (chk (inb (g32 o0 17 (Int32.toNatClampNeg x1)) 50) (chk (inb ((g32 o0 17 (Int32.toNatClampNeg x1)) + (1 : Int32)) 50) (F_Mod_reckonCell_30 fuel x1 (g32 o0 9 (Int32.toNatClampNeg (g32 o0 17 (Int32.toNatClampNeg x1)))) (g32 o0 9 (Int32.toNatClampNeg ((g32 o0 17 (Int32.toNatClampNeg x1)) + (1 : Int32)))) (0 : Int32) (0 : Int32) o0)))
abbrev ws_Mod_reckonCell : List Cond := Cond.code y_Mod_reckonCell b_Mod_reckonCell 7 (none : Option Jvm.ClassFile.FieldType) :: wsAll
abbrev rm_Mod_reckonCell : Room := { frames := 4, cells := 0, slots := 0, locals := 114 }
set_option maxHeartbeats 4000000 in
set_option maxRecDepth 100000 in
theorem k_Mod_reckonCell_171 {p : Program} {l : Launch} {e : Env} {s : State} {m : MethodId} {args : Array Value} {below : List Frame} {meth : Method} {c : Code} {A : Nat → Prop} {ct dC : Nat → ClassId} {dI : Nat → Nat → Nat} {a0 : Nat → Nat}  {n0 : Ob}   (C0 : cx wsAll vwCl nx p s m args meth c (dC, dI) (tyA ct) b_Mod_reckonCell 7 (none : Option Jvm.ClassFile.FieldType) R_Mod A [adMod a0])  : ∀ (x1 : Int32) (x5 : Int32) (y1 : Int32) (y2 : Int64) (o0 : Ob) (H : Heap) (locs : List Loc) (ls : Array Slot), bw_P (dC, dI) vwCl [wMod ct a0 o0] H → va_S A s.heap H locs → lv_has ls 7 [(0, .ref (a0 0)), (1, .int x1), (5, .int x5)] → F_Mod_reckonCell_171 x1 x5 y1 y2 o0 = some n0 → W p l e (headSpec ws_Mod_reckonCell rm_Mod_reckonCell).room s m args below meth c H locs 0 0 (MQ below (bw_Q (dC, dI) vwCl none [wMod ct a0 n0] A) args s 0 0 A) (F0 m 171 ls [.long y2, .int y1, .ref (a0 14)]) := by
  obtain ⟨hx, hb, hr, hml, hown, hlocks, hts, hK, hN, hA, hnx⟩ := id C0
  intro x1 x5 y1 y2 o0 H locs ls hP hS hl h
  rw [F_Mod_reckonCell_171] at h
  obtain ⟨hi25, h⟩ := chk_some h
  refine st_Mod_20 hx hb hK hP hN hS 0 rfl (inb_in hi25) d_Mod_reckonCell_171 (fun H locs hP hS => ?_)
  have hP : bw_P (dC, dI) vwCl [wMod ct a0 (s64 o0 20 (Int32.toNatClampNeg y1) y2)] H := hP
  refine lv_aload_n hx hb d_Mod_reckonCell_172 rfl (lv_at hl 0 rfl) ?_
  refine va_get (D := (dC, dI)) (ci := 6) (v := .ref (a0 15)) (C := R_Mod) (T := T_Mod) (N := 36) hx hb hts in_Mod hown hK (hP 0 _ rfl) 0 rfl rfl 21 (by decide) (hts _ fl_Mod_54) (fun _ h9 => h9) rfl d_Mod_reckonCell_173 ?_
  refine lv_iload_n hx hb d_Mod_reckonCell_176 rfl (lv_at hl 1 rfl) ?_
  refine lv_aload_n hx hb d_Mod_reckonCell_177 rfl (lv_at hl 0 rfl) ?_
  refine va_get (D := (dC, dI)) (ci := 6) (v := .int (g32 o0 31 0)) (C := R_Mod) (T := T_Mod) (N := 36) hx hb hts in_Mod hown hK (hP 0 _ rfl) 0 rfl rfl 31 (by decide) (hts _ fl_Mod_195) (fun _ h9 => h9) rfl d_Mod_reckonCell_178 ?_
  refine lv_if_le (tgt := 188) hx hb d_Mod_reckonCell_181 (by decide) (fun c26 => ?_) (fun c26 => ?_)
  · have h := ite_t c26 h
    refine lv_aload_n hx hb d_Mod_reckonCell_188 rfl (lv_at hl 0 rfl) ?_
    refine va_get (D := (dC, dI)) (ci := 6) (v := .ref (a0 21)) (C := R_Mod) (T := T_Mod) (N := 36) hx hb hts in_Mod hown hK (hP 0 _ rfl) 0 rfl rfl 29 (by decide) (hts _ fl_Mod_72) (fun _ h9 => h9) rfl d_Mod_reckonCell_189 ?_
    refine lv_iconst (v := 0) hx hb d_Mod_reckonCell_192 (by decide) ?_
    obtain ⟨hi27, h⟩ := chk_some h
    refine va_lald (f := g64 o0 29) hx hb hK (hP 0 _ rfl) 21 1 rfl rfl (inb_in hi27) d_Mod_reckonCell_193 ?_
    obtain ⟨hi28, h⟩ := chk_some h
    refine st_Mod_21 hx hb hK hP hN hS 0 rfl (inb_in hi28) d_Mod_reckonCell_194 (fun H locs hP hS => ?_)
    have hP : bw_P (dC, dI) vwCl [wMod ct a0 (s64 (s64 o0 20 (Int32.toNatClampNeg y1) y2) 21 (Int32.toNatClampNeg x1) (g64 o0 29 (Int32.toNatClampNeg (0 : Int32))))] H := hP
    refine lv_aload_n hx hb d_Mod_reckonCell_195 rfl (lv_at hl 0 rfl) ?_
    refine va_get (D := (dC, dI)) (ci := 6) (v := .ref (a0 16)) (C := R_Mod) (T := T_Mod) (N := 36) hx hb hts in_Mod hown hK (hP 0 _ rfl) 0 rfl rfl 22 (by decide) (hts _ fl_Mod_57) (fun _ h9 => h9) rfl d_Mod_reckonCell_196 ?_
    refine lv_iload_n hx hb d_Mod_reckonCell_199 rfl (lv_at hl 1 rfl) ?_
    refine lv_aload_n hx hb d_Mod_reckonCell_200 rfl (lv_at hl 0 rfl) ?_
    refine va_get (D := (dC, dI)) (ci := 6) (v := .int (g32 o0 31 0)) (C := R_Mod) (T := T_Mod) (N := 36) hx hb hts in_Mod hown hK (hP 0 _ rfl) 0 rfl rfl 31 (by decide) (hts _ fl_Mod_195) (fun _ h9 => h9) rfl d_Mod_reckonCell_201 ?_
    refine lv_if_le (tgt := 211) hx hb d_Mod_reckonCell_204 (by decide) (fun c29 => ?_) (fun c29 => ?_)
    · have h := ite_t c29 h
      refine lv_iload hx hb d_Mod_reckonCell_211 (lv_at hl 2 rfl) ?_
      refine st_Mod_22 hx hb hK hP hN hS 0 rfl (inb_in hi28) d_Mod_reckonCell_213 (fun H locs hP hS => ?_)
      have hP : bw_P (dC, dI) vwCl [wMod ct a0 (s32 (s64 (s64 o0 20 (Int32.toNatClampNeg y1) y2) 21 (Int32.toNatClampNeg x1) (g64 o0 29 (Int32.toNatClampNeg (0 : Int32)))) 22 (Int32.toNatClampNeg x1) x5)] H := hP
      obtain rfl := res1 h
      exact W.vret hx hb hr (fun t ht hW => ⟨rfl, by rw [ht]; exact hP, hS.F ht⟩) hS.2.2 d_Mod_reckonCell_214
    · have h := ite_f c29 h
      refine lv_iconst (v := -1) hx hb d_Mod_reckonCell_207 (by decide) ?_
      refine lv_goto (tgt := 213) hx hb d_Mod_reckonCell_208 (by decide) ?_
      refine st_Mod_22 hx hb hK hP hN hS 0 rfl (inb_in hi28) d_Mod_reckonCell_213 (fun H locs hP hS => ?_)
      have hP : bw_P (dC, dI) vwCl [wMod ct a0 (s32 (s64 (s64 o0 20 (Int32.toNatClampNeg y1) y2) 21 (Int32.toNatClampNeg x1) (g64 o0 29 (Int32.toNatClampNeg (0 : Int32)))) 22 (Int32.toNatClampNeg x1) (-1 : Int32))] H := hP
      obtain rfl := res1 h
      exact W.vret hx hb hr (fun t ht hW => ⟨rfl, by rw [ht]; exact hP, hS.F ht⟩) hS.2.2 d_Mod_reckonCell_214
  · have h := ite_f c26 h
    refine lv_lconst (v := 1) hx hb d_Mod_reckonCell_184 (by decide) ?_
    refine lv_goto (tgt := 194) hx hb d_Mod_reckonCell_185 (by decide) ?_
    obtain ⟨hi32, h⟩ := chk_some h
    refine st_Mod_21 hx hb hK hP hN hS 0 rfl (inb_in hi32) d_Mod_reckonCell_194 (fun H locs hP hS => ?_)
    have hP : bw_P (dC, dI) vwCl [wMod ct a0 (s64 (s64 o0 20 (Int32.toNatClampNeg y1) y2) 21 (Int32.toNatClampNeg x1) (1 : Int64))] H := hP
    refine lv_aload_n hx hb d_Mod_reckonCell_195 rfl (lv_at hl 0 rfl) ?_
    refine va_get (D := (dC, dI)) (ci := 6) (v := .ref (a0 16)) (C := R_Mod) (T := T_Mod) (N := 36) hx hb hts in_Mod hown hK (hP 0 _ rfl) 0 rfl rfl 22 (by decide) (hts _ fl_Mod_57) (fun _ h9 => h9) rfl d_Mod_reckonCell_196 ?_
    refine lv_iload_n hx hb d_Mod_reckonCell_199 rfl (lv_at hl 1 rfl) ?_
    refine lv_aload_n hx hb d_Mod_reckonCell_200 rfl (lv_at hl 0 rfl) ?_
    refine va_get (D := (dC, dI)) (ci := 6) (v := .int (g32 o0 31 0)) (C := R_Mod) (T := T_Mod) (N := 36) hx hb hts in_Mod hown hK (hP 0 _ rfl) 0 rfl rfl 31 (by decide) (hts _ fl_Mod_195) (fun _ h9 => h9) rfl d_Mod_reckonCell_201 ?_
    refine lv_if_le (tgt := 211) hx hb d_Mod_reckonCell_204 (by decide) (fun c33 => ?_) (fun c33 => ?_)
    · have h := ite_t c33 h
      refine lv_iload hx hb d_Mod_reckonCell_211 (lv_at hl 2 rfl) ?_
      refine st_Mod_22 hx hb hK hP hN hS 0 rfl (inb_in hi32) d_Mod_reckonCell_213 (fun H locs hP hS => ?_)
      have hP : bw_P (dC, dI) vwCl [wMod ct a0 (s32 (s64 (s64 o0 20 (Int32.toNatClampNeg y1) y2) 21 (Int32.toNatClampNeg x1) (1 : Int64)) 22 (Int32.toNatClampNeg x1) x5)] H := hP
      obtain rfl := res1 h
      exact W.vret hx hb hr (fun t ht hW => ⟨rfl, by rw [ht]; exact hP, hS.F ht⟩) hS.2.2 d_Mod_reckonCell_214
    · have h := ite_f c33 h
      refine lv_iconst (v := -1) hx hb d_Mod_reckonCell_207 (by decide) ?_
      refine lv_goto (tgt := 213) hx hb d_Mod_reckonCell_208 (by decide) ?_
      refine st_Mod_22 hx hb hK hP hN hS 0 rfl (inb_in hi32) d_Mod_reckonCell_213 (fun H locs hP hS => ?_)
      have hP : bw_P (dC, dI) vwCl [wMod ct a0 (s32 (s64 (s64 o0 20 (Int32.toNatClampNeg y1) y2) 21 (Int32.toNatClampNeg x1) (1 : Int64)) 22 (Int32.toNatClampNeg x1) (-1 : Int32))] H := hP
      obtain rfl := res1 h
      exact W.vret hx hb hr (fun t ht hW => ⟨rfl, by rw [ht]; exact hP, hS.F ht⟩) hS.2.2 d_Mod_reckonCell_214
set_option maxHeartbeats 4000000 in
set_option maxRecDepth 100000 in
theorem k_Mod_reckonCell_148 {p : Program} {l : Launch} {e : Env} {s : State} {m : MethodId} {args : Array Value} {below : List Frame} {meth : Method} {c : Code} {A : Nat → Prop} {ct dC : Nat → ClassId} {dI : Nat → Nat → Nat} {a0 : Nat → Nat}  {n0 : Ob}   (C0 : cx wsAll vwCl nx p s m args meth c (dC, dI) (tyA ct) b_Mod_reckonCell 7 (none : Option Jvm.ClassFile.FieldType) R_Mod A [adMod a0])  : ∀ (x1 : Int32) (x5 : Int32) (y1 : Int32) (y2 : Int32) (o0 : Ob) (H : Heap) (locs : List Loc) (ls : Array Slot), bw_P (dC, dI) vwCl [wMod ct a0 o0] H → va_S A s.heap H locs → lv_has ls 7 [(0, .ref (a0 0)), (1, .int x1), (5, .int x5)] → F_Mod_reckonCell_148 x1 x5 y1 y2 o0 = some n0 → W p l e (headSpec ws_Mod_reckonCell rm_Mod_reckonCell).room s m args below meth c H locs 0 0 (MQ below (bw_Q (dC, dI) vwCl none [wMod ct a0 n0] A) args s 0 0 A) (F0 m 148 ls [.int y2, .int y1, .ref (a0 13)]) := by
  obtain ⟨hx, hb, hr, hml, hown, hlocks, hts, hK, hN, hA, hnx⟩ := id C0
  intro x1 x5 y1 y2 o0 H locs ls hP hS hl h
  rw [F_Mod_reckonCell_148] at h
  obtain ⟨hi20, h⟩ := chk_some h
  refine st_Mod_19 hx hb hK hP hN hS 0 rfl (inb_in hi20) d_Mod_reckonCell_148 (fun H locs hP hS => ?_)
  have hP : bw_P (dC, dI) vwCl [wMod ct a0 (s32 o0 19 (Int32.toNatClampNeg y1) y2)] H := hP
  refine lv_aload_n hx hb d_Mod_reckonCell_149 rfl (lv_at hl 0 rfl) ?_
  refine va_get (D := (dC, dI)) (ci := 6) (v := .ref (a0 14)) (C := R_Mod) (T := T_Mod) (N := 36) hx hb hts in_Mod hown hK (hP 0 _ rfl) 0 rfl rfl 20 (by decide) (hts _ fl_Mod_51) (fun _ h9 => h9) rfl d_Mod_reckonCell_150 ?_
  refine lv_iload_n hx hb d_Mod_reckonCell_153 rfl (lv_at hl 1 rfl) ?_
  refine lv_aload_n hx hb d_Mod_reckonCell_154 rfl (lv_at hl 0 rfl) ?_
  refine va_get (D := (dC, dI)) (ci := 6) (v := .int (g32 o0 31 0)) (C := R_Mod) (T := T_Mod) (N := 36) hx hb hts in_Mod hown hK (hP 0 _ rfl) 0 rfl rfl 31 (by decide) (hts _ fl_Mod_195) (fun _ h9 => h9) rfl d_Mod_reckonCell_155 ?_
  refine lv_if_le (tgt := 165) hx hb d_Mod_reckonCell_158 (by decide) (fun c21 => ?_) (fun c21 => ?_)
  · have h := ite_t c21 h
    refine lv_aload_n hx hb d_Mod_reckonCell_165 rfl (lv_at hl 0 rfl) ?_
    refine va_get (D := (dC, dI)) (ci := 6) (v := .ref (a0 20)) (C := R_Mod) (T := T_Mod) (N := 36) hx hb hts in_Mod hown hK (hP 0 _ rfl) 0 rfl rfl 28 (by decide) (hts _ fl_Mod_69) (fun _ h9 => h9) rfl d_Mod_reckonCell_166 ?_
    refine lv_iconst (v := 0) hx hb d_Mod_reckonCell_169 (by decide) ?_
    obtain ⟨hi22, h⟩ := chk_some h
    refine va_lald (f := g64 o0 28) hx hb hK (hP 0 _ rfl) 20 1 rfl rfl (inb_in hi22) d_Mod_reckonCell_170 ?_
    exact k_Mod_reckonCell_171 C0 x1 x5 x1 (g64 o0 28 (Int32.toNatClampNeg (0 : Int32))) (s32 o0 19 (Int32.toNatClampNeg y1) y2) _ _ _ hP hS (lv_sub hl [0, 1, 2] rfl) h
  · have h := ite_f c21 h
    refine lv_lconst (v := 0) hx hb d_Mod_reckonCell_161 (by decide) ?_
    refine lv_goto (tgt := 171) hx hb d_Mod_reckonCell_162 (by decide) ?_
    exact k_Mod_reckonCell_171 C0 x1 x5 x1 (0 : Int64) (s32 o0 19 (Int32.toNatClampNeg y1) y2) _ _ _ hP hS (lv_sub hl [0, 1, 2] rfl) h
set_option maxHeartbeats 4000000 in
set_option maxRecDepth 100000 in
theorem k_Mod_reckonCell_102 {p : Program} {l : Launch} {e : Env} {s : State} {m : MethodId} {args : Array Value} {below : List Frame} {meth : Method} {c : Code} {A : Nat → Prop} {ct dC : Nat → ClassId} {dI : Nat → Nat → Nat} {a0 : Nat → Nat}  {n0 : Ob}  {k30 : Int32 → Int32 → Int32 → Int32 → Int32 → Ob → Option (Ob)} (C0 : cx wsAll vwCl nx p s m args meth c (dC, dI) (tyA ct) b_Mod_reckonCell 7 (none : Option Jvm.ClassFile.FieldType) R_Mod A [adMod a0]) (hk30 : ∀ (x1 : Int32) (x3 : Int32) (x4 : Int32) (x5 : Int32) (x6 : Int32) (o0 : Ob) (H : Heap) (locs : List Loc) (ls : Array Slot), bw_P (dC, dI) vwCl [wMod ct a0 o0] H → va_S A s.heap H locs → lv_has ls 7 [(0, .ref (a0 0)), (1, .int x1), (3, .int x3), (4, .int x4), (5, .int x5), (6, .int x6)] → k30 x1 x3 x4 x5 x6 o0 = some n0 → W p l e (headSpec ws_Mod_reckonCell rm_Mod_reckonCell).room s m args below meth c H locs 0 0 (MQ below (bw_Q (dC, dI) vwCl none [wMod ct a0 n0] A) args s 0 0 A) (F0 m 30 ls [])) : ∀ (n : Nat) (x1 : Int32) (x3 : Int32) (x4 : Int32) (x5 : Int32) (x6 : Int32) (o0 : Ob) (H : Heap) (locs : List Loc) (ls : Array Slot), bw_P (dC, dI) vwCl [wMod ct a0 o0] H → va_S A s.heap H locs → lv_has ls 7 [(0, .ref (a0 0)), (1, .int x1), (3, .int x3), (4, .int x4), (5, .int x5), (6, .int x6)] → F_Mod_reckonCell_102 k30 n x1 x3 x4 x5 x6 o0 = some n0 → W p l e (headSpec ws_Mod_reckonCell rm_Mod_reckonCell).room s m args below meth c H locs 0 0 (MQ below (bw_Q (dC, dI) vwCl none [wMod ct a0 n0] A) args s 0 0 A) (F0 m 102 ls []) := by
  obtain ⟨hx, hb, hr, hml, hown, hlocks, hts, hK, hN, hA, hnx⟩ := id C0
  intro n
  induction n with
  | zero =>
    intro x1 x3 x4 x5 x6 o0 H locs ls hP hS hl h
    cases h
  | succ n ih =>
    intro x1 x3 x4 x5 x6 o0 H locs ls hP hS hl h
    rw [F_Mod_reckonCell_102] at h
    refine lv_aload_n hx hb d_Mod_reckonCell_102 rfl (lv_at hl 0 rfl) ?_
    refine va_get (D := (dC, dI)) (ci := 6) (v := .ref (a0 2)) (C := R_Mod) (T := T_Mod) (N := 36) hx hb hts in_Mod hown hK (hP 0 _ rfl) 0 rfl rfl 5 (by decide) (hts _ fl_Mod_13) (fun _ h9 => h9) rfl d_Mod_reckonCell_103 ?_
    refine lv_iload_n hx hb d_Mod_reckonCell_106 rfl (lv_at hl 2 rfl) ?_
    obtain ⟨hi23, h⟩ := chk_some h
    refine va_iald (f := g32 o0 5) hx hb hK (hP 0 _ rfl) 2 0 rfl rfl (inb_in hi23) d_Mod_reckonCell_107 ?_
    refine lv_bipush (v := 10) hx hb d_Mod_reckonCell_108 (by decide) ?_
    refine lv_icmp_eq (tgt := 119) hx hb d_Mod_reckonCell_110 (by decide) (fun c24 => ?_) (fun c24 => ?_)
    · have h := ite_t c24 h
      refine lv_iinc (v := (x3 + (1 : Int32))) (lv' := [(3, .int (x3 + (1 : Int32))), (0, .ref (a0 0)), (1, .int x1), (4, .int x4), (5, .int x5), (6, .int x6)]) hx hb d_Mod_reckonCell_119 hl (k := 2) rfl rfl (by decide) rfl (fun ls hl => ?_)
      refine lv_iinc (v := (x5 + (1 : Int32))) (lv' := [(5, .int (x5 + (1 : Int32))), (3, .int (x3 + (1 : Int32))), (0, .ref (a0 0)), (1, .int x1), (4, .int x4), (6, .int x6)]) hx hb d_Mod_reckonCell_122 hl (k := 4) rfl rfl (by decide) rfl (fun ls hl => ?_)
      refine lv_goto (tgt := 30) hx hb d_Mod_reckonCell_125 (by decide) ?_
      exact hk30 x1 (x3 + (1 : Int32)) x4 (x5 + (1 : Int32)) x6 o0 _ _ _ hP hS (lv_sub hl [2, 3, 1, 4, 0, 5] rfl) h
    · have h := ite_f c24 h
      refine lv_iinc (v := (x3 + (1 : Int32))) (lv' := [(3, .int (x3 + (1 : Int32))), (0, .ref (a0 0)), (1, .int x1), (4, .int x4), (5, .int x5), (6, .int x6)]) hx hb d_Mod_reckonCell_113 hl (k := 2) rfl rfl (by decide) rfl (fun ls hl => ?_)
      refine lv_goto (tgt := 102) hx hb d_Mod_reckonCell_116 (by decide) ?_
      exact ih x1 (x3 + (1 : Int32)) x4 x5 x6 o0 _ _ _ hP hS (lv_sub hl [1, 2, 0, 3, 4, 5] rfl) h
set_option maxHeartbeats 4000000 in
set_option maxRecDepth 100000 in
theorem k_Mod_reckonCell_30 {p : Program} {l : Launch} {e : Env} {s : State} {m : MethodId} {args : Array Value} {below : List Frame} {meth : Method} {c : Code} {A : Nat → Prop} {ct dC : Nat → ClassId} {dI : Nat → Nat → Nat} {a0 : Nat → Nat}  {n0 : Ob}   (C0 : cx wsAll vwCl nx p s m args meth c (dC, dI) (tyA ct) b_Mod_reckonCell 7 (none : Option Jvm.ClassFile.FieldType) R_Mod A [adMod a0])  : ∀ (n : Nat) (x1 : Int32) (x3 : Int32) (x4 : Int32) (x5 : Int32) (x6 : Int32) (o0 : Ob) (H : Heap) (locs : List Loc) (ls : Array Slot), bw_P (dC, dI) vwCl [wMod ct a0 o0] H → va_S A s.heap H locs → lv_has ls 7 [(0, .ref (a0 0)), (1, .int x1), (3, .int x3), (4, .int x4), (5, .int x5), (6, .int x6)] → F_Mod_reckonCell_30 n x1 x3 x4 x5 x6 o0 = some n0 → W p l e (headSpec ws_Mod_reckonCell rm_Mod_reckonCell).room s m args below meth c H locs 0 0 (MQ below (bw_Q (dC, dI) vwCl none [wMod ct a0 n0] A) args s 0 0 A) (F0 m 30 ls []) := by
  obtain ⟨hx, hb, hr, hml, hown, hlocks, hts, hK, hN, hA, hnx⟩ := id C0
  intro n
  induction n with
  | zero =>
    intro x1 x3 x4 x5 x6 o0 H locs ls hP hS hl h
    cases h
  | succ n ih =>
    intro x1 x3 x4 x5 x6 o0 H locs ls hP hS hl h
    rw [F_Mod_reckonCell_30] at h
    refine lv_iload hx hb d_Mod_reckonCell_30 (lv_at hl 5 rfl) ?_
    refine lv_if_ne (tgt := 128) hx hb d_Mod_reckonCell_32 (by decide) (fun c4 => ?_) (fun c4 => ?_)
    · have h := ite_f c4 h
      refine lv_aload_n hx hb d_Mod_reckonCell_128 rfl (lv_at hl 0 rfl) ?_
      refine va_get (D := (dC, dI)) (ci := 6) (v := .ref (a0 13)) (C := R_Mod) (T := T_Mod) (N := 36) hx hb hts in_Mod hown hK (hP 0 _ rfl) 0 rfl rfl 19 (by decide) (hts _ fl_Mod_48) (fun _ h9 => h9) rfl d_Mod_reckonCell_129 ?_
      refine lv_iload_n hx hb d_Mod_reckonCell_132 rfl (lv_at hl 1 rfl) ?_
      refine lv_aload_n hx hb d_Mod_reckonCell_133 rfl (lv_at hl 0 rfl) ?_
      refine va_get (D := (dC, dI)) (ci := 6) (v := .int (g32 o0 31 0)) (C := R_Mod) (T := T_Mod) (N := 36) hx hb hts in_Mod hown hK (hP 0 _ rfl) 0 rfl rfl 31 (by decide) (hts _ fl_Mod_195) (fun _ h9 => h9) rfl d_Mod_reckonCell_134 ?_
      refine lv_if_le (tgt := 147) hx hb d_Mod_reckonCell_137 (by decide) (fun c5 => ?_) (fun c5 => ?_)
      · have h := ite_t c5 h
        refine lv_iconst (v := 1) hx hb d_Mod_reckonCell_147 (by decide) ?_
        exact k_Mod_reckonCell_148 C0 x1 x5 x1 (1 : Int32) o0 _ _ _ hP hS (lv_sub hl [0, 1, 4] rfl) h
      · have h := ite_f c5 h
        refine lv_aload_n hx hb d_Mod_reckonCell_140 rfl (lv_at hl 0 rfl) ?_
        refine va_get (D := (dC, dI)) (ci := 6) (v := .int (g32 o0 31 0)) (C := R_Mod) (T := T_Mod) (N := 36) hx hb hts in_Mod hown hK (hP 0 _ rfl) 0 rfl rfl 31 (by decide) (hts _ fl_Mod_195) (fun _ h9 => h9) rfl d_Mod_reckonCell_141 ?_
        refine lv_goto (tgt := 148) hx hb d_Mod_reckonCell_144 (by decide) ?_
        exact k_Mod_reckonCell_148 C0 x1 x5 x1 (g32 o0 31 0) o0 _ _ _ hP hS (lv_sub hl [0, 1, 4] rfl) h
    · have h := ite_t c4 h
      refine lv_aload_n hx hb d_Mod_reckonCell_35 rfl (lv_at hl 0 rfl) ?_
      refine lv_iload_n hx hb d_Mod_reckonCell_36 rfl (lv_at hl 2 rfl) ?_
      refine lv_iload hx hb d_Mod_reckonCell_37 (lv_at hl 3 rfl) ?_
      obtain ⟨v7, o_8, hG6, h⟩ := bind2_some h
      refine bw_call (Lc := [wMod ct a0 o0]) (Lc' := [wMod ct a0 o_8]) (L' := [wMod ct a0 o_8]) [0] (va_runV (As := [.int x3, .int x4]) (rest := []) ⟨hx, hb, hml, hown, hts⟩ (c_Mod_reckon l ct dC dI a0 _ x3 x4 o0 v7 o_8 hG6) (cwV 2 hts g_Mod_213 rfl rfl rfl (by decide +kernel) ⟨Nat.le_of_ble_eq_true rfl, Nat.le_of_ble_eq_true rfl⟩) ⟨bw_blind nx_call, va_recv hK (hP 0 _ rfl) (ci := 6) (q0 := 0) rfl rfl, fun U hU hW => ⟨rfl, by rw [hU], by rw [hU]; exact hP.sub [0] rfl, va_K.moved hW.alike hK, (hN.sub [0] (by decide) rfl).weaken (fun _ _ => trivial), nx_warm hW hnx⟩⟩ rfl rfl hl.1 rfl (Nat.le_of_ble_eq_true rfl) d_Mod_reckonCell_39 ⟨Nat.le_of_ble_eq_true rfl, Nat.le_of_ble_eq_true rfl⟩) hP hN hS hA rfl rfl rfl (fun H locs hP hS => ?_)
      refine lv_istore_n (lv' := [(3, .int v7), (0, .ref (a0 0)), (1, .int x1), (4, .int x4), (5, .int x5), (6, .int x6)]) hx hb d_Mod_reckonCell_42 rfl hl (by decide) rfl (fun ls hl => ?_)
      refine lv_aload_n hx hb d_Mod_reckonCell_43 rfl (lv_at hl 1 rfl) ?_
      refine va_get (D := (dC, dI)) (ci := 6) (v := .int (g32 o_8 31 0)) (C := R_Mod) (T := T_Mod) (N := 36) hx hb hts in_Mod hown hK (hP 0 _ rfl) 0 rfl rfl 31 (by decide) (hts _ fl_Mod_195) (fun _ h9 => h9) rfl d_Mod_reckonCell_44 ?_
      refine lv_if_gt (tgt := 67) hx hb d_Mod_reckonCell_47 (by decide) (fun c9 => ?_) (fun c9 => ?_)
      · have h := ite_t c9 h
        refine lv_iconst (v := 1) hx hb d_Mod_reckonCell_67 (by decide) ?_
        refine lv_istore (lv' := [(6, .int (1 : Int32)), (3, .int v7), (0, .ref (a0 0)), (1, .int x1), (4, .int x4), (5, .int x5)]) hx hb d_Mod_reckonCell_68 hl (by decide) rfl (fun ls hl => ?_)
        refine lv_goto (tgt := 30) hx hb d_Mod_reckonCell_70 (by decide) ?_
        exact ih x1 v7 x4 x5 (1 : Int32) o_8 _ _ _ hP hS (lv_sub hl [2, 3, 1, 4, 5, 0] rfl) h
      · have h := ite_f c9 h
        refine lv_iload_n hx hb d_Mod_reckonCell_50 rfl (lv_at hl 0 rfl) ?_
        refine lv_iload hx hb d_Mod_reckonCell_51 (lv_at hl 3 rfl) ?_
        refine lv_icmp_eq (tgt := 67) hx hb d_Mod_reckonCell_53 (by decide) (fun c10 => ?_) (fun c10 => ?_)
        · have h := ite_t c10 h
          refine lv_iconst (v := 1) hx hb d_Mod_reckonCell_67 (by decide) ?_
          refine lv_istore (lv' := [(6, .int (1 : Int32)), (3, .int v7), (0, .ref (a0 0)), (1, .int x1), (4, .int x4), (5, .int x5)]) hx hb d_Mod_reckonCell_68 hl (by decide) rfl (fun ls hl => ?_)
          refine lv_goto (tgt := 30) hx hb d_Mod_reckonCell_70 (by decide) ?_
          exact ih x1 v7 x4 x5 (1 : Int32) o_8 _ _ _ hP hS (lv_sub hl [2, 3, 1, 4, 5, 0] rfl) h
        · have h := ite_f c10 h
          refine lv_aload_n hx hb d_Mod_reckonCell_56 rfl (lv_at hl 1 rfl) ?_
          refine va_get (D := (dC, dI)) (ci := 6) (v := .ref (a0 2)) (C := R_Mod) (T := T_Mod) (N := 36) hx hb hts in_Mod hown hK (hP 0 _ rfl) 0 rfl rfl 5 (by decide) (hts _ fl_Mod_13) (fun _ h9 => h9) rfl d_Mod_reckonCell_57 ?_
          refine lv_iload_n hx hb d_Mod_reckonCell_60 rfl (lv_at hl 0 rfl) ?_
          obtain ⟨hi11, h⟩ := chk_some h
          refine va_iald (f := g32 o_8 5) hx hb hK (hP 0 _ rfl) 2 0 rfl rfl (inb_in hi11) d_Mod_reckonCell_61 ?_
          refine lv_bipush (v := 10) hx hb d_Mod_reckonCell_62 (by decide) ?_
          refine lv_icmp_ne (tgt := 73) hx hb d_Mod_reckonCell_64 (by decide) (fun c12 => ?_) (fun c12 => ?_)
          · have h := ite_f c12 h
            refine lv_aload_n hx hb d_Mod_reckonCell_73 rfl (lv_at hl 1 rfl) ?_
            refine lv_aload_n hx hb d_Mod_reckonCell_74 rfl (lv_at hl 1 rfl) ?_
            refine va_get (D := (dC, dI)) (ci := 6) (v := .ref (a0 3)) (C := R_Mod) (T := T_Mod) (N := 36) hx hb hts in_Mod hown hK (hP 0 _ rfl) 0 rfl rfl 6 (by decide) (hts _ fl_Mod_16) (fun _ h9 => h9) rfl d_Mod_reckonCell_75 ?_
            refine lv_iload_n hx hb d_Mod_reckonCell_78 rfl (lv_at hl 0 rfl) ?_
            refine va_iald (f := g32 o_8 6) hx hb hK (hP 0 _ rfl) 3 0 rfl rfl (inb_in hi11) d_Mod_reckonCell_79 ?_
            obtain ⟨v15, hG14, h⟩ := bind1_some h
            refine bw_callR (va_runV (As := [.int (g32 o_8 6 (Int32.toNatClampNeg v7))]) (rest := []) ⟨hx, hb, hml, hown, hts⟩ (c_Mod_compares l ct dC dI a0 _ (g32 o_8 6 (Int32.toNatClampNeg v7)) o_8 v15 hG14) (cwV 1 hts g_Mod_217 rfl rfl rfl (by decide +kernel) ⟨Nat.le_of_ble_eq_true rfl, Nat.le_of_ble_eq_true rfl⟩) ⟨bw_blind nx_call, va_recv hK (hP 0 _ rfl) (ci := 6) (q0 := 0) rfl rfl, fun U hU hW => ⟨rfl, by rw [hU], by rw [hU]; exact hP.sub [0] rfl, va_K.moved hW.alike hK, (hN.sub [0] (by decide) rfl).weaken (fun _ _ => trivial), nx_warm hW hnx⟩⟩ rfl rfl hl.1 rfl (Nat.le_of_ble_eq_true rfl) d_Mod_reckonCell_80 ⟨Nat.le_of_ble_eq_true rfl, Nat.le_of_ble_eq_true rfl⟩) ?_
            refine lv_if_eq (tgt := 102) hx hb d_Mod_reckonCell_83 (by decide) (fun c16 => ?_) (fun c16 => ?_)
            · have h := ite_t c16 h
              exact k_Mod_reckonCell_102 C0 ih fuel x1 v7 x4 x5 x6 o_8 _ _ _ hP hS (lv_sub hl [1, 2, 0, 3, 4, 5] rfl) h
            · have h := ite_f c16 h
              refine lv_aload_n hx hb d_Mod_reckonCell_86 rfl (lv_at hl 1 rfl) ?_
              refine lv_iload_n hx hb d_Mod_reckonCell_87 rfl (lv_at hl 0 rfl) ?_
              refine lv_iconst (v := 1) hx hb d_Mod_reckonCell_88 (by decide) ?_
              refine lv_iadd hx hb d_Mod_reckonCell_89 ?_
              refine lv_iload hx hb d_Mod_reckonCell_90 (lv_at hl 3 rfl) ?_
              obtain ⟨v18, o_19, hG17, h⟩ := bind2_some h
              refine bw_call (Lc := [wMod ct a0 o_8]) (Lc' := [wMod ct a0 o_19]) (L' := [wMod ct a0 o_19]) [0] (va_runV (As := [.int (v7 + (1 : Int32)), .int x4]) (rest := []) ⟨hx, hb, hml, hown, hts⟩ (c_Mod_reckon l ct dC dI a0 _ (v7 + (1 : Int32)) x4 o_8 v18 o_19 hG17) (cwV 2 hts g_Mod_213 rfl rfl rfl (by decide +kernel) ⟨Nat.le_of_ble_eq_true rfl, Nat.le_of_ble_eq_true rfl⟩) ⟨bw_blind nx_call, va_recv hK (hP 0 _ rfl) (ci := 6) (q0 := 0) rfl rfl, fun U hU hW => ⟨rfl, by rw [hU], by rw [hU]; exact hP.sub [0] rfl, va_K.moved hW.alike hK, (hN.sub [0] (by decide) rfl).weaken (fun _ _ => trivial), nx_warm hW hnx⟩⟩ rfl rfl hl.1 rfl (Nat.le_of_ble_eq_true rfl) d_Mod_reckonCell_92 ⟨Nat.le_of_ble_eq_true rfl, Nat.le_of_ble_eq_true rfl⟩) hP hN hS hA rfl rfl rfl (fun H locs hP hS => ?_)
              refine lv_istore_n (lv' := [(3, .int v18), (0, .ref (a0 0)), (1, .int x1), (4, .int x4), (5, .int x5), (6, .int x6)]) hx hb d_Mod_reckonCell_95 rfl hl (by decide) rfl (fun ls hl => ?_)
              refine lv_iconst (v := 1) hx hb d_Mod_reckonCell_96 (by decide) ?_
              refine lv_istore (lv' := [(6, .int (1 : Int32)), (3, .int v18), (0, .ref (a0 0)), (1, .int x1), (4, .int x4), (5, .int x5)]) hx hb d_Mod_reckonCell_97 hl (by decide) rfl (fun ls hl => ?_)
              refine lv_goto (tgt := 30) hx hb d_Mod_reckonCell_99 (by decide) ?_
              exact ih x1 v18 x4 x5 (1 : Int32) o_19 _ _ _ hP hS (lv_sub hl [2, 3, 1, 4, 5, 0] rfl) h
          · have h := ite_t c12 h
            refine lv_iconst (v := 1) hx hb d_Mod_reckonCell_67 (by decide) ?_
            refine lv_istore (lv' := [(6, .int (1 : Int32)), (3, .int v7), (0, .ref (a0 0)), (1, .int x1), (4, .int x4), (5, .int x5)]) hx hb d_Mod_reckonCell_68 hl (by decide) rfl (fun ls hl => ?_)
            refine lv_goto (tgt := 30) hx hb d_Mod_reckonCell_70 (by decide) ?_
            exact ih x1 v7 x4 x5 (1 : Int32) o_8 _ _ _ hP hS (lv_sub hl [2, 3, 1, 4, 5, 0] rfl) h
set_option maxHeartbeats 4000000 in
set_option maxRecDepth 100000 in
theorem c_Mod_reckonCell (l : Launch) (ct dC : Nat → ClassId) (dI : Nat → Nat → Nat) (a0 : Nat → Nat)  (sz : Nat) (x1 : Int32) (o0 : Ob) (n0 : Ob) (hF : F_Mod_reckonCell x1 o0 = some n0) : Met l y_Mod_reckonCell ws_Mod_reckonCell rm_Mod_reckonCell (bw_Pc [.ref (a0 0), .int x1] (dC, dI) vwCl (tyA ct) [wMod ct a0 o0] sz nx) (bw_Q (dC, dI) vwCl none [wMod ct a0 n0] (bw_A [adMod a0] sz)) 0 0 (bw_A [adMod a0] sz) := by
  refine Met.ofW (cc := b_Mod_reckonCell) (maxL := 7) (ret := (none : Option Jvm.ClassFile.FieldType)) (by decide) rfl ?_
  intro p e s m args below meth c s₁ B hml hv
  obtain ⟨rfl, hsz, hP, hK, hN0, hnx⟩ := hv
  have hx := B.exec
  have hb := B.bytes
  have hr := B.returns
  have hts : ∀ w ∈ wsAll, w.before [.ref (a0 0), .int x1].toArray s = true := fun w h9 => atoms_spec (ws := ws_Mod_reckonCell) B.pre w (List.mem_cons_of_mem _ h9)
  have hown : s.vm.findClass R_Mod = some m.cls := findClass_of_methodNamed B.named
  have hlocks := B.notSynchronized
  subst hsz
  have hN : bw_N (bw_A [adMod a0] s.heap.size) [adMod a0] := hN0.self s.heap.size
  generalize hAe : bw_A [adMod a0] s.heap.size = A at hN ⊢
  have hA : ∀ q : Nat, s.heap.size ≤ q → A q := fun q h => by rw [← hAe]; exact Or.inr h
  have hS : va_S A s.heap s.heap [] := va_S.rf
  have hl := lv_entry ([.ref (a0 0), .int x1]) (n := 7) (Nat.le_of_ble_eq_true rfl)
  rw [lg_entry_eq]
  generalize (lg_sl ([.ref (a0 0), .int x1]) ++ List.replicate (7 - (lg_sl ([.ref (a0 0), .int x1])).length) Slot.unset).toArray = ls at hl ⊢
  have hl : lv_has ls 7 [(0, .ref (a0 0)), (1, .int x1)] := hl
  have C0 : cx wsAll vwCl nx p s m [.ref (a0 0), .int x1].toArray meth c (dC, dI) (tyA ct) b_Mod_reckonCell 7 (none : Option Jvm.ClassFile.FieldType) R_Mod A [adMod a0] := ⟨hx, hb, hr, hml, hown, hlocks, hts, hK, hN, hA, hnx⟩
  have h := hF
  rw [F_Mod_reckonCell] at h
  refine lv_aload_n hx hb d_Mod_reckonCell_0 rfl (lv_at hl 0 rfl) ?_
  refine va_get (D := (dC, dI)) (ci := 6) (v := .ref (a0 11)) (C := R_Mod) (T := T_Mod) (N := 36) hx hb hts in_Mod hown hK (hP 0 _ rfl) 0 rfl rfl 17 (by decide) (hts _ fl_Mod_41) (fun _ h9 => h9) rfl d_Mod_reckonCell_1 ?_
  refine lv_iload_n hx hb d_Mod_reckonCell_4 rfl (lv_at hl 1 rfl) ?_
  obtain ⟨hi1, h⟩ := chk_some h
  refine va_iald (f := g32 o0 17) hx hb hK (hP 0 _ rfl) 11 0 rfl rfl (inb_in hi1) d_Mod_reckonCell_5 ?_
  refine lv_istore_n (lv' := [(2, .int (g32 o0 17 (Int32.toNatClampNeg x1))), (0, .ref (a0 0)), (1, .int x1)]) hx hb d_Mod_reckonCell_6 rfl hl (by decide) rfl (fun ls hl => ?_)
  refine lv_aload_n hx hb d_Mod_reckonCell_7 rfl (lv_at hl 1 rfl) ?_
  refine va_get (D := (dC, dI)) (ci := 6) (v := .ref (a0 6)) (C := R_Mod) (T := T_Mod) (N := 36) hx hb hts in_Mod hown hK (hP 0 _ rfl) 0 rfl rfl 9 (by decide) (hts _ fl_Mod_25) (fun _ h9 => h9) rfl d_Mod_reckonCell_8 ?_
  refine lv_iload_n hx hb d_Mod_reckonCell_11 rfl (lv_at hl 0 rfl) ?_
  obtain ⟨hi2, h⟩ := chk_some h
  refine va_iald (f := g32 o0 9) hx hb hK (hP 0 _ rfl) 6 0 rfl rfl (inb_in hi2) d_Mod_reckonCell_12 ?_
  refine lv_istore_n (lv' := [(3, .int (g32 o0 9 (Int32.toNatClampNeg (g32 o0 17 (Int32.toNatClampNeg x1))))), (2, .int (g32 o0 17 (Int32.toNatClampNeg x1))), (0, .ref (a0 0)), (1, .int x1)]) hx hb d_Mod_reckonCell_13 rfl hl (by decide) rfl (fun ls hl => ?_)
  refine lv_aload_n hx hb d_Mod_reckonCell_14 rfl (lv_at hl 2 rfl) ?_
  refine va_get (D := (dC, dI)) (ci := 6) (v := .ref (a0 6)) (C := R_Mod) (T := T_Mod) (N := 36) hx hb hts in_Mod hown hK (hP 0 _ rfl) 0 rfl rfl 9 (by decide) (hts _ fl_Mod_25) (fun _ h9 => h9) rfl d_Mod_reckonCell_15 ?_
  refine lv_iload_n hx hb d_Mod_reckonCell_18 rfl (lv_at hl 1 rfl) ?_
  refine lv_iconst (v := 1) hx hb d_Mod_reckonCell_19 (by decide) ?_
  refine lv_iadd hx hb d_Mod_reckonCell_20 ?_
  obtain ⟨hi3, h⟩ := chk_some h
  refine va_iald (f := g32 o0 9) hx hb hK (hP 0 _ rfl) 6 0 rfl rfl (inb_in hi3) d_Mod_reckonCell_21 ?_
  refine lv_istore (lv' := [(4, .int (g32 o0 9 (Int32.toNatClampNeg ((g32 o0 17 (Int32.toNatClampNeg x1)) + (1 : Int32))))), (3, .int (g32 o0 9 (Int32.toNatClampNeg (g32 o0 17 (Int32.toNatClampNeg x1))))), (2, .int (g32 o0 17 (Int32.toNatClampNeg x1))), (0, .ref (a0 0)), (1, .int x1)]) hx hb d_Mod_reckonCell_22 hl (by decide) rfl (fun ls hl => ?_)
  refine lv_iconst (v := 0) hx hb d_Mod_reckonCell_24 (by decide) ?_
  refine lv_istore (lv' := [(5, .int (0 : Int32)), (4, .int (g32 o0 9 (Int32.toNatClampNeg ((g32 o0 17 (Int32.toNatClampNeg x1)) + (1 : Int32))))), (3, .int (g32 o0 9 (Int32.toNatClampNeg (g32 o0 17 (Int32.toNatClampNeg x1))))), (2, .int (g32 o0 17 (Int32.toNatClampNeg x1))), (0, .ref (a0 0)), (1, .int x1)]) hx hb d_Mod_reckonCell_25 hl (by decide) rfl (fun ls hl => ?_)
  refine lv_iconst (v := 0) hx hb d_Mod_reckonCell_27 (by decide) ?_
  refine lv_istore (lv' := [(6, .int (0 : Int32)), (5, .int (0 : Int32)), (4, .int (g32 o0 9 (Int32.toNatClampNeg ((g32 o0 17 (Int32.toNatClampNeg x1)) + (1 : Int32))))), (3, .int (g32 o0 9 (Int32.toNatClampNeg (g32 o0 17 (Int32.toNatClampNeg x1))))), (2, .int (g32 o0 17 (Int32.toNatClampNeg x1))), (0, .ref (a0 0)), (1, .int x1)]) hx hb d_Mod_reckonCell_28 hl (by decide) rfl (fun ls hl => ?_)
  exact k_Mod_reckonCell_30 C0 fuel x1 (g32 o0 9 (Int32.toNatClampNeg (g32 o0 17 (Int32.toNatClampNeg x1)))) (g32 o0 9 (Int32.toNatClampNeg ((g32 o0 17 (Int32.toNatClampNeg x1)) + (1 : Int32)))) (0 : Int32) (0 : Int32) o0 _ _ _ hP hS (lv_sub hl [5, 6, 3, 2, 1, 0] rfl) h
theorem g_Mod_220 : GoodIn wsAll (wsV R_Mod 220 R_Mod y_Mod_isRing ws_Mod_isRing) := gd_V ml_Mod_220 im_Mod_isRing se_Mod_isRing ini_Mod cd_Mod_isRing
def F_Mod_isReady_35 (o0 : Ob)  : Nat → Int32 → Int32 → Int32 → Option (Bool)
  | 0, _, _, _ => none
  | n + 1, x1, x2, x3 =>
    if (60 : Int32) ≤ x3 then (chk (isB x2) (some (decide (¬ x2 = 0)))) else (if x2 = 0 then (chk (isB x2) (some (decide (¬ x2 = 0)))) else (chk (inb (((60 : Int32) * x1) + x3) 3600) (if (g32 o0 18 (Int32.toNatClampNeg (((60 : Int32) * x1) + x3))) = 0 then (F_Mod_isReady_35 o0 n x1 (1 : Int32) (x3 + (1 : Int32))) else (chk (inb x3 60) (if (g32 o0 19 (Int32.toNatClampNeg x3)) = (-1 : Int32) then (F_Mod_isReady_35 o0 n x1 (0 : Int32) (x3 + (1 : Int32))) else (F_Mod_isReady_35 o0 n x1 (1 : Int32) (x3 + (1 : Int32))))))))
def F_Mod_isReady (x1 : Int32) (o0 : Ob) : Option (Bool) :=
  chk (inb x1 60) (if (g32 o0 17 (Int32.toNatClampNeg x1)) < 0 then (F_Mod_isReady_35 o0 fuel x1 (0 : Int32) (0 : Int32)) else (bind1 (F_Mod_isRing x1 o0) (fun v4 => if (b2i v4) = 0 then (if (g32 o0 19 (Int32.toNatClampNeg x1)) = (-1 : Int32) then (F_Mod_isReady_35 o0 fuel x1 (1 : Int32) (0 : Int32)) else (F_Mod_isReady_35 o0 fuel x1 (0 : Int32) (0 : Int32))) else (F_Mod_isReady_35 o0 fuel x1 (0 : Int32) (0 : Int32)))))
abbrev ws_Mod_isReady : List Cond := Cond.code y_Mod_isReady b_Mod_isReady 4 (some .boolean) :: wsAll
abbrev rm_Mod_isReady : Room := { frames := 1, cells := 0, slots := 0, locals := 21 }
set_option maxHeartbeats 4000000 in
set_option maxRecDepth 100000 in
theorem k_Mod_isReady_35 {p : Program} {l : Launch} {e : Env} {s : State} {m : MethodId} {args : Array Value} {below : List Frame} {meth : Method} {c : Code} {A : Nat → Prop} {ct dC : Nat → ClassId} {dI : Nat → Nat → Nat} {a0 : Nat → Nat}  {r : Bool} {o0 : Ob}  (C0 : cx wsAll vwCl nx p s m args meth c (dC, dI) (tyA ct) b_Mod_isReady 4 (some .boolean) R_Mod A [adMod a0])  : ∀ (n : Nat) (x1 : Int32) (x2 : Int32) (x3 : Int32) (H : Heap) (locs : List Loc) (ls : Array Slot), bw_P (dC, dI) vwCl [wMod ct a0 o0] H → (H = s.heap ∧ locs = []) → lv_has ls 4 [(0, .ref (a0 0)), (1, .int x1), (2, .int x2), (3, .int x3)] → F_Mod_isReady_35 o0 n x1 x2 x3 = some r → W p l e (headSpec ws_Mod_isReady rm_Mod_isReady).room s m args below meth c H locs 0 0 (MQ below (bw_QR (some (.int (b2i r)))) args s 0 0 (fun _ => False)) (F0 m 35 ls []) := by
  obtain ⟨hx, hb, hr, hml, hown, hlocks, hts, hK, hN, hA, hnx⟩ := id C0
  intro n
  induction n with
  | zero =>
    intro x1 x2 x3 H locs ls hP hS hl h
    cases h
  | succ n ih =>
    intro x1 x2 x3 H locs ls hP hS hl h
    rw [F_Mod_isReady_35] at h
    refine lv_iload_n hx hb d_Mod_isReady_35 rfl (lv_at hl 3 rfl) ?_
    refine lv_bipush (v := 60) hx hb d_Mod_isReady_36 (by decide) ?_
    refine lv_icmp_ge (tgt := 81) hx hb d_Mod_isReady_38 (by decide) (fun c8 => ?_) (fun c8 => ?_)
    · have h := ite_t c8 h
      refine lv_iload_n hx hb d_Mod_isReady_81 rfl (lv_at hl 2 rfl) ?_
      obtain ⟨hb9, h⟩ := chk_some h
      rw [isB_of hb9]
      obtain rfl := res1 h
      exact W.zret hx hb hr (b2i_nar _) (fun t ht hW => ⟨rfl, ht.trans hS.1⟩) (bw_nil hS.2) d_Mod_isReady_82
    · have h := ite_f c8 h
      refine lv_iload_n hx hb d_Mod_isReady_41 rfl (lv_at hl 2 rfl) ?_
      refine lv_if_eq (tgt := 81) hx hb d_Mod_isReady_42 (by decide) (fun c10 => ?_) (fun c10 => ?_)
      · have h := ite_t c10 h
        refine lv_iload_n hx hb d_Mod_isReady_81 rfl (lv_at hl 2 rfl) ?_
        obtain ⟨hb11, h⟩ := chk_some h
        rw [isB_of hb11]
        obtain rfl := res1 h
        exact W.zret hx hb hr (b2i_nar _) (fun t ht hW => ⟨rfl, ht.trans hS.1⟩) (bw_nil hS.2) d_Mod_isReady_82
      · have h := ite_f c10 h
        refine lv_aload_n hx hb d_Mod_isReady_45 rfl (lv_at hl 0 rfl) ?_
        refine va_get (D := (dC, dI)) (ci := 6) (v := .ref (a0 12)) (C := R_Mod) (T := T_Mod) (N := 36) hx hb hts in_Mod hown hK (hP 0 _ rfl) 0 rfl rfl 18 (by decide) (hts _ fl_Mod_44) (fun _ h9 => h9) rfl d_Mod_isReady_46 ?_
        refine lv_bipush (v := 60) hx hb d_Mod_isReady_49 (by decide) ?_
        refine lv_iload_n hx hb d_Mod_isReady_51 rfl (lv_at hl 1 rfl) ?_
        refine lv_imul hx hb d_Mod_isReady_52 ?_
        refine lv_iload_n hx hb d_Mod_isReady_53 rfl (lv_at hl 3 rfl) ?_
        refine lv_iadd hx hb d_Mod_isReady_54 ?_
        obtain ⟨hi12, h⟩ := chk_some h
        refine va_zald (f := g32 o0 18) hx hb hK (hP 0 _ rfl) 12 3 rfl rfl (inb_in hi12) d_Mod_isReady_55 ?_
        refine lv_if_eq (tgt := 69) hx hb d_Mod_isReady_56 (by decide) (fun c13 => ?_) (fun c13 => ?_)
        · have h := ite_t c13 h
          refine lv_iconst (v := 1) hx hb d_Mod_isReady_69 (by decide) ?_
          refine lv_goto (tgt := 74) hx hb d_Mod_isReady_70 (by decide) ?_
          refine lv_istore_n (lv' := [(2, .int (1 : Int32)), (0, .ref (a0 0)), (1, .int x1), (3, .int x3)]) hx hb d_Mod_isReady_74 rfl hl (by decide) rfl (fun ls hl => ?_)
          refine lv_iinc (v := (x3 + (1 : Int32))) (lv' := [(3, .int (x3 + (1 : Int32))), (2, .int (1 : Int32)), (0, .ref (a0 0)), (1, .int x1)]) hx hb d_Mod_isReady_75 hl (k := 3) rfl rfl (by decide) rfl (fun ls hl => ?_)
          refine lv_goto (tgt := 35) hx hb d_Mod_isReady_78 (by decide) ?_
          exact ih x1 (1 : Int32) (x3 + (1 : Int32)) _ _ _ hP hS (lv_sub hl [2, 3, 1, 0] rfl) h
        · have h := ite_f c13 h
          refine lv_aload_n hx hb d_Mod_isReady_59 rfl (lv_at hl 0 rfl) ?_
          refine va_get (D := (dC, dI)) (ci := 6) (v := .ref (a0 13)) (C := R_Mod) (T := T_Mod) (N := 36) hx hb hts in_Mod hown hK (hP 0 _ rfl) 0 rfl rfl 19 (by decide) (hts _ fl_Mod_48) (fun _ h9 => h9) rfl d_Mod_isReady_60 ?_
          refine lv_iload_n hx hb d_Mod_isReady_63 rfl (lv_at hl 3 rfl) ?_
          obtain ⟨hi14, h⟩ := chk_some h
          refine va_iald (f := g32 o0 19) hx hb hK (hP 0 _ rfl) 13 0 rfl rfl (inb_in hi14) d_Mod_isReady_64 ?_
          refine lv_iconst (v := -1) hx hb d_Mod_isReady_65 (by decide) ?_
          refine lv_icmp_eq (tgt := 73) hx hb d_Mod_isReady_66 (by decide) (fun c15 => ?_) (fun c15 => ?_)
          · have h := ite_t c15 h
            refine lv_iconst (v := 0) hx hb d_Mod_isReady_73 (by decide) ?_
            refine lv_istore_n (lv' := [(2, .int (0 : Int32)), (0, .ref (a0 0)), (1, .int x1), (3, .int x3)]) hx hb d_Mod_isReady_74 rfl hl (by decide) rfl (fun ls hl => ?_)
            refine lv_iinc (v := (x3 + (1 : Int32))) (lv' := [(3, .int (x3 + (1 : Int32))), (2, .int (0 : Int32)), (0, .ref (a0 0)), (1, .int x1)]) hx hb d_Mod_isReady_75 hl (k := 3) rfl rfl (by decide) rfl (fun ls hl => ?_)
            refine lv_goto (tgt := 35) hx hb d_Mod_isReady_78 (by decide) ?_
            exact ih x1 (0 : Int32) (x3 + (1 : Int32)) _ _ _ hP hS (lv_sub hl [2, 3, 1, 0] rfl) h
          · have h := ite_f c15 h
            refine lv_iconst (v := 1) hx hb d_Mod_isReady_69 (by decide) ?_
            refine lv_goto (tgt := 74) hx hb d_Mod_isReady_70 (by decide) ?_
            refine lv_istore_n (lv' := [(2, .int (1 : Int32)), (0, .ref (a0 0)), (1, .int x1), (3, .int x3)]) hx hb d_Mod_isReady_74 rfl hl (by decide) rfl (fun ls hl => ?_)
            refine lv_iinc (v := (x3 + (1 : Int32))) (lv' := [(3, .int (x3 + (1 : Int32))), (2, .int (1 : Int32)), (0, .ref (a0 0)), (1, .int x1)]) hx hb d_Mod_isReady_75 hl (k := 3) rfl rfl (by decide) rfl (fun ls hl => ?_)
            refine lv_goto (tgt := 35) hx hb d_Mod_isReady_78 (by decide) ?_
            exact ih x1 (1 : Int32) (x3 + (1 : Int32)) _ _ _ hP hS (lv_sub hl [2, 3, 1, 0] rfl) h
set_option maxHeartbeats 4000000 in
set_option maxRecDepth 100000 in
theorem c_Mod_isReady (l : Launch) (ct dC : Nat → ClassId) (dI : Nat → Nat → Nat) (a0 : Nat → Nat)  (sz : Nat) (x1 : Int32) (o0 : Ob) (r : Bool) (hF : F_Mod_isReady x1 o0 = some r) : Met l y_Mod_isReady ws_Mod_isReady rm_Mod_isReady (bw_Pc [.ref (a0 0), .int x1] (dC, dI) vwCl (tyA ct) [wMod ct a0 o0] sz nx) (bw_QR (some (.int (b2i r)))) 0 0 (fun _ => False) := by
  refine Met.ofW (cc := b_Mod_isReady) (maxL := 4) (ret := (some .boolean)) (by decide) rfl ?_
  intro p e s m args below meth c s₁ B hml hv
  obtain ⟨rfl, hsz, hP, hK, hN0, hnx⟩ := hv
  have hx := B.exec
  have hb := B.bytes
  have hr := B.returns
  have hts : ∀ w ∈ wsAll, w.before [.ref (a0 0), .int x1].toArray s = true := fun w h9 => atoms_spec (ws := ws_Mod_isReady) B.pre w (List.mem_cons_of_mem _ h9)
  have hown : s.vm.findClass R_Mod = some m.cls := findClass_of_methodNamed B.named
  have hlocks := B.notSynchronized
  subst hsz
  have hN : bw_N (fun _ => True) [adMod a0] := hN0
  generalize hAe : (fun _ : Nat => True) = A at hN
  have hA : ∀ q : Nat, s.heap.size ≤ q → A q := fun q _ => by rw [← hAe]; trivial
  have hS : s.heap = s.heap ∧ ([] : List Loc) = [] := ⟨rfl, rfl⟩
  have hl := lv_entry ([.ref (a0 0), .int x1]) (n := 4) (Nat.le_of_ble_eq_true rfl)
  rw [lg_entry_eq]
  generalize (lg_sl ([.ref (a0 0), .int x1]) ++ List.replicate (4 - (lg_sl ([.ref (a0 0), .int x1])).length) Slot.unset).toArray = ls at hl ⊢
  have hl : lv_has ls 4 [(0, .ref (a0 0)), (1, .int x1)] := hl
  have C0 : cx wsAll vwCl nx p s m [.ref (a0 0), .int x1].toArray meth c (dC, dI) (tyA ct) b_Mod_isReady 4 (some .boolean) R_Mod A [adMod a0] := ⟨hx, hb, hr, hml, hown, hlocks, hts, hK, hN, hA, hnx⟩
  have h := hF
  rw [F_Mod_isReady] at h
  refine lv_aload_n hx hb d_Mod_isReady_0 rfl (lv_at hl 0 rfl) ?_
  refine va_get (D := (dC, dI)) (ci := 6) (v := .ref (a0 11)) (C := R_Mod) (T := T_Mod) (N := 36) hx hb hts in_Mod hown hK (hP 0 _ rfl) 0 rfl rfl 17 (by decide) (hts _ fl_Mod_41) (fun _ h9 => h9) rfl d_Mod_isReady_1 ?_
  refine lv_iload_n hx hb d_Mod_isReady_4 rfl (lv_at hl 1 rfl) ?_
  obtain ⟨hi1, h⟩ := chk_some h
  refine va_iald (f := g32 o0 17) hx hb hK (hP 0 _ rfl) 11 0 rfl rfl (inb_in hi1) d_Mod_isReady_5 ?_
  refine lv_if_lt (tgt := 31) hx hb d_Mod_isReady_6 (by decide) (fun c2 => ?_) (fun c2 => ?_)
  · have h := ite_t c2 h
    refine lv_iconst (v := 0) hx hb d_Mod_isReady_31 (by decide) ?_
    refine lv_istore_n (lv' := [(2, .int (0 : Int32)), (0, .ref (a0 0)), (1, .int x1)]) hx hb d_Mod_isReady_32 rfl hl (by decide) rfl (fun ls hl => ?_)
    refine lv_iconst (v := 0) hx hb d_Mod_isReady_33 (by decide) ?_
    refine lv_istore_n (lv' := [(3, .int (0 : Int32)), (2, .int (0 : Int32)), (0, .ref (a0 0)), (1, .int x1)]) hx hb d_Mod_isReady_34 rfl hl (by decide) rfl (fun ls hl => ?_)
    exact k_Mod_isReady_35 C0 fuel x1 (0 : Int32) (0 : Int32) _ _ _ hP hS (lv_sub hl [2, 3, 1, 0] rfl) h
  · have h := ite_f c2 h
    refine lv_aload_n hx hb d_Mod_isReady_9 rfl (lv_at hl 0 rfl) ?_
    refine lv_iload_n hx hb d_Mod_isReady_10 rfl (lv_at hl 1 rfl) ?_
    obtain ⟨v4, hG3, h⟩ := bind1_some h
    refine bw_callR (va_runV (As := [.int x1]) (rest := []) ⟨hx, hb, hml, hown, hts⟩ (c_Mod_isRing l ct dC dI a0 _ x1 o0 v4 hG3) (cwV 1 hts g_Mod_220 rfl rfl rfl (by decide +kernel) ⟨Nat.le_of_ble_eq_true rfl, Nat.le_of_ble_eq_true rfl⟩) ⟨bw_blind nx_call, va_recv hK (hP 0 _ rfl) (ci := 6) (q0 := 0) rfl rfl, fun U hU hW => ⟨rfl, by rw [hU], by rw [hU]; exact hP.sub [0] rfl, va_K.moved hW.alike hK, (hN.sub [0] (by decide) rfl).weaken (fun _ _ => trivial), nx_warm hW hnx⟩⟩ rfl rfl hl.1 rfl (Nat.le_of_ble_eq_true rfl) d_Mod_isReady_11 ⟨Nat.le_of_ble_eq_true rfl, Nat.le_of_ble_eq_true rfl⟩) ?_
    refine lv_if_ne (tgt := 31) hx hb d_Mod_isReady_14 (by decide) (fun c5 => ?_) (fun c5 => ?_)
    · have h := ite_f c5 h
      refine lv_iconst (v := 0) hx hb d_Mod_isReady_31 (by decide) ?_
      refine lv_istore_n (lv' := [(2, .int (0 : Int32)), (0, .ref (a0 0)), (1, .int x1)]) hx hb d_Mod_isReady_32 rfl hl (by decide) rfl (fun ls hl => ?_)
      refine lv_iconst (v := 0) hx hb d_Mod_isReady_33 (by decide) ?_
      refine lv_istore_n (lv' := [(3, .int (0 : Int32)), (2, .int (0 : Int32)), (0, .ref (a0 0)), (1, .int x1)]) hx hb d_Mod_isReady_34 rfl hl (by decide) rfl (fun ls hl => ?_)
      exact k_Mod_isReady_35 C0 fuel x1 (0 : Int32) (0 : Int32) _ _ _ hP hS (lv_sub hl [2, 3, 1, 0] rfl) h
    · have h := ite_t c5 h
      refine lv_aload_n hx hb d_Mod_isReady_17 rfl (lv_at hl 0 rfl) ?_
      refine va_get (D := (dC, dI)) (ci := 6) (v := .ref (a0 13)) (C := R_Mod) (T := T_Mod) (N := 36) hx hb hts in_Mod hown hK (hP 0 _ rfl) 0 rfl rfl 19 (by decide) (hts _ fl_Mod_48) (fun _ h9 => h9) rfl d_Mod_isReady_18 ?_
      refine lv_iload_n hx hb d_Mod_isReady_21 rfl (lv_at hl 1 rfl) ?_
      refine va_iald (f := g32 o0 19) hx hb hK (hP 0 _ rfl) 13 0 rfl rfl (inb_in hi1) d_Mod_isReady_22 ?_
      refine lv_iconst (v := -1) hx hb d_Mod_isReady_23 (by decide) ?_
      refine lv_icmp_ne (tgt := 31) hx hb d_Mod_isReady_24 (by decide) (fun c7 => ?_) (fun c7 => ?_)
      · have h := ite_f c7 h
        refine lv_iconst (v := 0) hx hb d_Mod_isReady_31 (by decide) ?_
        refine lv_istore_n (lv' := [(2, .int (0 : Int32)), (0, .ref (a0 0)), (1, .int x1)]) hx hb d_Mod_isReady_32 rfl hl (by decide) rfl (fun ls hl => ?_)
        refine lv_iconst (v := 0) hx hb d_Mod_isReady_33 (by decide) ?_
        refine lv_istore_n (lv' := [(3, .int (0 : Int32)), (2, .int (0 : Int32)), (0, .ref (a0 0)), (1, .int x1)]) hx hb d_Mod_isReady_34 rfl hl (by decide) rfl (fun ls hl => ?_)
        exact k_Mod_isReady_35 C0 fuel x1 (0 : Int32) (0 : Int32) _ _ _ hP hS (lv_sub hl [2, 3, 1, 0] rfl) h
      · have h := ite_t c7 h
        refine lv_iconst (v := 1) hx hb d_Mod_isReady_27 (by decide) ?_
        refine lv_goto (tgt := 32) hx hb d_Mod_isReady_28 (by decide) ?_
        refine lv_istore_n (lv' := [(2, .int (1 : Int32)), (0, .ref (a0 0)), (1, .int x1)]) hx hb d_Mod_isReady_32 rfl hl (by decide) rfl (fun ls hl => ?_)
        refine lv_iconst (v := 0) hx hb d_Mod_isReady_33 (by decide) ?_
        refine lv_istore_n (lv' := [(3, .int (0 : Int32)), (2, .int (1 : Int32)), (0, .ref (a0 0)), (1, .int x1)]) hx hb d_Mod_isReady_34 rfl hl (by decide) rfl (fun ls hl => ?_)
        exact k_Mod_isReady_35 C0 fuel x1 (1 : Int32) (0 : Int32) _ _ _ hP hS (lv_sub hl [2, 3, 1, 0] rfl) h
