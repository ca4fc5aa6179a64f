/-! 25.mod5 -/
abbrev b_Mod_addCell : ByteArray := prog_8_method_63_code
def y_Mod_addCell : MethodName := ⟨R_Mod, "addCell", "(I)V"⟩
abbrev b_Mod_enclose : ByteArray := prog_8_method_64_code
def y_Mod_enclose : MethodName := ⟨R_Mod, "enclose", "(I)V"⟩
abbrev b_Mod_printSign : ByteArray := prog_8_method_65_code
def y_Mod_printSign : MethodName := ⟨R_Mod, "printSign", "(III)I"⟩
abbrev b_Mod_printStatement : ByteArray := prog_8_method_66_code
def y_Mod_printStatement : MethodName := ⟨R_Mod, "printStatement", "(I)V"⟩
abbrev b_Mod_write : ByteArray := prog_8_method_67_code
def y_Mod_write : MethodName := ⟨R_Mod, "write", "(I)I"⟩
theorem cd_Mod_letterOf : Cond.code ⟨"PartFormulasModel", "letterOf", "(I)I"⟩ prog_8_method_62_code 1 (some .int) ∈ wsAll := wa_of 1261 (by decide +kernel) (by decide +kernel)
theorem ml_Mod_264 : Cond.methodLink "PartFormulasModel" 264 ⟨"PartFormulasModel", "letterOf", "(I)I"⟩ ∈ wsAll := wa_of 1259 (by decide +kernel) (by decide +kernel)
theorem st_Mod_letterOf : Cond.static ⟨"PartFormulasModel", "letterOf", "(I)I"⟩ ∈ wsAll := wa_of 1260 (by decide +kernel) (by decide +kernel)
theorem cd_Mod_insert : Cond.code ⟨"PartFormulasModel", "insert", "(II)V"⟩ prog_8_method_58_code 4 (none : Option Jvm.ClassFile.FieldType) ∈ wsAll := wa_of 1281 (by decide +kernel) (by decide +kernel)
theorem ml_Mod_267 : Cond.methodLink "PartFormulasModel" 267 ⟨"PartFormulasModel", "insert", "(II)V"⟩ ∈ wsAll := wa_of 1278 (by decide +kernel) (by decide +kernel)
theorem im_Mod_insert : Cond.instanceMethod ⟨"PartFormulasModel", "insert", "(II)V"⟩ ∈ wsAll := wa_of 1280 (by decide +kernel) (by decide +kernel)
theorem se_Mod_insert : Cond.selects "PartFormulasModel" ⟨"PartFormulasModel", "insert", "(II)V"⟩ ⟨"PartFormulasModel", "insert", "(II)V"⟩ ∈ wsAll := wa_of 72 (by decide +kernel) (by decide +kernel)
theorem fl_Mod_81 : Cond.fieldLink "PartFormulasModel" 81 "PartFormulasModel" "strengths" "[I" ∈ wsAll := wa_of 950 (by decide +kernel) (by decide +kernel)
theorem fl_Mod_78 : Cond.fieldLink "PartFormulasModel" 78 "PartFormulasModel" "starts" "[I" ∈ wsAll := wa_of 949 (by decide +kernel) (by decide +kernel)
theorem cd_Mod_enclose : Cond.code ⟨"PartFormulasModel", "enclose", "(I)V"⟩ prog_8_method_64_code 2 (none : Option Jvm.ClassFile.FieldType) ∈ wsAll := wa_of 1277 (by decide +kernel) (by decide +kernel)
theorem ml_Mod_276 : Cond.methodLink "PartFormulasModel" 276 ⟨"PartFormulasModel", "enclose", "(I)V"⟩ ∈ wsAll := wa_of 1274 (by decide +kernel) (by decide +kernel)
theorem im_Mod_enclose : Cond.instanceMethod ⟨"PartFormulasModel", "enclose", "(I)V"⟩ ∈ wsAll := wa_of 1276 (by decide +kernel) (by decide +kernel)
theorem se_Mod_enclose : Cond.selects "PartFormulasModel" ⟨"PartFormulasModel", "enclose", "(I)V"⟩ ⟨"PartFormulasModel", "enclose", "(I)V"⟩ ∈ wsAll := wa_of 71 (by decide +kernel) (by decide +kernel)
theorem cd_Mod_addCell : Cond.code ⟨"PartFormulasModel", "addCell", "(I)V"⟩ prog_8_method_63_code 2 (none : Option Jvm.ClassFile.FieldType) ∈ wsAll := wa_of 1258 (by decide +kernel) (by decide +kernel)
theorem ml_Mod_273 : Cond.methodLink "PartFormulasModel" 273 ⟨"PartFormulasModel", "addCell", "(I)V"⟩ ∈ wsAll := wa_of 1255 (by decide +kernel) (by decide +kernel)
theorem im_Mod_addCell : Cond.instanceMethod ⟨"PartFormulasModel", "addCell", "(I)V"⟩ ∈ wsAll := wa_of 1257 (by decide +kernel) (by decide +kernel)
theorem se_Mod_addCell : Cond.selects "PartFormulasModel" ⟨"PartFormulasModel", "addCell", "(I)V"⟩ ⟨"PartFormulasModel", "addCell", "(I)V"⟩ ∈ wsAll := wa_of 67 (by decide +kernel) (by decide +kernel)
theorem cd_Mod_addNumber : Cond.code ⟨"PartFormulasModel", "addNumber", "(I)V"⟩ prog_8_method_61_code 4 (none : Option Jvm.ClassFile.FieldType) ∈ wsAll := wa_of 1269 (by decide +kernel) (by decide +kernel)
theorem ml_Mod_270 : Cond.methodLink "PartFormulasModel" 270 ⟨"PartFormulasModel", "addNumber", "(I)V"⟩ ∈ wsAll := wa_of 1266 (by decide +kernel) (by decide +kernel)
theorem im_Mod_addNumber : Cond.instanceMethod ⟨"PartFormulasModel", "addNumber", "(I)V"⟩ ∈ wsAll := wa_of 1268 (by decide +kernel) (by decide +kernel)
theorem se_Mod_addNumber : Cond.selects "PartFormulasModel" ⟨"PartFormulasModel", "addNumber", "(I)V"⟩ ⟨"PartFormulasModel", "addNumber", "(I)V"⟩ ∈ wsAll := wa_of 69 (by decide +kernel) (by decide +kernel)
theorem cd_Mod_printSign : Cond.code ⟨"PartFormulasModel", "printSign", "(III)I"⟩ prog_8_method_65_code 6 (some .int) ∈ wsAll := wa_of 1265 (by decide +kernel) (by decide +kernel)
theorem ml_Mod_279 : Cond.methodLink "PartFormulasModel" 279 ⟨"PartFormulasModel", "printSign", "(III)I"⟩ ∈ wsAll := wa_of 1262 (by decide +kernel) (by decide +kernel)
theorem im_Mod_printSign : Cond.instanceMethod ⟨"PartFormulasModel", "printSign", "(III)I"⟩ ∈ wsAll := wa_of 1264 (by decide +kernel) (by decide +kernel)
theorem se_Mod_printSign : Cond.selects "PartFormulasModel" ⟨"PartFormulasModel", "printSign", "(III)I"⟩ ⟨"PartFormulasModel", "printSign", "(III)I"⟩ ∈ wsAll := wa_of 68 (by decide +kernel) (by decide +kernel)
theorem cd_Mod_printStatement : Cond.code ⟨"PartFormulasModel", "printStatement", "(I)V"⟩ prog_8_method_66_code 4 (none : Option Jvm.ClassFile.FieldType) ∈ wsAll := wa_of 1254 (by decide +kernel) (by decide +kernel)
theorem ml_Mod_283 : Cond.methodLink "PartFormulasModel" 283 ⟨"PartFormulasModel", "printStatement", "(I)V"⟩ ∈ wsAll := wa_of 1251 (by decide +kernel) (by decide +kernel)
theorem im_Mod_printStatement : Cond.instanceMethod ⟨"PartFormulasModel", "printStatement", "(I)V"⟩ ∈ wsAll := wa_of 1253 (by decide +kernel) (by decide +kernel)
theorem se_Mod_printStatement : Cond.selects "PartFormulasModel" ⟨"PartFormulasModel", "printStatement", "(I)V"⟩ ⟨"PartFormulasModel", "printStatement", "(I)V"⟩ ∈ wsAll := wa_of 66 (by decide +kernel) (by decide +kernel)
theorem d_Mod_addCell_0 : decode b_Mod_addCell 0 = .ok (.aload_n 0, 1) := by decide +kernel
theorem d_Mod_addCell_1 : decode b_Mod_addCell 1 = .ok (.bipush 65, 2) := by decide +kernel
theorem d_Mod_addCell_3 : decode b_Mod_addCell 3 = .ok (.iload_n 1, 1) := by decide +kernel
theorem d_Mod_addCell_4 : decode b_Mod_addCell 4 = .ok (.bipush 6, 2) := by decide +kernel
theorem d_Mod_addCell_6 : decode b_Mod_addCell 6 = .ok (.idiv, 1) := by decide +kernel
theorem d_Mod_addCell_7 : decode b_Mod_addCell 7 = .ok (.iadd, 1) := by decide +kernel
theorem d_Mod_addCell_8 : decode b_Mod_addCell 8 = .ok (.invokevirtual 258, 3) := by decide +kernel
theorem d_Mod_addCell_11 : decode b_Mod_addCell 11 = .ok (.aload_n 0, 1) := by decide +kernel
theorem d_Mod_addCell_12 : decode b_Mod_addCell 12 = .ok (.iload_n 1, 1) := by decide +kernel
theorem d_Mod_addCell_13 : decode b_Mod_addCell 13 = .ok (.bipush 6, 2) := by decide +kernel
theorem d_Mod_addCell_15 : decode b_Mod_addCell 15 = .ok (.irem, 1) := by decide +kernel
theorem d_Mod_addCell_16 : decode b_Mod_addCell 16 = .ok (.invokestatic 264, 3) := by decide +kernel
theorem d_Mod_addCell_19 : decode b_Mod_addCell 19 = .ok (.invokevirtual 258, 3) := by decide +kernel
theorem d_Mod_addCell_22 : decode b_Mod_addCell 22 = .ok (.return_, 1) := by decide +kernel
theorem d_Mod_enclose_0 : decode b_Mod_enclose 0 = .ok (.aload_n 0, 1) := by decide +kernel
theorem d_Mod_enclose_1 : decode b_Mod_enclose 1 = .ok (.iload_n 1, 1) := by decide +kernel
theorem d_Mod_enclose_2 : decode b_Mod_enclose 2 = .ok (.bipush 40, 2) := by decide +kernel
theorem d_Mod_enclose_4 : decode b_Mod_enclose 4 = .ok (.invokevirtual 267, 3) := by decide +kernel
theorem d_Mod_enclose_7 : decode b_Mod_enclose 7 = .ok (.aload_n 0, 1) := by decide +kernel
theorem d_Mod_enclose_8 : decode b_Mod_enclose 8 = .ok (.bipush 41, 2) := by decide +kernel
theorem d_Mod_enclose_10 : decode b_Mod_enclose 10 = .ok (.invokevirtual 258, 3) := by decide +kernel
theorem d_Mod_enclose_13 : decode b_Mod_enclose 13 = .ok (.return_, 1) := by decide +kernel
theorem d_Mod_printSign_0 : decode b_Mod_printSign 0 = .ok (.iload_n 1, 1) := by decide +kernel
theorem d_Mod_printSign_1 : decode b_Mod_printSign 1 = .ok (.iconst 3, 1) := by decide +kernel
theorem d_Mod_printSign_2 : decode b_Mod_printSign 2 = .ok (.if_icmp .gt 58, 3) := by decide +kernel
theorem d_Mod_printSign_5 : decode b_Mod_printSign 5 = .ok (.aload_n 0, 1) := by decide +kernel
theorem d_Mod_printSign_6 : decode b_Mod_printSign 6 = .ok (.getfield 78, 3) := by decide +kernel
theorem d_Mod_printSign_9 : decode b_Mod_printSign 9 = .ok (.iload_n 3, 1) := by decide +kernel
theorem d_Mod_printSign_10 : decode b_Mod_printSign 10 = .ok (.aload_n 0, 1) := by decide +kernel
theorem d_Mod_printSign_11 : decode b_Mod_printSign 11 = .ok (.getfield 255, 3) := by decide +kernel
theorem d_Mod_printSign_14 : decode b_Mod_printSign 14 = .ok (.iastore, 1) := by decide +kernel
theorem d_Mod_printSign_15 : decode b_Mod_printSign 15 = .ok (.aload_n 0, 1) := by decide +kernel
theorem d_Mod_printSign_16 : decode b_Mod_printSign 16 = .ok (.getfield 81, 3) := by decide +kernel
theorem d_Mod_printSign_19 : decode b_Mod_printSign 19 = .ok (.iload_n 3, 1) := by decide +kernel
theorem d_Mod_printSign_20 : decode b_Mod_printSign 20 = .ok (.iconst 3, 1) := by decide +kernel
theorem d_Mod_printSign_21 : decode b_Mod_printSign 21 = .ok (.iastore, 1) := by decide +kernel
theorem d_Mod_printSign_22 : decode b_Mod_printSign 22 = .ok (.iload_n 1, 1) := by decide +kernel
theorem d_Mod_printSign_23 : decode b_Mod_printSign 23 = .ok (.iconst 1, 1) := by decide +kernel
theorem d_Mod_printSign_24 : decode b_Mod_printSign 24 = .ok (.if_icmp .ne 11, 3) := by decide +kernel
theorem d_Mod_printSign_27 : decode b_Mod_printSign 27 = .ok (.aload_n 0, 1) := by decide +kernel
theorem d_Mod_printSign_28 : decode b_Mod_printSign 28 = .ok (.iload_n 2, 1) := by decide +kernel
theorem d_Mod_printSign_29 : decode b_Mod_printSign 29 = .ok (.invokevirtual 270, 3) := by decide +kernel
theorem d_Mod_printSign_32 : decode b_Mod_printSign 32 = .ok (.goto 24, 3) := by decide +kernel
theorem d_Mod_printSign_35 : decode b_Mod_printSign 35 = .ok (.iload_n 1, 1) := by decide +kernel
theorem d_Mod_printSign_36 : decode b_Mod_printSign 36 = .ok (.iconst 2, 1) := by decide +kernel
theorem d_Mod_printSign_37 : decode b_Mod_printSign 37 = .ok (.if_icmp .ne 14, 3) := by decide +kernel
theorem d_Mod_printSign_40 : decode b_Mod_printSign 40 = .ok (.aload_n 0, 1) := by decide +kernel
theorem d_Mod_printSign_41 : decode b_Mod_printSign 41 = .ok (.bipush 97, 2) := by decide +kernel
theorem d_Mod_printSign_43 : decode b_Mod_printSign 43 = .ok (.iload_n 2, 1) := by decide +kernel
theorem d_Mod_printSign_44 : decode b_Mod_printSign 44 = .ok (.iadd, 1) := by decide +kernel
theorem d_Mod_printSign_45 : decode b_Mod_printSign 45 = .ok (.invokevirtual 258, 3) := by decide +kernel
theorem d_Mod_printSign_48 : decode b_Mod_printSign 48 = .ok (.goto 8, 3) := by decide +kernel
theorem d_Mod_printSign_51 : decode b_Mod_printSign 51 = .ok (.aload_n 0, 1) := by decide +kernel
theorem d_Mod_printSign_52 : decode b_Mod_printSign 52 = .ok (.iload_n 2, 1) := by decide +kernel
theorem d_Mod_printSign_53 : decode b_Mod_printSign 53 = .ok (.invokevirtual 273, 3) := by decide +kernel
theorem d_Mod_printSign_56 : decode b_Mod_printSign 56 = .ok (.iload_n 3, 1) := by decide +kernel
theorem d_Mod_printSign_57 : decode b_Mod_printSign 57 = .ok (.iconst 1, 1) := by decide +kernel
theorem d_Mod_printSign_58 : decode b_Mod_printSign 58 = .ok (.iadd, 1) := by decide +kernel
theorem d_Mod_printSign_59 : decode b_Mod_printSign 59 = .ok (.ireturn, 1) := by decide +kernel
theorem d_Mod_printSign_60 : decode b_Mod_printSign 60 = .ok (.iload_n 1, 1) := by decide +kernel
theorem d_Mod_printSign_61 : decode b_Mod_printSign 61 = .ok (.iconst 4, 1) := by decide +kernel
theorem d_Mod_printSign_62 : decode b_Mod_printSign 62 = .ok (.if_icmp .ne 52, 3) := by decide +kernel
theorem d_Mod_printSign_65 : decode b_Mod_printSign 65 = .ok (.aload_n 0, 1) := by decide +kernel
theorem d_Mod_printSign_66 : decode b_Mod_printSign 66 = .ok (.getfield 81, 3) := by decide +kernel
theorem d_Mod_printSign_69 : decode b_Mod_printSign 69 = .ok (.iload_n 3, 1) := by decide +kernel
theorem d_Mod_printSign_70 : decode b_Mod_printSign 70 = .ok (.iconst 1, 1) := by decide +kernel
theorem d_Mod_printSign_71 : decode b_Mod_printSign 71 = .ok (.isub, 1) := by decide +kernel
theorem d_Mod_printSign_72 : decode b_Mod_printSign 72 = .ok (.iaload, 1) := by decide +kernel
theorem d_Mod_printSign_73 : decode b_Mod_printSign 73 = .ok (.iconst 3, 1) := by decide +kernel
theorem d_Mod_printSign_74 : decode b_Mod_printSign 74 = .ok (.if_icmp .ge 15, 3) := by decide +kernel
theorem d_Mod_printSign_77 : decode b_Mod_printSign 77 = .ok (.aload_n 0, 1) := by decide +kernel
theorem d_Mod_printSign_78 : decode b_Mod_printSign 78 = .ok (.aload_n 0, 1) := by decide +kernel
theorem d_Mod_printSign_79 : decode b_Mod_printSign 79 = .ok (.getfield 78, 3) := by decide +kernel
theorem d_Mod_printSign_82 : decode b_Mod_printSign 82 = .ok (.iload_n 3, 1) := by decide +kernel
theorem d_Mod_printSign_83 : decode b_Mod_printSign 83 = .ok (.iconst 1, 1) := by decide +kernel
theorem d_Mod_printSign_84 : decode b_Mod_printSign 84 = .ok (.isub, 1) := by decide +kernel
theorem d_Mod_printSign_85 : decode b_Mod_printSign 85 = .ok (.iaload, 1) := by decide +kernel
theorem d_Mod_printSign_86 : decode b_Mod_printSign 86 = .ok (.invokevirtual 276, 3) := by decide +kernel
theorem d_Mod_printSign_89 : decode b_Mod_printSign 89 = .ok (.aload_n 0, 1) := by decide +kernel
theorem d_Mod_printSign_90 : decode b_Mod_printSign 90 = .ok (.aload_n 0, 1) := by decide +kernel
theorem d_Mod_printSign_91 : decode b_Mod_printSign 91 = .ok (.getfield 78, 3) := by decide +kernel
theorem d_Mod_printSign_94 : decode b_Mod_printSign 94 = .ok (.iload_n 3, 1) := by decide +kernel
theorem d_Mod_printSign_95 : decode b_Mod_printSign 95 = .ok (.iconst 1, 1) := by decide +kernel
theorem d_Mod_printSign_96 : decode b_Mod_printSign 96 = .ok (.isub, 1) := by decide +kernel
theorem d_Mod_printSign_97 : decode b_Mod_printSign 97 = .ok (.iaload, 1) := by decide +kernel
theorem d_Mod_printSign_98 : decode b_Mod_printSign 98 = .ok (.bipush 45, 2) := by decide +kernel
theorem d_Mod_printSign_100 : decode b_Mod_printSign 100 = .ok (.invokevirtual 267, 3) := by decide +kernel
theorem d_Mod_printSign_103 : decode b_Mod_printSign 103 = .ok (.aload_n 0, 1) := by decide +kernel
theorem d_Mod_printSign_104 : decode b_Mod_printSign 104 = .ok (.getfield 81, 3) := by decide +kernel
theorem d_Mod_printSign_107 : decode b_Mod_printSign 107 = .ok (.iload_n 3, 1) := by decide +kernel
theorem d_Mod_printSign_108 : decode b_Mod_printSign 108 = .ok (.iconst 1, 1) := by decide +kernel
theorem d_Mod_printSign_109 : decode b_Mod_printSign 109 = .ok (.isub, 1) := by decide +kernel
theorem d_Mod_printSign_110 : decode b_Mod_printSign 110 = .ok (.iconst 3, 1) := by decide +kernel
theorem d_Mod_printSign_111 : decode b_Mod_printSign 111 = .ok (.iastore, 1) := by decide +kernel
theorem d_Mod_printSign_112 : decode b_Mod_printSign 112 = .ok (.iload_n 3, 1) := by decide +kernel
theorem d_Mod_printSign_113 : decode b_Mod_printSign 113 = .ok (.ireturn, 1) := by decide +kernel
theorem d_Mod_printSign_114 : decode b_Mod_printSign 114 = .ok (.iload_n 1, 1) := by decide +kernel
theorem d_Mod_printSign_115 : decode b_Mod_printSign 115 = .ok (.bipush 7, 2) := by decide +kernel
theorem d_Mod_printSign_117 : decode b_Mod_printSign 117 = .ok (.if_icmp .eq 9, 3) := by decide +kernel
theorem d_Mod_printSign_120 : decode b_Mod_printSign 120 = .ok (.iload_n 1, 1) := by decide +kernel
theorem d_Mod_printSign_121 : decode b_Mod_printSign 121 = .ok (.bipush 8, 2) := by decide +kernel
theorem d_Mod_printSign_123 : decode b_Mod_printSign 123 = .ok (.if_icmp .ne 7, 3) := by decide +kernel
theorem d_Mod_printSign_126 : decode b_Mod_printSign 126 = .ok (.iconst 1, 1) := by decide +kernel
theorem d_Mod_printSign_127 : decode b_Mod_printSign 127 = .ok (.goto 4, 3) := by decide +kernel
theorem d_Mod_printSign_130 : decode b_Mod_printSign 130 = .ok (.iconst 0, 1) := by decide +kernel
theorem d_Mod_printSign_131 : decode b_Mod_printSign 131 = .ok (.istore 4, 2) := by decide +kernel
theorem d_Mod_printSign_133 : decode b_Mod_printSign 133 = .ok (.aload_n 0, 1) := by decide +kernel
theorem d_Mod_printSign_134 : decode b_Mod_printSign 134 = .ok (.getfield 81, 3) := by decide +kernel
theorem d_Mod_printSign_137 : decode b_Mod_printSign 137 = .ok (.iload_n 3, 1) := by decide +kernel
theorem d_Mod_printSign_138 : decode b_Mod_printSign 138 = .ok (.iconst 1, 1) := by decide +kernel
theorem d_Mod_printSign_139 : decode b_Mod_printSign 139 = .ok (.isub, 1) := by decide +kernel
theorem d_Mod_printSign_140 : decode b_Mod_printSign 140 = .ok (.iaload, 1) := by decide +kernel
theorem d_Mod_printSign_141 : decode b_Mod_printSign 141 = .ok (.istore 5, 2) := by decide +kernel
theorem d_Mod_printSign_143 : decode b_Mod_printSign 143 = .ok (.iload_n 1, 1) := by decide +kernel
theorem d_Mod_printSign_144 : decode b_Mod_printSign 144 = .ok (.bipush 9, 2) := by decide +kernel
theorem d_Mod_printSign_146 : decode b_Mod_printSign 146 = .ok (.if_icmp .eq 32, 3) := by decide +kernel
theorem d_Mod_printSign_149 : decode b_Mod_printSign 149 = .ok (.iload 5, 2) := by decide +kernel
theorem d_Mod_printSign_151 : decode b_Mod_printSign 151 = .ok (.iconst 1, 1) := by decide +kernel
theorem d_Mod_printSign_152 : decode b_Mod_printSign 152 = .ok (.if_icmp .eq 14, 3) := by decide +kernel
theorem d_Mod_printSign_155 : decode b_Mod_printSign 155 = .ok (.iload 4, 2) := by decide +kernel
theorem d_Mod_printSign_157 : decode b_Mod_printSign 157 = .ok (.ifCond .eq 21, 3) := by decide +kernel
theorem d_Mod_printSign_160 : decode b_Mod_printSign 160 = .ok (.iload 5, 2) := by decide +kernel
theorem d_Mod_printSign_162 : decode b_Mod_printSign 162 = .ok (.iconst 2, 1) := by decide +kernel
theorem d_Mod_printSign_163 : decode b_Mod_printSign 163 = .ok (.if_icmp .ne 15, 3) := by decide +kernel
theorem d_Mod_printSign_166 : decode b_Mod_printSign 166 = .ok (.aload_n 0, 1) := by decide +kernel
theorem d_Mod_printSign_167 : decode b_Mod_printSign 167 = .ok (.aload_n 0, 1) := by decide +kernel
theorem d_Mod_printSign_168 : decode b_Mod_printSign 168 = .ok (.getfield 78, 3) := by decide +kernel
theorem d_Mod_printSign_171 : decode b_Mod_printSign 171 = .ok (.iload_n 3, 1) := by decide +kernel
theorem d_Mod_printSign_172 : decode b_Mod_printSign 172 = .ok (.iconst 1, 1) := by decide +kernel
theorem d_Mod_printSign_173 : decode b_Mod_printSign 173 = .ok (.isub, 1) := by decide +kernel
theorem d_Mod_printSign_174 : decode b_Mod_printSign 174 = .ok (.iaload, 1) := by decide +kernel
theorem d_Mod_printSign_175 : decode b_Mod_printSign 175 = .ok (.invokevirtual 276, 3) := by decide +kernel
theorem d_Mod_printSign_178 : decode b_Mod_printSign 178 = .ok (.aload_n 0, 1) := by decide +kernel
theorem d_Mod_printSign_179 : decode b_Mod_printSign 179 = .ok (.aload_n 0, 1) := by decide +kernel
theorem d_Mod_printSign_180 : decode b_Mod_printSign 180 = .ok (.getfield 78, 3) := by decide +kernel
theorem d_Mod_printSign_183 : decode b_Mod_printSign 183 = .ok (.iload_n 3, 1) := by decide +kernel
theorem d_Mod_printSign_184 : decode b_Mod_printSign 184 = .ok (.iconst 1, 1) := by decide +kernel
theorem d_Mod_printSign_185 : decode b_Mod_printSign 185 = .ok (.isub, 1) := by decide +kernel
theorem d_Mod_printSign_186 : decode b_Mod_printSign 186 = .ok (.iaload, 1) := by decide +kernel
theorem d_Mod_printSign_187 : decode b_Mod_printSign 187 = .ok (.iload_n 1, 1) := by decide +kernel
theorem d_Mod_printSign_188 : decode b_Mod_printSign 188 = .ok (.iconst 5, 1) := by decide +kernel
theorem d_Mod_printSign_189 : decode b_Mod_printSign 189 = .ok (.if_icmp .ne 8, 3) := by decide +kernel
theorem d_Mod_printSign_192 : decode b_Mod_printSign 192 = .ok (.bipush 43, 2) := by decide +kernel
theorem d_Mod_printSign_194 : decode b_Mod_printSign 194 = .ok (.goto 37, 3) := by decide +kernel
theorem d_Mod_printSign_197 : decode b_Mod_printSign 197 = .ok (.iload_n 1, 1) := by decide +kernel
theorem d_Mod_printSign_198 : decode b_Mod_printSign 198 = .ok (.bipush 6, 2) := by decide +kernel
theorem d_Mod_printSign_200 : decode b_Mod_printSign 200 = .ok (.if_icmp .ne 8, 3) := by decide +kernel
theorem d_Mod_printSign_203 : decode b_Mod_printSign 203 = .ok (.bipush 45, 2) := by decide +kernel
theorem d_Mod_printSign_205 : decode b_Mod_printSign 205 = .ok (.goto 26, 3) := by decide +kernel
theorem d_Mod_printSign_208 : decode b_Mod_printSign 208 = .ok (.iload_n 1, 1) := by decide +kernel
theorem d_Mod_printSign_209 : decode b_Mod_printSign 209 = .ok (.bipush 7, 2) := by decide +kernel
theorem d_Mod_printSign_211 : decode b_Mod_printSign 211 = .ok (.if_icmp .ne 8, 3) := by decide +kernel
theorem d_Mod_printSign_214 : decode b_Mod_printSign 214 = .ok (.bipush 42, 2) := by decide +kernel
theorem d_Mod_printSign_216 : decode b_Mod_printSign 216 = .ok (.goto 15, 3) := by decide +kernel
theorem d_Mod_printSign_219 : decode b_Mod_printSign 219 = .ok (.iload_n 1, 1) := by decide +kernel
theorem d_Mod_printSign_220 : decode b_Mod_printSign 220 = .ok (.bipush 8, 2) := by decide +kernel
theorem d_Mod_printSign_222 : decode b_Mod_printSign 222 = .ok (.if_icmp .ne 8, 3) := by decide +kernel
theorem d_Mod_printSign_225 : decode b_Mod_printSign 225 = .ok (.bipush 47, 2) := by decide +kernel
theorem d_Mod_printSign_227 : decode b_Mod_printSign 227 = .ok (.goto 4, 3) := by decide +kernel
theorem d_Mod_printSign_230 : decode b_Mod_printSign 230 = .ok (.iload_n 2, 1) := by decide +kernel
theorem d_Mod_printSign_231 : decode b_Mod_printSign 231 = .ok (.invokevirtual 267, 3) := by decide +kernel
theorem d_Mod_printSign_234 : decode b_Mod_printSign 234 = .ok (.iload 4, 2) := by decide +kernel
theorem d_Mod_printSign_236 : decode b_Mod_printSign 236 = .ok (.ifCond .eq 43, 3) := by decide +kernel
theorem d_Mod_printSign_239 : decode b_Mod_printSign 239 = .ok (.aload_n 0, 1) := by decide +kernel
theorem d_Mod_printSign_240 : decode b_Mod_printSign 240 = .ok (.getfield 81, 3) := by decide +kernel
theorem d_Mod_printSign_243 : decode b_Mod_printSign 243 = .ok (.iload_n 3, 1) := by decide +kernel
theorem d_Mod_printSign_244 : decode b_Mod_printSign 244 = .ok (.iconst 2, 1) := by decide +kernel
theorem d_Mod_printSign_245 : decode b_Mod_printSign 245 = .ok (.isub, 1) := by decide +kernel
theorem d_Mod_printSign_246 : decode b_Mod_printSign 246 = .ok (.iaload, 1) := by decide +kernel
theorem d_Mod_printSign_247 : decode b_Mod_printSign 247 = .ok (.iconst 1, 1) := by decide +kernel
theorem d_Mod_printSign_248 : decode b_Mod_printSign 248 = .ok (.if_icmp .ne 31, 3) := by decide +kernel
theorem d_Mod_printSign_251 : decode b_Mod_printSign 251 = .ok (.aload_n 0, 1) := by decide +kernel
theorem d_Mod_printSign_252 : decode b_Mod_printSign 252 = .ok (.aload_n 0, 1) := by decide +kernel
theorem d_Mod_printSign_253 : decode b_Mod_printSign 253 = .ok (.getfield 78, 3) := by decide +kernel
theorem d_Mod_printSign_256 : decode b_Mod_printSign 256 = .ok (.iload_n 3, 1) := by decide +kernel
theorem d_Mod_printSign_257 : decode b_Mod_printSign 257 = .ok (.iconst 1, 1) := by decide +kernel
theorem d_Mod_printSign_258 : decode b_Mod_printSign 258 = .ok (.isub, 1) := by decide +kernel
theorem d_Mod_printSign_259 : decode b_Mod_printSign 259 = .ok (.iaload, 1) := by decide +kernel
theorem d_Mod_printSign_260 : decode b_Mod_printSign 260 = .ok (.bipush 41, 2) := by decide +kernel
theorem d_Mod_printSign_262 : decode b_Mod_printSign 262 = .ok (.invokevirtual 267, 3) := by decide +kernel
theorem d_Mod_printSign_265 : decode b_Mod_printSign 265 = .ok (.aload_n 0, 1) := by decide +kernel
theorem d_Mod_printSign_266 : decode b_Mod_printSign 266 = .ok (.aload_n 0, 1) := by decide +kernel
theorem d_Mod_printSign_267 : decode b_Mod_printSign 267 = .ok (.getfield 78, 3) := by decide +kernel
theorem d_Mod_printSign_270 : decode b_Mod_printSign 270 = .ok (.iload_n 3, 1) := by decide +kernel
theorem d_Mod_printSign_271 : decode b_Mod_printSign 271 = .ok (.iconst 2, 1) := by decide +kernel
theorem d_Mod_printSign_272 : decode b_Mod_printSign 272 = .ok (.isub, 1) := by decide +kernel
theorem d_Mod_printSign_273 : decode b_Mod_printSign 273 = .ok (.iaload, 1) := by decide +kernel
theorem d_Mod_printSign_274 : decode b_Mod_printSign 274 = .ok (.bipush 40, 2) := by decide +kernel
theorem d_Mod_printSign_276 : decode b_Mod_printSign 276 = .ok (.invokevirtual 267, 3) := by decide +kernel
theorem d_Mod_printSign_279 : decode b_Mod_printSign 279 = .ok (.aload_n 0, 1) := by decide +kernel
theorem d_Mod_printSign_280 : decode b_Mod_printSign 280 = .ok (.getfield 81, 3) := by decide +kernel
theorem d_Mod_printSign_283 : decode b_Mod_printSign 283 = .ok (.iload_n 3, 1) := by decide +kernel
theorem d_Mod_printSign_284 : decode b_Mod_printSign 284 = .ok (.iconst 2, 1) := by decide +kernel
theorem d_Mod_printSign_285 : decode b_Mod_printSign 285 = .ok (.isub, 1) := by decide +kernel
theorem d_Mod_printSign_286 : decode b_Mod_printSign 286 = .ok (.iload 4, 2) := by decide +kernel
theorem d_Mod_printSign_288 : decode b_Mod_printSign 288 = .ok (.ifCond .eq 7, 3) := by decide +kernel
theorem d_Mod_printSign_291 : decode b_Mod_printSign 291 = .ok (.iconst 2, 1) := by decide +kernel
theorem d_Mod_printSign_292 : decode b_Mod_printSign 292 = .ok (.goto 4, 3) := by decide +kernel
theorem d_Mod_printSign_295 : decode b_Mod_printSign 295 = .ok (.iconst 1, 1) := by decide +kernel
theorem d_Mod_printSign_296 : decode b_Mod_printSign 296 = .ok (.iastore, 1) := by decide +kernel
theorem d_Mod_printSign_297 : decode b_Mod_printSign 297 = .ok (.iload_n 3, 1) := by decide +kernel
theorem d_Mod_printSign_298 : decode b_Mod_printSign 298 = .ok (.iconst 1, 1) := by decide +kernel
theorem d_Mod_printSign_299 : decode b_Mod_printSign 299 = .ok (.isub, 1) := by decide +kernel
theorem d_Mod_printSign_300 : decode b_Mod_printSign 300 = .ok (.ireturn, 1) := by decide +kernel
theorem d_Mod_printStatement_0 : decode b_Mod_printStatement 0 = .ok (.aload_n 0, 1) := by decide +kernel
theorem d_Mod_printStatement_1 : decode b_Mod_printStatement 1 = .ok (.getfield 28, 3) := by decide +kernel
theorem d_Mod_printStatement_4 : decode b_Mod_printStatement 4 = .ok (.iload_n 1, 1) := by decide +kernel
theorem d_Mod_printStatement_5 : decode b_Mod_printStatement 5 = .ok (.iaload, 1) := by decide +kernel
theorem d_Mod_printStatement_6 : decode b_Mod_printStatement 6 = .ok (.ifCond .ge 12, 3) := by decide +kernel
theorem d_Mod_printStatement_9 : decode b_Mod_printStatement 9 = .ok (.aload_n 0, 1) := by decide +kernel
theorem d_Mod_printStatement_10 : decode b_Mod_printStatement 10 = .ok (.bipush 33, 2) := by decide +kernel
theorem d_Mod_printStatement_12 : decode b_Mod_printStatement 12 = .ok (.invokevirtual 258, 3) := by decide +kernel
theorem d_Mod_printStatement_15 : decode b_Mod_printStatement 15 = .ok (.goto 19, 3) := by decide +kernel
theorem d_Mod_printStatement_18 : decode b_Mod_printStatement 18 = .ok (.aload_n 0, 1) := by decide +kernel
theorem d_Mod_printStatement_19 : decode b_Mod_printStatement 19 = .ok (.aload_n 0, 1) := by decide +kernel
theorem d_Mod_printStatement_20 : decode b_Mod_printStatement 20 = .ok (.getfield 28, 3) := by decide +kernel
theorem d_Mod_printStatement_23 : decode b_Mod_printStatement 23 = .ok (.iload_n 1, 1) := by decide +kernel
theorem d_Mod_printStatement_24 : decode b_Mod_printStatement 24 = .ok (.iaload, 1) := by decide +kernel
theorem d_Mod_printStatement_25 : decode b_Mod_printStatement 25 = .ok (.invokevirtual 273, 3) := by decide +kernel
theorem d_Mod_printStatement_28 : decode b_Mod_printStatement 28 = .ok (.aload_n 0, 1) := by decide +kernel
theorem d_Mod_printStatement_29 : decode b_Mod_printStatement 29 = .ok (.bipush 61, 2) := by decide +kernel
theorem d_Mod_printStatement_31 : decode b_Mod_printStatement 31 = .ok (.invokevirtual 258, 3) := by decide +kernel
theorem d_Mod_printStatement_34 : decode b_Mod_printStatement 34 = .ok (.iconst 0, 1) := by decide +kernel
theorem d_Mod_printStatement_35 : decode b_Mod_printStatement 35 = .ok (.istore_n 2, 1) := by decide +kernel
theorem d_Mod_printStatement_36 : decode b_Mod_printStatement 36 = .ok (.aload_n 0, 1) := by decide +kernel
theorem d_Mod_printStatement_37 : decode b_Mod_printStatement 37 = .ok (.getfield 25, 3) := by decide +kernel
theorem d_Mod_printStatement_40 : decode b_Mod_printStatement 40 = .ok (.iload_n 1, 1) := by decide +kernel
theorem d_Mod_printStatement_41 : decode b_Mod_printStatement 41 = .ok (.iaload, 1) := by decide +kernel
theorem d_Mod_printStatement_42 : decode b_Mod_printStatement 42 = .ok (.istore_n 3, 1) := by decide +kernel
theorem d_Mod_printStatement_43 : decode b_Mod_printStatement 43 = .ok (.iload_n 3, 1) := by decide +kernel
theorem d_Mod_printStatement_44 : decode b_Mod_printStatement 44 = .ok (.aload_n 0, 1) := by decide +kernel
theorem d_Mod_printStatement_45 : decode b_Mod_printStatement 45 = .ok (.getfield 25, 3) := by decide +kernel
theorem d_Mod_printStatement_48 : decode b_Mod_printStatement 48 = .ok (.iload_n 1, 1) := by decide +kernel
theorem d_Mod_printStatement_49 : decode b_Mod_printStatement 49 = .ok (.iconst 1, 1) := by decide +kernel
theorem d_Mod_printStatement_50 : decode b_Mod_printStatement 50 = .ok (.iadd, 1) := by decide +kernel
theorem d_Mod_printStatement_51 : decode b_Mod_printStatement 51 = .ok (.iaload, 1) := by decide +kernel
theorem d_Mod_printStatement_52 : decode b_Mod_printStatement 52 = .ok (.if_icmp .ge 77, 3) := by decide +kernel
theorem d_Mod_printStatement_55 : decode b_Mod_printStatement 55 = .ok (.aload_n 0, 1) := by decide +kernel
theorem d_Mod_printStatement_56 : decode b_Mod_printStatement 56 = .ok (.getfield 13, 3) := by decide +kernel
theorem d_Mod_printStatement_59 : decode b_Mod_printStatement 59 = .ok (.iload_n 3, 1) := by decide +kernel
theorem d_Mod_printStatement_60 : decode b_Mod_printStatement 60 = .ok (.iaload, 1) := by decide +kernel
theorem d_Mod_printStatement_61 : decode b_Mod_printStatement 61 = .ok (.bipush 10, 2) := by decide +kernel
theorem d_Mod_printStatement_63 : decode b_Mod_printStatement 63 = .ok (.if_icmp .ne 14, 3) := by decide +kernel
theorem d_Mod_printStatement_66 : decode b_Mod_printStatement 66 = .ok (.aload_n 0, 1) := by decide +kernel
theorem d_Mod_printStatement_67 : decode b_Mod_printStatement 67 = .ok (.bipush 58, 2) := by decide +kernel
theorem d_Mod_printStatement_69 : decode b_Mod_printStatement 69 = .ok (.invokevirtual 258, 3) := by decide +kernel
theorem d_Mod_printStatement_72 : decode b_Mod_printStatement 72 = .ok (.iconst 0, 1) := by decide +kernel
theorem d_Mod_printStatement_73 : decode b_Mod_printStatement 73 = .ok (.istore_n 2, 1) := by decide +kernel
theorem d_Mod_printStatement_74 : decode b_Mod_printStatement 74 = .ok (.goto 21, 3) := by decide +kernel
theorem d_Mod_printStatement_77 : decode b_Mod_printStatement 77 = .ok (.aload_n 0, 1) := by decide +kernel
theorem d_Mod_printStatement_78 : decode b_Mod_printStatement 78 = .ok (.aload_n 0, 1) := by decide +kernel
theorem d_Mod_printStatement_79 : decode b_Mod_printStatement 79 = .ok (.getfield 13, 3) := by decide +kernel
theorem d_Mod_printStatement_82 : decode b_Mod_printStatement 82 = .ok (.iload_n 3, 1) := by decide +kernel
theorem d_Mod_printStatement_83 : decode b_Mod_printStatement 83 = .ok (.iaload, 1) := by decide +kernel
theorem d_Mod_printStatement_84 : decode b_Mod_printStatement 84 = .ok (.aload_n 0, 1) := by decide +kernel
theorem d_Mod_printStatement_85 : decode b_Mod_printStatement 85 = .ok (.getfield 16, 3) := by decide +kernel
theorem d_Mod_printStatement_88 : decode b_Mod_printStatement 88 = .ok (.iload_n 3, 1) := by decide +kernel
theorem d_Mod_printStatement_89 : decode b_Mod_printStatement 89 = .ok (.iaload, 1) := by decide +kernel
theorem d_Mod_printStatement_90 : decode b_Mod_printStatement 90 = .ok (.iload_n 2, 1) := by decide +kernel
theorem d_Mod_printStatement_91 : decode b_Mod_printStatement 91 = .ok (.invokevirtual 279, 3) := by decide +kernel
theorem d_Mod_printStatement_94 : decode b_Mod_printStatement 94 = .ok (.istore_n 2, 1) := by decide +kernel
theorem d_Mod_printStatement_95 : decode b_Mod_printStatement 95 = .ok (.aload_n 0, 1) := by decide +kernel
theorem d_Mod_printStatement_96 : decode b_Mod_printStatement 96 = .ok (.getfield 13, 3) := by decide +kernel
theorem d_Mod_printStatement_99 : decode b_Mod_printStatement 99 = .ok (.iload_n 3, 1) := by decide +kernel
theorem d_Mod_printStatement_100 : decode b_Mod_printStatement 100 = .ok (.iaload, 1) := by decide +kernel
theorem d_Mod_printStatement_101 : decode b_Mod_printStatement 101 = .ok (.bipush 9, 2) := by decide +kernel
theorem d_Mod_printStatement_103 : decode b_Mod_printStatement 103 = .ok (.if_icmp .ne 20, 3) := by decide +kernel
theorem d_Mod_printStatement_106 : decode b_Mod_printStatement 106 = .ok (.aload_n 0, 1) := by decide +kernel
theorem d_Mod_printStatement_107 : decode b_Mod_printStatement 107 = .ok (.getfield 28, 3) := by decide +kernel
theorem d_Mod_printStatement_110 : decode b_Mod_printStatement 110 = .ok (.iload_n 1, 1) := by decide +kernel
theorem d_Mod_printStatement_111 : decode b_Mod_printStatement 111 = .ok (.iaload, 1) := by decide +kernel
theorem d_Mod_printStatement_112 : decode b_Mod_printStatement 112 = .ok (.ifCond .lt 11, 3) := by decide +kernel
theorem d_Mod_printStatement_115 : decode b_Mod_printStatement 115 = .ok (.aload_n 0, 1) := by decide +kernel
theorem d_Mod_printStatement_116 : decode b_Mod_printStatement 116 = .ok (.bipush 63, 2) := by decide +kernel
theorem d_Mod_printStatement_118 : decode b_Mod_printStatement 118 = .ok (.invokevirtual 258, 3) := by decide +kernel
theorem d_Mod_printStatement_121 : decode b_Mod_printStatement 121 = .ok (.iconst 0, 1) := by decide +kernel
theorem d_Mod_printStatement_122 : decode b_Mod_printStatement 122 = .ok (.istore_n 2, 1) := by decide +kernel
theorem d_Mod_printStatement_123 : decode b_Mod_printStatement 123 = .ok (.iinc 3 1, 3) := by decide +kernel
theorem d_Mod_printStatement_126 : decode b_Mod_printStatement 126 = .ok (.goto (-83), 3) := by decide +kernel
theorem d_Mod_printStatement_129 : decode b_Mod_printStatement 129 = .ok (.return_, 1) := by decide +kernel
theorem d_Mod_write_0 : decode b_Mod_write 0 = .ok (.aload_n 0, 1) := by decide +kernel
theorem d_Mod_write_1 : decode b_Mod_write 1 = .ok (.aload_n 0, 1) := by decide +kernel
theorem d_Mod_write_2 : decode b_Mod_write 2 = .ok (.getfield 166, 3) := by decide +kernel
theorem d_Mod_write_5 : decode b_Mod_write 5 = .ok (.ifCond .ne 7, 3) := by decide +kernel
theorem d_Mod_write_8 : decode b_Mod_write 8 = .ok (.iconst 1, 1) := by decide +kernel
theorem d_Mod_write_9 : decode b_Mod_write 9 = .ok (.goto 12, 3) := by decide +kernel
theorem d_Mod_write_12 : decode b_Mod_write 12 = .ok (.iload_n 1, 1) := by decide +kernel
theorem d_Mod_write_13 : decode b_Mod_write 13 = .ok (.ifCond .ge 7, 3) := by decide +kernel
theorem d_Mod_write_16 : decode b_Mod_write 16 = .ok (.iconst 2, 1) := by decide +kernel
theorem d_Mod_write_17 : decode b_Mod_write 17 = .ok (.goto 4, 3) := by decide +kernel
theorem d_Mod_write_20 : decode b_Mod_write 20 = .ok (.iconst 0, 1) := by decide +kernel
theorem d_Mod_write_21 : decode b_Mod_write 21 = .ok (.putfield 84, 3) := by decide +kernel
theorem d_Mod_write_24 : decode b_Mod_write 24 = .ok (.aload_n 0, 1) := by decide +kernel
theorem d_Mod_write_25 : decode b_Mod_write 25 = .ok (.getfield 84, 3) := by decide +kernel
theorem d_Mod_write_28 : decode b_Mod_write 28 = .ok (.ifCond .le 5, 3) := by decide +kernel
theorem d_Mod_write_31 : decode b_Mod_write 31 = .ok (.iconst 0, 1) := by decide +kernel
theorem d_Mod_write_32 : decode b_Mod_write 32 = .ok (.ireturn, 1) := by decide +kernel
theorem d_Mod_write_33 : decode b_Mod_write 33 = .ok (.aload_n 0, 1) := by decide +kernel
theorem d_Mod_write_34 : decode b_Mod_write 34 = .ok (.iconst 0, 1) := by decide +kernel
theorem d_Mod_write_35 : decode b_Mod_write 35 = .ok (.putfield 255, 3) := by decide +kernel
theorem d_Mod_write_38 : decode b_Mod_write 38 = .ok (.iconst 0, 1) := by decide +kernel
theorem d_Mod_write_39 : decode b_Mod_write 39 = .ok (.istore_n 2, 1) := by decide +kernel
theorem d_Mod_write_40 : decode b_Mod_write 40 = .ok (.iload_n 2, 1) := by decide +kernel
theorem d_Mod_write_41 : decode b_Mod_write 41 = .ok (.aload_n 0, 1) := by decide +kernel
theorem d_Mod_write_42 : decode b_Mod_write 42 = .ok (.getfield 22, 3) := by decide +kernel
theorem d_Mod_write_45 : decode b_Mod_write 45 = .ok (.iconst 0, 1) := by decide +kernel
theorem d_Mod_write_46 : decode b_Mod_write 46 = .ok (.iaload, 1) := by decide +kernel
theorem d_Mod_write_47 : decode b_Mod_write 47 = .ok (.if_icmp .ge 24, 3) := by decide +kernel
theorem d_Mod_write_50 : decode b_Mod_write 50 = .ok (.iload_n 2, 1) := by decide +kernel
theorem d_Mod_write_51 : decode b_Mod_write 51 = .ok (.ifCond .le 9, 3) := by decide +kernel
theorem d_Mod_write_54 : decode b_Mod_write 54 = .ok (.aload_n 0, 1) := by decide +kernel
theorem d_Mod_write_55 : decode b_Mod_write 55 = .ok (.bipush 59, 2) := by decide +kernel
theorem d_Mod_write_57 : decode b_Mod_write 57 = .ok (.invokevirtual 258, 3) := by decide +kernel
theorem d_Mod_write_60 : decode b_Mod_write 60 = .ok (.aload_n 0, 1) := by decide +kernel
theorem d_Mod_write_61 : decode b_Mod_write 61 = .ok (.iload_n 2, 1) := by decide +kernel
theorem d_Mod_write_62 : decode b_Mod_write 62 = .ok (.invokevirtual 283, 3) := by decide +kernel
theorem d_Mod_write_65 : decode b_Mod_write 65 = .ok (.iinc 2 1, 3) := by decide +kernel
theorem d_Mod_write_68 : decode b_Mod_write 68 = .ok (.goto (-28), 3) := by decide +kernel
theorem d_Mod_write_71 : decode b_Mod_write 71 = .ok (.iload_n 1, 1) := by decide +kernel
theorem d_Mod_write_72 : decode b_Mod_write 72 = .ok (.aload_n 0, 1) := by decide +kernel
theorem d_Mod_write_73 : decode b_Mod_write 73 = .ok (.getfield 255, 3) := by decide +kernel
theorem d_Mod_write_76 : decode b_Mod_write 76 = .ok (.if_icmp .ge 12, 3) := by decide +kernel
theorem d_Mod_write_79 : decode b_Mod_write 79 = .ok (.aload_n 0, 1) := by decide +kernel
theorem d_Mod_write_80 : decode b_Mod_write 80 = .ok (.getfield 75, 3) := by decide +kernel
theorem d_Mod_write_83 : decode b_Mod_write 83 = .ok (.iload_n 1, 1) := by decide +kernel
theorem d_Mod_write_84 : decode b_Mod_write 84 = .ok (.iaload, 1) := by decide +kernel
theorem d_Mod_write_85 : decode b_Mod_write 85 = .ok (.goto 4, 3) := by decide +kernel
theorem d_Mod_write_88 : decode b_Mod_write 88 = .ok (.iconst (-1), 1) := by decide +kernel
theorem d_Mod_write_89 : decode b_Mod_write 89 = .ok (.ireturn, 1) := by decide +kernel
theorem g_Mod_264 : GoodIn wsAll (wsS R_Mod 264 y_Mod_letterOf ws_Mod_letterOf) := gd_S ml_Mod_264 st_Mod_letterOf ini_Mod cd_Mod_letterOf
def F_Mod_addCell (x1 : Int32) (o0 : Ob) : Option (Ob) :=
  chk (decide (¬ (6 : Int32) = 0)) (bind1 (F_Mod_add ((65 : Int32) + (x1 / (6 : Int32))) o0) (fun o_3 => bind1 (F_Mod_letterOf (x1 - x1 / (6 : Int32) * (6 : Int32))) (fun v6 => bind1 (F_Mod_add v6 o_3) (fun o_8 => some o_8))))
abbrev ws_Mod_addCell : List Cond := Cond.code y_Mod_addCell b_Mod_addCell 2 (none : Option Jvm.ClassFile.FieldType) :: wsAll
abbrev rm_Mod_addCell : Room := { frames := 1, cells := 0, slots := 0, locals := 21 }
set_option maxHeartbeats 4000000 in
set_option maxRecDepth 100000 in
theorem c_Mod_addCell (l : Launch) (ct dC : Nat → ClassId) (dI : Nat → Nat → Nat) (a0 : Nat → Nat)  (sz : Nat) (x1 : Int32) (o0 : Ob) (n0 : Ob) (hF : F_Mod_addCell x1 o0 = some n0) : Met l y_Mod_addCell ws_Mod_addCell rm_Mod_addCell (bw_Pc [.ref (a0 0), .int x1] (dC, dI) vwCl (tyA ct) [wMod ct a0 o0] sz nx) (bw_Q (dC, dI) vwCl none [wMod ct a0 n0] (bw_A [adMod a0] sz)) 0 0 (bw_A [adMod a0] sz) := by
  refine Met.ofW (cc := b_Mod_addCell) (maxL := 2) (ret := (none : Option Jvm.ClassFile.FieldType)) (by decide) rfl ?_
  intro p e s m args below meth c s₁ B hml hv
  obtain ⟨rfl, hsz, hP, hK, hN0, hnx⟩ := hv
  have hx := B.exec
  have hb := B.bytes
  have hr := B.returns
  have hts : ∀ w ∈ wsAll, w.before [.ref (a0 0), .int x1].toArray s = true := fun w h9 => atoms_spec (ws := ws_Mod_addCell) B.pre w (List.mem_cons_of_mem _ h9)
  have hown : s.vm.findClass R_Mod = some m.cls := findClass_of_methodNamed B.named
  have hlocks := B.notSynchronized
  subst hsz
  have hN : bw_N (bw_A [adMod a0] s.heap.size) [adMod a0] := hN0.self s.heap.size
  generalize hAe : bw_A [adMod a0] s.heap.size = A at hN ⊢
  have hA : ∀ q : Nat, s.heap.size ≤ q → A q := fun q h => by rw [← hAe]; exact Or.inr h
  have hS : va_S A s.heap s.heap [] := va_S.rf
  have hl := lv_entry ([.ref (a0 0), .int x1]) (n := 2) (Nat.le_of_ble_eq_true rfl)
  rw [lg_entry_eq]
  generalize (lg_sl ([.ref (a0 0), .int x1]) ++ List.replicate (2 - (lg_sl ([.ref (a0 0), .int x1])).length) Slot.unset).toArray = ls at hl ⊢
  have hl : lv_has ls 2 [(0, .ref (a0 0)), (1, .int x1)] := hl
  have C0 : cx wsAll vwCl nx p s m [.ref (a0 0), .int x1].toArray meth c (dC, dI) (tyA ct) b_Mod_addCell 2 (none : Option Jvm.ClassFile.FieldType) R_Mod A [adMod a0] := ⟨hx, hb, hr, hml, hown, hlocks, hts, hK, hN, hA, hnx⟩
  have h := hF
  rw [F_Mod_addCell] at h
  refine lv_aload_n hx hb d_Mod_addCell_0 rfl (lv_at hl 0 rfl) ?_
  refine lv_bipush (v := 65) hx hb d_Mod_addCell_1 (by decide) ?_
  refine lv_iload_n hx hb d_Mod_addCell_3 rfl (lv_at hl 1 rfl) ?_
  refine lv_bipush (v := 6) hx hb d_Mod_addCell_4 (by decide) ?_
  obtain ⟨hz1, h⟩ := chk_some h
  refine lv_idiv hx hb d_Mod_addCell_6 (of_decide_eq_true hz1) ?_
  refine lv_iadd hx hb d_Mod_addCell_7 ?_
  obtain ⟨o_3, hG2, h⟩ := bind1_some h
  refine bw_call (Lc := [wMod ct a0 o0]) (Lc' := [wMod ct a0 o_3]) (L' := [wMod ct a0 o_3]) [0] (va_runV (As := [.int ((65 : Int32) + (x1 / (6 : Int32)))]) (rest := []) ⟨hx, hb, hml, hown, hts⟩ (c_Mod_add l ct dC dI a0 _ ((65 : Int32) + (x1 / (6 : Int32))) o0 o_3 hG2) (cwV 1 hts g_Mod_258 rfl rfl rfl (by decide +kernel) ⟨Nat.le_of_ble_eq_true rfl, Nat.le_of_ble_eq_true rfl⟩) ⟨bw_blind nx_call, va_recv hK (hP 0 _ rfl) (ci := 6) (q0 := 0) rfl rfl, fun U hU hW => ⟨rfl, by rw [hU], by rw [hU]; exact hP.sub [0] rfl, va_K.moved hW.alike hK, (hN.sub [0] (by decide) rfl).weaken (fun _ _ => trivial), nx_warm hW hnx⟩⟩ rfl rfl hl.1 rfl (Nat.le_of_ble_eq_true rfl) d_Mod_addCell_8 ⟨Nat.le_of_ble_eq_true rfl, Nat.le_of_ble_eq_true rfl⟩) hP hN hS hA rfl rfl rfl (fun H locs hP hS => ?_)
  refine lv_aload_n hx hb d_Mod_addCell_11 rfl (lv_at hl 0 rfl) ?_
  refine lv_iload_n hx hb d_Mod_addCell_12 rfl (lv_at hl 1 rfl) ?_
  refine lv_bipush (v := 6) hx hb d_Mod_addCell_13 (by decide) ?_
  refine lv_irem hx hb d_Mod_addCell_15 (of_decide_eq_true hz1) ?_
  obtain ⟨v6, hG5, h⟩ := bind1_some h
  refine bw_callR (va_runS (As := [.int (x1 - x1 / (6 : Int32) * (6 : Int32))]) (rest := [.ref (a0 0)]) ⟨hx, hb, hml, hown, hts⟩ (c_Mod_letterOf l ct dC dI _ (x1 - x1 / (6 : Int32) * (6 : Int32)) v6 hG5) (cwS 1 hts g_Mod_264 rfl rfl rfl (by decide +kernel) ⟨Nat.le_of_ble_eq_true rfl, Nat.le_of_ble_eq_true rfl⟩) ⟨bw_blind nx_call, fun U hU hW => ⟨rfl, by rw [hU], by rw [hU]; exact hP.sub [] rfl, va_K.moved hW.alike hK, (hN.sub [] (by decide) rfl).weaken (fun _ _ => trivial), nx_warm hW hnx⟩⟩ rfl rfl hl.1 rfl (Nat.le_of_ble_eq_true rfl) d_Mod_addCell_16 ⟨Nat.le_of_ble_eq_true rfl, Nat.le_of_ble_eq_true rfl⟩) ?_
  obtain ⟨o_8, hG7, h⟩ := bind1_some h
  refine bw_call (Lc := [wMod ct a0 o_3]) (Lc' := [wMod ct a0 o_8]) (L' := [wMod ct a0 o_8]) [0] (va_runV (As := [.int v6]) (rest := []) ⟨hx, hb, hml, hown, hts⟩ (c_Mod_add l ct dC dI a0 _ v6 o_3 o_8 hG7) (cwV 1 hts g_Mod_258 rfl rfl rfl (by decide +kernel) ⟨Nat.le_of_ble_eq_true rfl, Nat.le_of_ble_eq_true rfl⟩) ⟨bw_blind nx_call, va_recv hK (hP 0 _ rfl) (ci := 6) (q0 := 0) rfl rfl, fun U hU hW => ⟨rfl, by rw [hU], by rw [hU]; exact hP.sub [0] rfl, va_K.moved hW.alike hK, (hN.sub [0] (by decide) rfl).weaken (fun _ _ => trivial), nx_warm hW hnx⟩⟩ rfl rfl hl.1 rfl (Nat.le_of_ble_eq_true rfl) d_Mod_addCell_19 ⟨Nat.le_of_ble_eq_true rfl, Nat.le_of_ble_eq_true rfl⟩) hP hN hS hA rfl rfl rfl (fun H locs hP hS => ?_)
  obtain rfl := res1 h
  exact W.vret hx hb hr (fun t ht hW => ⟨rfl, by rw [ht]; exact hP, hS.F ht⟩) hS.2.2 d_Mod_addCell_22
theorem g_Mod_267 : GoodIn wsAll (wsV R_Mod 267 R_Mod y_Mod_insert ws_Mod_insert) := gd_V ml_Mod_267 im_Mod_insert se_Mod_insert ini_Mod cd_Mod_insert
def F_Mod_enclose (x1 : Int32) (o0 : Ob) : Option (Ob) :=
  bind1 (F_Mod_insert x1 (40 : Int32) o0) (fun o_2 => bind1 (F_Mod_add (41 : Int32) o_2) (fun o_4 => some o_4))
abbrev ws_Mod_enclose : List Cond := Cond.code y_Mod_enclose b_Mod_enclose 2 (none : Option Jvm.ClassFile.FieldType) :: wsAll
abbrev rm_Mod_enclose : Room := { frames := 1, cells := 0, slots := 0, locals := 23 }
set_option maxHeartbeats 4000000 in
set_option maxRecDepth 100000 in
theorem c_Mod_enclose (l : Launch) (ct dC : Nat → ClassId) (dI : Nat → Nat → Nat) (a0 : Nat → Nat)  (sz : Nat) (x1 : Int32) (o0 : Ob) (n0 : Ob) (hF : F_Mod_enclose x1 o0 = some n0) : Met l y_Mod_enclose ws_Mod_enclose rm_Mod_enclose (bw_Pc [.ref (a0 0), .int x1] (dC, dI) vwCl (tyA ct) [wMod ct a0 o0] sz nx) (bw_Q (dC, dI) vwCl none [wMod ct a0 n0] (bw_A [adMod a0] sz)) 0 0 (bw_A [adMod a0] sz) := by
  refine Met.ofW (cc := b_Mod_enclose) (maxL := 2) (ret := (none : Option Jvm.ClassFile.FieldType)) (by decide) rfl ?_
  intro p e s m args below meth c s₁ B hml hv
  obtain ⟨rfl, hsz, hP, hK, hN0, hnx⟩ := hv
  have hx := B.exec
  have hb := B.bytes
  have hr := B.returns
  have hts : ∀ w ∈ wsAll, w.before [.ref (a0 0), .int x1].toArray s = true := fun w h9 => atoms_spec (ws := ws_Mod_enclose) B.pre w (List.mem_cons_of_mem _ h9)
  have hown : s.vm.findClass R_Mod = some m.cls := findClass_of_methodNamed B.named
  have hlocks := B.notSynchronized
  subst hsz
  have hN : bw_N (bw_A [adMod a0] s.heap.size) [adMod a0] := hN0.self s.heap.size
  generalize hAe : bw_A [adMod a0] s.heap.size = A at hN ⊢
  have hA : ∀ q : Nat, s.heap.size ≤ q → A q := fun q h => by rw [← hAe]; exact Or.inr h
  have hS : va_S A s.heap s.heap [] := va_S.rf
  have hl := lv_entry ([.ref (a0 0), .int x1]) (n := 2) (Nat.le_of_ble_eq_true rfl)
  rw [lg_entry_eq]
  generalize (lg_sl ([.ref (a0 0), .int x1]) ++ List.replicate (2 - (lg_sl ([.ref (a0 0), .int x1])).length) Slot.unset).toArray = ls at hl ⊢
  have hl : lv_has ls 2 [(0, .ref (a0 0)), (1, .int x1)] := hl
  have C0 : cx wsAll vwCl nx p s m [.ref (a0 0), .int x1].toArray meth c (dC, dI) (tyA ct) b_Mod_enclose 2 (none : Option Jvm.ClassFile.FieldType) R_Mod A [adMod a0] := ⟨hx, hb, hr, hml, hown, hlocks, hts, hK, hN, hA, hnx⟩
  have h := hF
  rw [F_Mod_enclose] at h
  refine lv_aload_n hx hb d_Mod_enclose_0 rfl (lv_at hl 0 rfl) ?_
  refine lv_iload_n hx hb d_Mod_enclose_1 rfl (lv_at hl 1 rfl) ?_
  refine lv_bipush (v := 40) hx hb d_Mod_enclose_2 (by decide) ?_
  obtain ⟨o_2, hG1, h⟩ := bind1_some h
  refine bw_call (Lc := [wMod ct a0 o0]) (Lc' := [wMod ct a0 o_2]) (L' := [wMod ct a0 o_2]) [0] (va_runV (As := [.int x1, .int (40 : Int32)]) (rest := []) ⟨hx, hb, hml, hown, hts⟩ (c_Mod_insert l ct dC dI a0 _ x1 (40 : Int32) o0 o_2 hG1) (cwV 2 hts g_Mod_267 rfl rfl rfl (by decide +kernel) ⟨Nat.le_of_ble_eq_true rfl, Nat.le_of_ble_eq_true rfl⟩) ⟨bw_blind nx_call, va_recv hK (hP 0 _ rfl) (ci := 6) (q0 := 0) rfl rfl, fun U hU hW => ⟨rfl, by rw [hU], by rw [hU]; exact hP.sub [0] rfl, va_K.moved hW.alike hK, (hN.sub [0] (by decide) rfl).weaken (fun _ _ => trivial), nx_warm hW hnx⟩⟩ rfl rfl hl.1 rfl (Nat.le_of_ble_eq_true rfl) d_Mod_enclose_4 ⟨Nat.le_of_ble_eq_true rfl, Nat.le_of_ble_eq_true rfl⟩) hP hN hS hA rfl rfl rfl (fun H locs hP hS => ?_)
  refine lv_aload_n hx hb d_Mod_enclose_7 rfl (lv_at hl 0 rfl) ?_
  refine lv_bipush (v := 41) hx hb d_Mod_enclose_8 (by decide) ?_
  obtain ⟨o_4, hG3, h⟩ := bind1_some h
  refine bw_call (Lc := [wMod ct a0 o_2]) (Lc' := [wMod ct a0 o_4]) (L' := [wMod ct a0 o_4]) [0] (va_runV (As := [.int (41 : Int32)]) (rest := []) ⟨hx, hb, hml, hown, hts⟩ (c_Mod_add l ct dC dI a0 _ (41 : Int32) o_2 o_4 hG3) (cwV 1 hts g_Mod_258 rfl rfl rfl (by decide +kernel) ⟨Nat.le_of_ble_eq_true rfl, Nat.le_of_ble_eq_true rfl⟩) ⟨bw_blind nx_call, va_recv hK (hP 0 _ rfl) (ci := 6) (q0 := 0) rfl rfl, fun U hU hW => ⟨rfl, by rw [hU], by rw [hU]; exact hP.sub [0] rfl, va_K.moved hW.alike hK, (hN.sub [0] (by decide) rfl).weaken (fun _ _ => trivial), nx_warm hW hnx⟩⟩ rfl rfl hl.1 rfl (Nat.le_of_ble_eq_true rfl) d_Mod_enclose_10 ⟨Nat.le_of_ble_eq_true rfl, Nat.le_of_ble_eq_true rfl⟩) hP hN hS hA rfl rfl rfl (fun H locs hP hS => ?_)
  obtain rfl := res1 h
  exact W.vret hx hb hr (fun t ht hW => ⟨rfl, by rw [ht]; exact hP, hS.F ht⟩) hS.2.2 d_Mod_enclose_13
theorem g_Mod_276 : GoodIn wsAll (wsV R_Mod 276 R_Mod y_Mod_enclose ws_Mod_enclose) := gd_V ml_Mod_276 im_Mod_enclose se_Mod_enclose ini_Mod cd_Mod_enclose
theorem g_Mod_273 : GoodIn wsAll (wsV R_Mod 273 R_Mod y_Mod_addCell ws_Mod_addCell) := gd_V ml_Mod_273 im_Mod_addCell se_Mod_addCell ini_Mod cd_Mod_addCell
theorem g_Mod_270 : GoodIn wsAll (wsV R_Mod 270 R_Mod y_Mod_addNumber ws_Mod_addNumber) := gd_V ml_Mod_270 im_Mod_addNumber se_Mod_addNumber ini_Mod cd_Mod_addNumber
def F_Mod_printSign_279  (x3 : Int32) (x4 : Int32) (o0 : Ob) : Option (Int32 × Ob) :=
  if x4 = 0 then (chk (inb (x3 - (2 : Int32)) 420) (some ((x3 - (1 : Int32)), (s32 o0 35 (Int32.toNatClampNeg (x3 - (2 : Int32))) (1 : Int32))))) else (chk (inb (x3 - (2 : Int32)) 420) (some ((x3 - (1 : Int32)), (s32 o0 35 (Int32.toNatClampNeg (x3 - (2 : Int32))) (2 : Int32)))))
def F_Mod_printSign_231  (x3 : Int32) (x4 : Int32) (y1 : Int32) (y2 : Int32) (o0 : Ob) : Option (Int32 × Ob) :=
  bind1 (F_Mod_insert y1 y2 o0) (fun o_41 => if x4 = 0 then (F_Mod_printSign_279 x3 x4 o_41) else (chk (inb (x3 - (2 : Int32)) 420) (if (g32 o_41 35 (Int32.toNatClampNeg (x3 - (2 : Int32)))) = (1 : Int32) then (chk (inb (x3 - (1 : Int32)) 420) (bind1 (F_Mod_insert (g32 o_41 34 (Int32.toNatClampNeg (x3 - (1 : Int32)))) (41 : Int32) o_41) (fun o_47 => bind1 (F_Mod_insert (g32 o_47 34 (Int32.toNatClampNeg (x3 - (2 : Int32)))) (40 : Int32) o_47) (fun o_50 => F_Mod_printSign_279 x3 x4 o_50)))) else (F_Mod_printSign_279 x3 x4 o_41))))
def F_Mod_printSign_178  (x1 : Int32) (x2 : Int32) (x3 : Int32) (x4 : Int32) (o0 : Ob) : Option (Int32 × Ob) :=
  chk (inb (x3 - (1 : Int32)) 420) (if x1 = (5 : Int32) then (F_Mod_printSign_231 x3 x4 (g32 o0 34 (Int32.toNatClampNeg (x3 - (1 : Int32)))) (43 : Int32) o0) else (if x1 = (6 : Int32) then (F_Mod_printSign_231 x3 x4 (g32 o0 34 (Int32.toNatClampNeg (x3 - (1 : Int32)))) (45 : Int32) o0) else (if x1 = (7 : Int32) then (F_Mod_printSign_231 x3 x4 (g32 o0 34 (Int32.toNatClampNeg (x3 - (1 : Int32)))) (42 : Int32) o0) else (if x1 = (8 : Int32) then (F_Mod_printSign_231 x3 x4 (g32 o0 34 (Int32.toNatClampNeg (x3 - (1 : Int32)))) (47 : Int32) o0) else (F_Mod_printSign_231 x3 x4 (g32 o0 34 (Int32.toNatClampNeg (x3 - (1 : Int32)))) x2 o0)))))
def F_Mod_printSign_131  (x1 : Int32) (x2 : Int32) (x3 : Int32) (y0 : Int32) (o0 : Ob) : Option (Int32 × Ob) :=
  chk (inb (x3 - (1 : Int32)) 420) (if x1 = (9 : Int32) then (F_Mod_printSign_178 x1 x2 x3 y0 o0) else (if (g32 o0 35 (Int32.toNatClampNeg (x3 - (1 : Int32)))) = (1 : Int32) then (bind1 (F_Mod_enclose (g32 o0 34 (Int32.toNatClampNeg (x3 - (1 : Int32)))) o0) (fun o_25 => F_Mod_printSign_178 x1 x2 x3 y0 o_25)) else (if y0 = 0 then (F_Mod_printSign_178 x1 x2 x3 y0 o0) else (if (g32 o0 35 (Int32.toNatClampNeg (x3 - (1 : Int32)))) = (2 : Int32) then (bind1 (F_Mod_enclose (g32 o0 34 (Int32.toNatClampNeg (x3 - (1 : Int32)))) o0) (fun o_30 => F_Mod_printSign_178 x1 x2 x3 y0 o_30)) else (F_Mod_printSign_178 x1 x2 x3 y0 o0)))))
def F_Mod_printSign_89  (x3 : Int32) (o0 : Ob) : Option (Int32 × Ob) :=
  chk (inb (x3 - (1 : Int32)) 420) (bind1 (F_Mod_insert (g32 o0 34 (Int32.toNatClampNeg (x3 - (1 : Int32)))) (45 : Int32) o0) (fun o_33 => some (x3, (s32 o_33 35 (Int32.toNatClampNeg (x3 - (1 : Int32))) (3 : Int32)))))
def F_Mod_printSign (x1 : Int32) (x2 : Int32) (x3 : Int32) (o0 : Ob) : Option (Int32 × Ob) :=
  if (3 : Int32) < x1 then (if x1 = (4 : Int32) then (chk (inb (x3 - (1 : Int32)) 420) (if (3 : Int32) ≤ (g32 o0 35 (Int32.toNatClampNeg (x3 - (1 : Int32)))) then (F_Mod_printSign_89 x3 o0) else (bind1 (F_Mod_enclose (g32 o0 34 (Int32.toNatClampNeg (x3 - (1 : Int32)))) o0) (fun o_9 => F_Mod_printSign_89 x3 o_9)))) else (if x1 = (7 : Int32) then (F_Mod_printSign_131 x1 x2 x3 (1 : Int32) o0) else (if x1 = (8 : Int32) then (F_Mod_printSign_131 x1 x2 x3 (1 : Int32) o0) else (F_Mod_printSign_131 x1 x2 x3 (0 : Int32) o0)))) else (chk (inb x3 420) (if x1 = (1 : Int32) then (bind1 (F_Mod_addNumber x2 (s32 (s32 o0 34 (Int32.toNatClampNeg x3) (g32 o0 33 0)) 35 (Int32.toNatClampNeg x3) (3 : Int32))) (fun o_19 => some ((x3 + (1 : Int32)), o_19))) else (if x1 = (2 : Int32) then (bind1 (F_Mod_add ((97 : Int32) + x2) (s32 (s32 o0 34 (Int32.toNatClampNeg x3) (g32 o0 33 0)) 35 (Int32.toNatClampNeg x3) (3 : Int32))) (fun o_17 => some ((x3 + (1 : Int32)), o_17))) else (bind1 (F_Mod_addCell x2 (s32 (s32 o0 34 (Int32.toNatClampNeg x3) (g32 o0 33 0)) 35 (Int32.toNatClampNeg x3) (3 : Int32))) (fun o_15 => some ((x3 + (1 : Int32)), o_15))))))
abbrev ws_Mod_printSign : List Cond := Cond.code y_Mod_printSign b_Mod_printSign 6 (some .int) :: wsAll
abbrev rm_Mod_printSign : Room := { frames := 3, cells := 0, slots := 0, locals := 67 }
set_option maxHeartbeats 4000000 in
set_option maxRecDepth 100000 in
theorem k_Mod_printSign_279 {p : Program} {l : Launch} {e : Env} {s : State} {m : MethodId} {args : Array Value} {below : List Frame} {meth : Method} {c : Code} {A : Nat → Prop} {ct dC : Nat → ClassId} {dI : Nat → Nat → Nat} {a0 : Nat → Nat}  {r : Int32} {n0 : Ob}   (C0 : cx wsAll vwCl nx p s m args meth c (dC, dI) (tyA ct) b_Mod_printSign 6 (some .int) R_Mod A [adMod a0])  : ∀ (x3 : Int32) (x4 : Int32) (o0 : Ob) (H : Heap) (locs : List Loc) (ls : Array Slot), bw_P (dC, dI) vwCl [wMod ct a0 o0] H → va_S A s.heap H locs → lv_has ls 6 [(0, .ref (a0 0)), (3, .int x3), (4, .int x4)] → F_Mod_printSign_279 x3 x4 o0 = some (r, n0) → W p l e (headSpec ws_Mod_printSign rm_Mod_printSign).room s m args below meth c H locs 0 0 (MQ below (bw_Q (dC, dI) vwCl (some (.int r)) [wMod ct a0 n0] A) args s 0 0 A) (F0 m 279 ls []) := by
  obtain ⟨hx, hb, hr, hml, hown, hlocks, hts, hK, hN, hA, hnx⟩ := id C0
  intro x3 x4 o0 H locs ls hP hS hl h
  rw [F_Mod_printSign_279] at h
  refine lv_aload_n hx hb d_Mod_printSign_279 rfl (lv_at hl 0 rfl) ?_
  refine va_get (D := (dC, dI)) (ci := 6) (v := .ref (a0 24)) (C := R_Mod) (T := T_Mod) (N := 36) hx hb hts in_Mod hown hK (hP 0 _ rfl) 0 rfl rfl 35 (by decide) (hts _ fl_Mod_81) (fun _ h9 => h9) rfl d_Mod_printSign_280 ?_
  refine lv_iload_n hx hb d_Mod_printSign_283 rfl (lv_at hl 1 rfl) ?_
  refine lv_iconst (v := 2) hx hb d_Mod_printSign_284 (by decide) ?_
  refine lv_isub hx hb d_Mod_printSign_285 ?_
  refine lv_iload hx hb d_Mod_printSign_286 (lv_at hl 2 rfl) ?_
  refine lv_if_eq (tgt := 295) hx hb d_Mod_printSign_288 (by decide) (fun c51 => ?_) (fun c51 => ?_)
  · have h := ite_t c51 h
    refine lv_iconst (v := 1) hx hb d_Mod_printSign_295 (by decide) ?_
    obtain ⟨hi52, h⟩ := chk_some h
    refine st_Mod_35 hx hb hK hP hN hS 0 rfl (inb_in hi52) d_Mod_printSign_296 (fun H locs hP hS => ?_)
    have hP : bw_P (dC, dI) vwCl [wMod ct a0 (s32 o0 35 (Int32.toNatClampNeg (x3 - (2 : Int32))) (1 : Int32))] H := hP
    refine lv_iload_n hx hb d_Mod_printSign_297 rfl (lv_at hl 1 rfl) ?_
    refine lv_iconst (v := 1) hx hb d_Mod_printSign_298 (by decide) ?_
    refine lv_isub hx hb d_Mod_printSign_299 ?_
    obtain ⟨rfl, rfl⟩ := res2 h
    exact W.iret hx hb hr (fun t ht hW => ⟨rfl, by rw [ht]; exact hP, hS.F ht⟩) hS.2.2 d_Mod_printSign_300
  · have h := ite_f c51 h
    refine lv_iconst (v := 2) hx hb d_Mod_printSign_291 (by decide) ?_
    refine lv_goto (tgt := 296) hx hb d_Mod_printSign_292 (by decide) ?_
    obtain ⟨hi53, h⟩ := chk_some h
    refine st_Mod_35 hx hb hK hP hN hS 0 rfl (inb_in hi53) d_Mod_printSign_296 (fun H locs hP hS => ?_)
    have hP : bw_P (dC, dI) vwCl [wMod ct a0 (s32 o0 35 (Int32.toNatClampNeg (x3 - (2 : Int32))) (2 : Int32))] H := hP
    refine lv_iload_n hx hb d_Mod_printSign_297 rfl (lv_at hl 1 rfl) ?_
    refine lv_iconst (v := 1) hx hb d_Mod_printSign_298 (by decide) ?_
    refine lv_isub hx hb d_Mod_printSign_299 ?_
    obtain ⟨rfl, rfl⟩ := res2 h
    exact W.iret hx hb hr (fun t ht hW => ⟨rfl, by rw [ht]; exact hP, hS.F ht⟩) hS.2.2 d_Mod_printSign_300
set_option maxHeartbeats 4000000 in
set_option maxRecDepth 100000 in
theorem k_Mod_printSign_231 {p : Program} {l : Launch} {e : Env} {s : State} {m : MethodId} {args : Array Value} {below : List Frame} {meth : Method} {c : Code} {A : Nat → Prop} {ct dC : Nat → ClassId} {dI : Nat → Nat → Nat} {a0 : Nat → Nat}  {r : Int32} {n0 : Ob}   (C0 : cx wsAll vwCl nx p s m args meth c (dC, dI) (tyA ct) b_Mod_printSign 6 (some .int) R_Mod A [adMod a0])  : ∀ (x3 : Int32) (x4 : Int32) (y1 : Int32) (y2 : Int32) (o0 : Ob) (H : Heap) (locs : List Loc) (ls : Array Slot), bw_P (dC, dI) vwCl [wMod ct a0 o0] H → va_S A s.heap H locs → lv_has ls 6 [(0, .ref (a0 0)), (3, .int x3), (4, .int x4)] → F_Mod_printSign_231 x3 x4 y1 y2 o0 = some (r, n0) → W p l e (headSpec ws_Mod_printSign rm_Mod_printSign).room s m args below meth c H locs 0 0 (MQ below (bw_Q (dC, dI) vwCl (some (.int r)) [wMod ct a0 n0] A) args s 0 0 A) (F0 m 231 ls [.int y2, .int y1, .ref (a0 0)]) := by
  obtain ⟨hx, hb, hr, hml, hown, hlocks, hts, hK, hN, hA, hnx⟩ := id C0
  intro x3 x4 y1 y2 o0 H locs ls hP hS hl h
  rw [F_Mod_printSign_231] at h
  obtain ⟨o_41, hG40, h⟩ := bind1_some h
  refine bw_call (Lc := [wMod ct a0 o0]) (Lc' := [wMod ct a0 o_41]) (L' := [wMod ct a0 o_41]) [0] (va_runV (As := [.int y1, .int y2]) (rest := []) ⟨hx, hb, hml, hown, hts⟩ (c_Mod_insert l ct dC dI a0 _ y1 y2 o0 o_41 hG40) (cwV 2 hts g_Mod_267 rfl rfl rfl (by decide +kernel) ⟨Nat.le_of_ble_eq_true rfl, Nat.le_of_ble_eq_true rfl⟩) ⟨bw_blind nx_call, va_recv hK (hP 0 _ rfl) (ci := 6) (q0 := 0) rfl rfl, fun U hU hW => ⟨rfl, by rw [hU], by rw [hU]; exact hP.sub [0] rfl, va_K.moved hW.alike hK, (hN.sub [0] (by decide) rfl).weaken (fun _ _ => trivial), nx_warm hW hnx⟩⟩ rfl rfl hl.1 rfl (Nat.le_of_ble_eq_true rfl) d_Mod_printSign_231 ⟨Nat.le_of_ble_eq_true rfl, Nat.le_of_ble_eq_true rfl⟩) hP hN hS hA rfl rfl rfl (fun H locs hP hS => ?_)
  refine lv_iload hx hb d_Mod_printSign_234 (lv_at hl 2 rfl) ?_
  refine lv_if_eq (tgt := 279) hx hb d_Mod_printSign_236 (by decide) (fun c42 => ?_) (fun c42 => ?_)
  · have h := ite_t c42 h
    exact k_Mod_printSign_279 C0 x3 x4 o_41 _ _ _ hP hS (lv_sub hl [0, 1, 2] rfl) h
  · have h := ite_f c42 h
    refine lv_aload_n hx hb d_Mod_printSign_239 rfl (lv_at hl 0 rfl) ?_
    refine va_get (D := (dC, dI)) (ci := 6) (v := .ref (a0 24)) (C := R_Mod) (T := T_Mod) (N := 36) hx hb hts in_Mod hown hK (hP 0 _ rfl) 0 rfl rfl 35 (by decide) (hts _ fl_Mod_81) (fun _ h9 => h9) rfl d_Mod_printSign_240 ?_
    refine lv_iload_n hx hb d_Mod_printSign_243 rfl (lv_at hl 1 rfl) ?_
    refine lv_iconst (v := 2) hx hb d_Mod_printSign_244 (by decide) ?_
    refine lv_isub hx hb d_Mod_printSign_245 ?_
    obtain ⟨hi43, h⟩ := chk_some h
    refine va_iald (f := g32 o_41 35) hx hb hK (hP 0 _ rfl) 24 0 rfl rfl (inb_in hi43) d_Mod_printSign_246 ?_
    refine lv_iconst (v := 1) hx hb d_Mod_printSign_247 (by decide) ?_
    refine lv_icmp_ne (tgt := 279) hx hb d_Mod_printSign_248 (by decide) (fun c44 => ?_) (fun c44 => ?_)
    · have h := ite_f c44 h
      exact k_Mod_printSign_279 C0 x3 x4 o_41 _ _ _ hP hS (lv_sub hl [0, 1, 2] rfl) h
    · have h := ite_t c44 h
      refine lv_aload_n hx hb d_Mod_printSign_251 rfl (lv_at hl 0 rfl) ?_
      refine lv_aload_n hx hb d_Mod_printSign_252 rfl (lv_at hl 0 rfl) ?_
      refine va_get (D := (dC, dI)) (ci := 6) (v := .ref (a0 23)) (C := R_Mod) (T := T_Mod) (N := 36) hx hb hts in_Mod hown hK (hP 0 _ rfl) 0 rfl rfl 34 (by decide) (hts _ fl_Mod_78) (fun _ h9 => h9) rfl d_Mod_printSign_253 ?_
      refine lv_iload_n hx hb d_Mod_printSign_256 rfl (lv_at hl 1 rfl) ?_
      refine lv_iconst (v := 1) hx hb d_Mod_printSign_257 (by decide) ?_
      refine lv_isub hx hb d_Mod_printSign_258 ?_
      obtain ⟨hi45, h⟩ := chk_some h
      refine va_iald (f := g32 o_41 34) hx hb hK (hP 0 _ rfl) 23 0 rfl rfl (inb_in hi45) d_Mod_printSign_259 ?_
      refine lv_bipush (v := 41) hx hb d_Mod_printSign_260 (by decide) ?_
      obtain ⟨o_47, hG46, h⟩ := bind1_some h
      refine bw_call (Lc := [wMod ct a0 o_41]) (Lc' := [wMod ct a0 o_47]) (L' := [wMod ct a0 o_47]) [0] (va_runV (As := [.int (g32 o_41 34 (Int32.toNatClampNeg (x3 - (1 : Int32)))), .int (41 : Int32)]) (rest := []) ⟨hx, hb, hml, hown, hts⟩ (c_Mod_insert l ct dC dI a0 _ (g32 o_41 34 (Int32.toNatClampNeg (x3 - (1 : Int32)))) (41 : Int32) o_41 o_47 hG46) (cwV 2 hts g_Mod_267 rfl rfl rfl (by decide +kernel) ⟨Nat.le_of_ble_eq_true rfl, Nat.le_of_ble_eq_true rfl⟩) ⟨bw_blind nx_call, va_recv hK (hP 0 _ rfl) (ci := 6) (q0 := 0) rfl rfl, fun U hU hW => ⟨rfl, by rw [hU], by rw [hU]; exact hP.sub [0] rfl, va_K.moved hW.alike hK, (hN.sub [0] (by decide) rfl).weaken (fun _ _ => trivial), nx_warm hW hnx⟩⟩ rfl rfl hl.1 rfl (Nat.le_of_ble_eq_true rfl) d_Mod_printSign_262 ⟨Nat.le_of_ble_eq_true rfl, Nat.le_of_ble_eq_true rfl⟩) hP hN hS hA rfl rfl rfl (fun H locs hP hS => ?_)
      refine lv_aload_n hx hb d_Mod_printSign_265 rfl (lv_at hl 0 rfl) ?_
      refine lv_aload_n hx hb d_Mod_printSign_266 rfl (lv_at hl 0 rfl) ?_
      refine va_get (D := (dC, dI)) (ci := 6) (v := .ref (a0 23)) (C := R_Mod) (T := T_Mod) (N := 36) hx hb hts in_Mod hown hK (hP 0 _ rfl) 0 rfl rfl 34 (by decide) (hts _ fl_Mod_78) (fun _ h9 => h9) rfl d_Mod_printSign_267 ?_
      refine lv_iload_n hx hb d_Mod_printSign_270 rfl (lv_at hl 1 rfl) ?_
      refine lv_iconst (v := 2) hx hb d_Mod_printSign_271 (by decide) ?_
      refine lv_isub hx hb d_Mod_printSign_272 ?_
      refine va_iald (f := g32 o_47 34) hx hb hK (hP 0 _ rfl) 23 0 rfl rfl (inb_in hi43) d_Mod_printSign_273 ?_
      refine lv_bipush (v := 40) hx hb d_Mod_printSign_274 (by decide) ?_
      obtain ⟨o_50, hG49, h⟩ := bind1_some h
      refine bw_call (Lc := [wMod ct a0 o_47]) (Lc' := [wMod ct a0 o_50]) (L' := [wMod ct a0 o_50]) [0] (va_runV (As := [.int (g32 o_47 34 (Int32.toNatClampNeg (x3 - (2 : Int32)))), .int (40 : Int32)]) (rest := []) ⟨hx, hb, hml, hown, hts⟩ (c_Mod_insert l ct dC dI a0 _ (g32 o_47 34 (Int32.toNatClampNeg (x3 - (2 : Int32)))) (40 : Int32) o_47 o_50 hG49) (cwV 2 hts g_Mod_267 rfl rfl rfl (by decide +kernel) ⟨Nat.le_of_ble_eq_true rfl, Nat.le_of_ble_eq_true rfl⟩) ⟨bw_blind nx_call, va_recv hK (hP 0 _ rfl) (ci := 6) (q0 := 0) rfl rfl, fun U hU hW => ⟨rfl, by rw [hU], by rw [hU]; exact hP.sub [0] rfl, va_K.moved hW.alike hK, (hN.sub [0] (by decide) rfl).weaken (fun _ _ => trivial), nx_warm hW hnx⟩⟩ rfl rfl hl.1 rfl (Nat.le_of_ble_eq_true rfl) d_Mod_printSign_276 ⟨Nat.le_of_ble_eq_true rfl, Nat.le_of_ble_eq_true rfl⟩) hP hN hS hA rfl rfl rfl (fun H locs hP hS => ?_)
      exact k_Mod_printSign_279 C0 x3 x4 o_50 _ _ _ hP hS (lv_sub hl [0, 1, 2] rfl) h
set_option maxHeartbeats 4000000 in
set_option maxRecDepth 100000 in
theorem k_Mod_printSign_178 {p : Program} {l : Launch} {e : Env} {s : State} {m : MethodId} {args : Array Value} {below : List Frame} {meth : Method} {c : Code} {A : Nat → Prop} {ct dC : Nat → ClassId} {dI : Nat → Nat → Nat} {a0 : Nat → Nat}  {r : Int32} {n0 : Ob}   (C0 : cx wsAll vwCl nx p s m args meth c (dC, dI) (tyA ct) b_Mod_printSign 6 (some .int) R_Mod A [adMod a0])  : ∀ (x1 : Int32) (x2 : Int32) (x3 : Int32) (x4 : Int32) (o0 : Ob) (H : Heap) (locs : List Loc) (ls : Array Slot), bw_P (dC, dI) vwCl [wMod ct a0 o0] H → va_S A s.heap H locs → lv_has ls 6 [(0, .ref (a0 0)), (1, .int x1), (2, .int x2), (3, .int x3), (4, .int x4)] → F_Mod_printSign_178 x1 x2 x3 x4 o0 = some (r, n0) → W p l e (headSpec ws_Mod_printSign rm_Mod_printSign).room s m args below meth c H locs 0 0 (MQ below (bw_Q (dC, dI) vwCl (some (.int r)) [wMod ct a0 n0] A) args s 0 0 A) (F0 m 178 ls []) := by
  obtain ⟨hx, hb, hr, hml, hown, hlocks, hts, hK, hN, hA, hnx⟩ := id C0
  intro x1 x2 x3 x4 o0 H locs ls hP hS hl h
  rw [F_Mod_printSign_178] at h
  refine lv_aload_n hx hb d_Mod_printSign_178 rfl (lv_at hl 0 rfl) ?_
  refine lv_aload_n hx hb d_Mod_printSign_179 rfl (lv_at hl 0 rfl) ?_
  refine va_get (D := (dC, dI)) (ci := 6) (v := .ref (a0 23)) (C := R_Mod) (T := T_Mod) (N := 36) hx hb hts in_Mod hown hK (hP 0 _ rfl) 0 rfl rfl 34 (by decide) (hts _ fl_Mod_78) (fun _ h9 => h9) rfl d_Mod_printSign_180 ?_
  refine lv_iload_n hx hb d_Mod_printSign_183 rfl (lv_at hl 3 rfl) ?_
  refine lv_iconst (v := 1) hx hb d_Mod_printSign_184 (by decide) ?_
  refine lv_isub hx hb d_Mod_printSign_185 ?_
  obtain ⟨hi35, h⟩ := chk_some h
  refine va_iald (f := g32 o0 34) hx hb hK (hP 0 _ rfl) 23 0 rfl rfl (inb_in hi35) d_Mod_printSign_186 ?_
  refine lv_iload_n hx hb d_Mod_printSign_187 rfl (lv_at hl 1 rfl) ?_
  refine lv_iconst (v := 5) hx hb d_Mod_printSign_188 (by decide) ?_
  refine lv_icmp_ne (tgt := 197) hx hb d_Mod_printSign_189 (by decide) (fun c36 => ?_) (fun c36 => ?_)
  · have h := ite_f c36 h
    refine lv_iload_n hx hb d_Mod_printSign_197 rfl (lv_at hl 1 rfl) ?_
    refine lv_bipush (v := 6) hx hb d_Mod_printSign_198 (by decide) ?_
    refine lv_icmp_ne (tgt := 208) hx hb d_Mod_printSign_200 (by decide) (fun c37 => ?_) (fun c37 => ?_)
    · have h := ite_f c37 h
      refine lv_iload_n hx hb d_Mod_printSign_208 rfl (lv_at hl 1 rfl) ?_
      refine lv_bipush (v := 7) hx hb d_Mod_printSign_209 (by decide) ?_
      refine lv_icmp_ne (tgt := 219) hx hb d_Mod_printSign_211 (by decide) (fun c38 => ?_) (fun c38 => ?_)
      · have h := ite_f c38 h
        refine lv_iload_n hx hb d_Mod_printSign_219 rfl (lv_at hl 1 rfl) ?_
        refine lv_bipush (v := 8) hx hb d_Mod_printSign_220 (by decide) ?_
        refine lv_icmp_ne (tgt := 230) hx hb d_Mod_printSign_222 (by decide) (fun c39 => ?_) (fun c39 => ?_)
        · have h := ite_f c39 h
          refine lv_iload_n hx hb d_Mod_printSign_230 rfl (lv_at hl 2 rfl) ?_
          exact k_Mod_printSign_231 C0 x3 x4 (g32 o0 34 (Int32.toNatClampNeg (x3 - (1 : Int32)))) x2 o0 _ _ _ hP hS (lv_sub hl [0, 3, 4] rfl) h
        · have h := ite_t c39 h
          refine lv_bipush (v := 47) hx hb d_Mod_printSign_225 (by decide) ?_
          refine lv_goto (tgt := 231) hx hb d_Mod_printSign_227 (by decide) ?_
          exact k_Mod_printSign_231 C0 x3 x4 (g32 o0 34 (Int32.toNatClampNeg (x3 - (1 : Int32)))) (47 : Int32) o0 _ _ _ hP hS (lv_sub hl [0, 3, 4] rfl) h
      · have h := ite_t c38 h
        refine lv_bipush (v := 42) hx hb d_Mod_printSign_214 (by decide) ?_
        refine lv_goto (tgt := 231) hx hb d_Mod_printSign_216 (by decide) ?_
        exact k_Mod_printSign_231 C0 x3 x4 (g32 o0 34 (Int32.toNatClampNeg (x3 - (1 : Int32)))) (42 : Int32) o0 _ _ _ hP hS (lv_sub hl [0, 3, 4] rfl) h
    · have h := ite_t c37 h
      refine lv_bipush (v := 45) hx hb d_Mod_printSign_203 (by decide) ?_
      refine lv_goto (tgt := 231) hx hb d_Mod_printSign_205 (by decide) ?_
      exact k_Mod_printSign_231 C0 x3 x4 (g32 o0 34 (Int32.toNatClampNeg (x3 - (1 : Int32)))) (45 : Int32) o0 _ _ _ hP hS (lv_sub hl [0, 3, 4] rfl) h
  · have h := ite_t c36 h
    refine lv_bipush (v := 43) hx hb d_Mod_printSign_192 (by decide) ?_
    refine lv_goto (tgt := 231) hx hb d_Mod_printSign_194 (by decide) ?_
    exact k_Mod_printSign_231 C0 x3 x4 (g32 o0 34 (Int32.toNatClampNeg (x3 - (1 : Int32)))) (43 : Int32) o0 _ _ _ hP hS (lv_sub hl [0, 3, 4] rfl) h
set_option maxHeartbeats 4000000 in
set_option maxRecDepth 100000 in
theorem k_Mod_printSign_131 {p : Program} {l : Launch} {e : Env} {s : State} {m : MethodId} {args : Array Value} {below : List Frame} {meth : Method} {c : Code} {A : Nat → Prop} {ct dC : Nat → ClassId} {dI : Nat → Nat → Nat} {a0 : Nat → Nat}  {r : Int32} {n0 : Ob}   (C0 : cx wsAll vwCl nx p s m args meth c (dC, dI) (tyA ct) b_Mod_printSign 6 (some .int) R_Mod A [adMod a0])  : ∀ (x1 : Int32) (x2 : Int32) (x3 : Int32) (y0 : Int32) (o0 : Ob) (H : Heap) (locs : List Loc) (ls : Array Slot), bw_P (dC, dI) vwCl [wMod ct a0 o0] H → va_S A s.heap H locs → lv_has ls 6 [(0, .ref (a0 0)), (1, .int x1), (2, .int x2), (3, .int x3)] → F_Mod_printSign_131 x1 x2 x3 y0 o0 = some (r, n0) → W p l e (headSpec ws_Mod_printSign rm_Mod_printSign).room s m args below meth c H locs 0 0 (MQ below (bw_Q (dC, dI) vwCl (some (.int r)) [wMod ct a0 n0] A) args s 0 0 A) (F0 m 131 ls [.int y0]) := by
  obtain ⟨hx, hb, hr, hml, hown, hlocks, hts, hK, hN, hA, hnx⟩ := id C0
  intro x1 x2 x3 y0 o0 H locs ls hP hS hl h
  rw [F_Mod_printSign_131] at h
  refine lv_istore (lv' := [(4, .int y0), (0, .ref (a0 0)), (1, .int x1), (2, .int x2), (3, .int x3)]) hx hb d_Mod_printSign_131 hl (by decide) rfl (fun ls hl => ?_)
  refine lv_aload_n hx hb d_Mod_printSign_133 rfl (lv_at hl 1 rfl) ?_
  refine va_get (D := (dC, dI)) (ci := 6) (v := .ref (a0 24)) (C := R_Mod) (T := T_Mod) (N := 36) hx hb hts in_Mod hown hK (hP 0 _ rfl) 0 rfl rfl 35 (by decide) (hts _ fl_Mod_81) (fun _ h9 => h9) rfl d_Mod_printSign_134 ?_
  refine lv_iload_n hx hb d_Mod_printSign_137 rfl (lv_at hl 4 rfl) ?_
  refine lv_iconst (v := 1) hx hb d_Mod_printSign_138 (by decide) ?_
  refine lv_isub hx hb d_Mod_printSign_139 ?_
  obtain ⟨hi20, h⟩ := chk_some h
  refine va_iald (f := g32 o0 35) hx hb hK (hP 0 _ rfl) 24 0 rfl rfl (inb_in hi20) d_Mod_printSign_140 ?_
  refine lv_istore (lv' := [(5, .int (g32 o0 35 (Int32.toNatClampNeg (x3 - (1 : Int32))))), (4, .int y0), (0, .ref (a0 0)), (1, .int x1), (2, .int x2), (3, .int x3)]) hx hb d_Mod_printSign_141 hl (by decide) rfl (fun ls hl => ?_)
  refine lv_iload_n hx hb d_Mod_printSign_143 rfl (lv_at hl 3 rfl) ?_
  refine lv_bipush (v := 9) hx hb d_Mod_printSign_144 (by decide) ?_
  refine lv_icmp_eq (tgt := 178) hx hb d_Mod_printSign_146 (by decide) (fun c21 => ?_) (fun c21 => ?_)
  · have h := ite_t c21 h
    exact k_Mod_printSign_178 C0 x1 x2 x3 y0 o0 _ _ _ hP hS (lv_sub hl [2, 3, 4, 5, 1] rfl) h
  · have h := ite_f c21 h
    refine lv_iload hx hb d_Mod_printSign_149 (lv_at hl 0 rfl) ?_
    refine lv_iconst (v := 1) hx hb d_Mod_printSign_151 (by decide) ?_
    refine lv_icmp_eq (tgt := 166) hx hb d_Mod_printSign_152 (by decide) (fun c22 => ?_) (fun c22 => ?_)
    · have h := ite_t c22 h
      refine lv_aload_n hx hb d_Mod_printSign_166 rfl (lv_at hl 2 rfl) ?_
      refine lv_aload_n hx hb d_Mod_printSign_167 rfl (lv_at hl 2 rfl) ?_
      refine va_get (D := (dC, dI)) (ci := 6) (v := .ref (a0 23)) (C := R_Mod) (T := T_Mod) (N := 36) hx hb hts in_Mod hown hK (hP 0 _ rfl) 0 rfl rfl 34 (by decide) (hts _ fl_Mod_78) (fun _ h9 => h9) rfl d_Mod_printSign_168 ?_
      refine lv_iload_n hx hb d_Mod_printSign_171 rfl (lv_at hl 5 rfl) ?_
      refine lv_iconst (v := 1) hx hb d_Mod_printSign_172 (by decide) ?_
      refine lv_isub hx hb d_Mod_printSign_173 ?_
      refine va_iald (f := g32 o0 34) hx hb hK (hP 0 _ rfl) 23 0 rfl rfl (inb_in hi20) d_Mod_printSign_174 ?_
      obtain ⟨o_25, hG24, h⟩ := bind1_some h
      refine bw_call (Lc := [wMod ct a0 o0]) (Lc' := [wMod ct a0 o_25]) (L' := [wMod ct a0 o_25]) [0] (va_runV (As := [.int (g32 o0 34 (Int32.toNatClampNeg (x3 - (1 : Int32))))]) (rest := []) ⟨hx, hb, hml, hown, hts⟩ (c_Mod_enclose l ct dC dI a0 _ (g32 o0 34 (Int32.toNatClampNeg (x3 - (1 : Int32)))) o0 o_25 hG24) (cwV 1 hts g_Mod_276 rfl rfl rfl (by decide +kernel) ⟨Nat.le_of_ble_eq_true rfl, Nat.le_of_ble_eq_true rfl⟩) ⟨bw_blind nx_call, va_recv hK (hP 0 _ rfl) (ci := 6) (q0 := 0) rfl rfl, fun U hU hW => ⟨rfl, by rw [hU], by rw [hU]; exact hP.sub [0] rfl, va_K.moved hW.alike hK, (hN.sub [0] (by decide) rfl).weaken (fun _ _ => trivial), nx_warm hW hnx⟩⟩ rfl rfl hl.1 rfl (Nat.le_of_ble_eq_true rfl) d_Mod_printSign_175 ⟨Nat.le_of_ble_eq_true rfl, Nat.le_of_ble_eq_true rfl⟩) hP hN hS hA rfl rfl rfl (fun H locs hP hS => ?_)
      exact k_Mod_printSign_178 C0 x1 x2 x3 y0 o_25 _ _ _ hP hS (lv_sub hl [2, 3, 4, 5, 1] rfl) h
    · have h := ite_f c22 h
      refine lv_iload hx hb d_Mod_printSign_155 (lv_at hl 1 rfl) ?_
      refine lv_if_eq (tgt := 178) hx hb d_Mod_printSign_157 (by decide) (fun c26 => ?_) (fun c26 => ?_)
      · have h := ite_t c26 h
        exact k_Mod_printSign_178 C0 x1 x2 x3 y0 o0 _ _ _ hP hS (lv_sub hl [2, 3, 4, 5, 1] rfl) h
      · have h := ite_f c26 h
        refine lv_iload hx hb d_Mod_printSign_160 (lv_at hl 0 rfl) ?_
        refine lv_iconst (v := 2) hx hb d_Mod_printSign_162 (by decide) ?_
        refine lv_icmp_ne (tgt := 178) hx hb d_Mod_printSign_163 (by decide) (fun c27 => ?_) (fun c27 => ?_)
        · have h := ite_f c27 h
          exact k_Mod_printSign_178 C0 x1 x2 x3 y0 o0 _ _ _ hP hS (lv_sub hl [2, 3, 4, 5, 1] rfl) h
        · have h := ite_t c27 h
          refine lv_aload_n hx hb d_Mod_printSign_166 rfl (lv_at hl 2 rfl) ?_
          refine lv_aload_n hx hb d_Mod_printSign_167 rfl (lv_at hl 2 rfl) ?_
          refine va_get (D := (dC, dI)) (ci := 6) (v := .ref (a0 23)) (C := R_Mod) (T := T_Mod) (N := 36) hx hb hts in_Mod hown hK (hP 0 _ rfl) 0 rfl rfl 34 (by decide) (hts _ fl_Mod_78) (fun _ h9 => h9) rfl d_Mod_printSign_168 ?_
          refine lv_iload_n hx hb d_Mod_printSign_171 rfl (lv_at hl 5 rfl) ?_
          refine lv_iconst (v := 1) hx hb d_Mod_printSign_172 (by decide) ?_
          refine lv_isub hx hb d_Mod_printSign_173 ?_
          refine va_iald (f := g32 o0 34) hx hb hK (hP 0 _ rfl) 23 0 rfl rfl (inb_in hi20) d_Mod_printSign_174 ?_
          obtain ⟨o_30, hG29, h⟩ := bind1_some h
          refine bw_call (Lc := [wMod ct a0 o0]) (Lc' := [wMod ct a0 o_30]) (L' := [wMod ct a0 o_30]) [0] (va_runV (As := [.int (g32 o0 34 (Int32.toNatClampNeg (x3 - (1 : Int32))))]) (rest := []) ⟨hx, hb, hml, hown, hts⟩ (c_Mod_enclose l ct dC dI a0 _ (g32 o0 34 (Int32.toNatClampNeg (x3 - (1 : Int32)))) o0 o_30 hG29) (cwV 1 hts g_Mod_276 rfl rfl rfl (by decide +kernel) ⟨Nat.le_of_ble_eq_true rfl, Nat.le_of_ble_eq_true rfl⟩) ⟨bw_blind nx_call, va_recv hK (hP 0 _ rfl) (ci := 6) (q0 := 0) rfl rfl, fun U hU hW => ⟨rfl, by rw [hU], by rw [hU]; exact hP.sub [0] rfl, va_K.moved hW.alike hK, (hN.sub [0] (by decide) rfl).weaken (fun _ _ => trivial), nx_warm hW hnx⟩⟩ rfl rfl hl.1 rfl (Nat.le_of_ble_eq_true rfl) d_Mod_printSign_175 ⟨Nat.le_of_ble_eq_true rfl, Nat.le_of_ble_eq_true rfl⟩) hP hN hS hA rfl rfl rfl (fun H locs hP hS => ?_)
          exact k_Mod_printSign_178 C0 x1 x2 x3 y0 o_30 _ _ _ hP hS (lv_sub hl [2, 3, 4, 5, 1] rfl) h
set_option maxHeartbeats 4000000 in
set_option maxRecDepth 100000 in
theorem k_Mod_printSign_89 {p : Program} {l : Launch} {e : Env} {s : State} {m : MethodId} {args : Array Value} {below : List Frame} {meth : Method} {c : Code} {A : Nat → Prop} {ct dC : Nat → ClassId} {dI : Nat → Nat → Nat} {a0 : Nat → Nat}  {r : Int32} {n0 : Ob}   (C0 : cx wsAll vwCl nx p s m args meth c (dC, dI) (tyA ct) b_Mod_printSign 6 (some .int) R_Mod A [adMod a0])  : ∀ (x3 : Int32) (o0 : Ob) (H : Heap) (locs : List Loc) (ls : Array Slot), bw_P (dC, dI) vwCl [wMod ct a0 o0] H → va_S A s.heap H locs → lv_has ls 6 [(0, .ref (a0 0)), (3, .int x3)] → F_Mod_printSign_89 x3 o0 = some (r, n0) → W p l e (headSpec ws_Mod_printSign rm_Mod_printSign).room s m args below meth c H locs 0 0 (MQ below (bw_Q (dC, dI) vwCl (some (.int r)) [wMod ct a0 n0] A) args s 0 0 A) (F0 m 89 ls []) := by
  obtain ⟨hx, hb, hr, hml, hown, hlocks, hts, hK, hN, hA, hnx⟩ := id C0
  intro x3 o0 H locs ls hP hS hl h
  rw [F_Mod_printSign_89] at h
  refine lv_aload_n hx hb d_Mod_printSign_89 rfl (lv_at hl 0 rfl) ?_
  refine lv_aload_n hx hb d_Mod_printSign_90 rfl (lv_at hl 0 rfl) ?_
  refine va_get (D := (dC, dI)) (ci := 6) (v := .ref (a0 23)) (C := R_Mod) (T := T_Mod) (N := 36) hx hb hts in_Mod hown hK (hP 0 _ rfl) 0 rfl rfl 34 (by decide) (hts _ fl_Mod_78) (fun _ h9 => h9) rfl d_Mod_printSign_91 ?_
  refine lv_iload_n hx hb d_Mod_printSign_94 rfl (lv_at hl 1 rfl) ?_
  refine lv_iconst (v := 1) hx hb d_Mod_printSign_95 (by decide) ?_
  refine lv_isub hx hb d_Mod_printSign_96 ?_
  obtain ⟨hi31, h⟩ := chk_some h
  refine va_iald (f := g32 o0 34) hx hb hK (hP 0 _ rfl) 23 0 rfl rfl (inb_in hi31) d_Mod_printSign_97 ?_
  refine lv_bipush (v := 45) hx hb d_Mod_printSign_98 (by decide) ?_
  obtain ⟨o_33, hG32, h⟩ := bind1_some h
  refine bw_call (Lc := [wMod ct a0 o0]) (Lc' := [wMod ct a0 o_33]) (L' := [wMod ct a0 o_33]) [0] (va_runV (As := [.int (g32 o0 34 (Int32.toNatClampNeg (x3 - (1 : Int32)))), .int (45 : Int32)]) (rest := []) ⟨hx, hb, hml, hown, hts⟩ (c_Mod_insert l ct dC dI a0 _ (g32 o0 34 (Int32.toNatClampNeg (x3 - (1 : Int32)))) (45 : Int32) o0 o_33 hG32) (cwV 2 hts g_Mod_267 rfl rfl rfl (by decide +kernel) ⟨Nat.le_of_ble_eq_true rfl, Nat.le_of_ble_eq_true rfl⟩) ⟨bw_blind nx_call, va_recv hK (hP 0 _ rfl) (ci := 6) (q0 := 0) rfl rfl, fun U hU hW => ⟨rfl, by rw [hU], by rw [hU]; exact hP.sub [0] rfl, va_K.moved hW.alike hK, (hN.sub [0] (by decide) rfl).weaken (fun _ _ => trivial), nx_warm hW hnx⟩⟩ rfl rfl hl.1 rfl (Nat.le_of_ble_eq_true rfl) d_Mod_printSign_100 ⟨Nat.le_of_ble_eq_true rfl, Nat.le_of_ble_eq_true rfl⟩) hP hN hS hA rfl rfl rfl (fun H locs hP hS => ?_)
  refine lv_aload_n hx hb d_Mod_printSign_103 rfl (lv_at hl 0 rfl) ?_
  refine va_get (D := (dC, dI)) (ci := 6) (v := .ref (a0 24)) (C := R_Mod) (T := T_Mod) (N := 36) hx hb hts in_Mod hown hK (hP 0 _ rfl) 0 rfl rfl 35 (by decide) (hts _ fl_Mod_81) (fun _ h9 => h9) rfl d_Mod_printSign_104 ?_
  refine lv_iload_n hx hb d_Mod_printSign_107 rfl (lv_at hl 1 rfl) ?_
  refine lv_iconst (v := 1) hx hb d_Mod_printSign_108 (by decide) ?_
  refine lv_isub hx hb d_Mod_printSign_109 ?_
  refine lv_iconst (v := 3) hx hb d_Mod_printSign_110 (by decide) ?_
  refine st_Mod_35 hx hb hK hP hN hS 0 rfl (inb_in hi31) d_Mod_printSign_111 (fun H locs hP hS => ?_)
  have hP : bw_P (dC, dI) vwCl [wMod ct a0 (s32 o_33 35 (Int32.toNatClampNeg (x3 - (1 : Int32))) (3 : Int32))] H := hP
  refine lv_iload_n hx hb d_Mod_printSign_112 rfl (lv_at hl 1 rfl) ?_
  obtain ⟨rfl, rfl⟩ := res2 h
  exact W.iret hx hb hr (fun t ht hW => ⟨rfl, by rw [ht]; exact hP, hS.F ht⟩) hS.2.2 d_Mod_printSign_113
set_option maxHeartbeats 4000000 in
set_option maxRecDepth 100000 in
theorem c_Mod_printSign (l : Launch) (ct dC : Nat → ClassId) (dI : Nat → Nat → Nat) (a0 : Nat → Nat)  (sz : Nat) (x1 : Int32) (x2 : Int32) (x3 : Int32) (o0 : Ob) (r : Int32) (n0 : Ob) (hF : F_Mod_printSign x1 x2 x3 o0 = some (r, n0)) : Met l y_Mod_printSign ws_Mod_printSign rm_Mod_printSign (bw_Pc [.ref (a0 0), .int x1, .int x2, .int x3] (dC, dI) vwCl (tyA ct) [wMod ct a0 o0] sz nx) (bw_Q (dC, dI) vwCl (some (.int r)) [wMod ct a0 n0] (bw_A [adMod a0] sz)) 0 0 (bw_A [adMod a0] sz) := by
  refine Met.ofW (cc := b_Mod_printSign) (maxL := 6) (ret := (some .int)) (by decide) rfl ?_
  intro p e s m args below meth c s₁ B hml hv
  obtain ⟨rfl, hsz, hP, hK, hN0, hnx⟩ := hv
  have hx := B.exec
  have hb := B.bytes
  have hr := B.returns
  have hts : ∀ w ∈ wsAll, w.before [.ref (a0 0), .int x1, .int x2, .int x3].toArray s = true := fun w h9 => atoms_spec (ws := ws_Mod_printSign) B.pre w (List.mem_cons_of_mem _ h9)
  have hown : s.vm.findClass R_Mod = some m.cls := findClass_of_methodNamed B.named
  have hlocks := B.notSynchronized
  subst hsz
  have hN : bw_N (bw_A [adMod a0] s.heap.size) [adMod a0] := hN0.self s.heap.size
  generalize hAe : bw_A [adMod a0] s.heap.size = A at hN ⊢
  have hA : ∀ q : Nat, s.heap.size ≤ q → A q := fun q h => by rw [← hAe]; exact Or.inr h
  have hS : va_S A s.heap s.heap [] := va_S.rf
  have hl := lv_entry ([.ref (a0 0), .int x1, .int x2, .int x3]) (n := 6) (Nat.le_of_ble_eq_true rfl)
  rw [lg_entry_eq]
  generalize (lg_sl ([.ref (a0 0), .int x1, .int x2, .int x3]) ++ List.replicate (6 - (lg_sl ([.ref (a0 0), .int x1, .int x2, .int x3])).length) Slot.unset).toArray = ls at hl ⊢
  have hl : lv_has ls 6 [(0, .ref (a0 0)), (1, .int x1), (2, .int x2), (3, .int x3)] := hl
  have C0 : cx wsAll vwCl nx p s m [.ref (a0 0), .int x1, .int x2, .int x3].toArray meth c (dC, dI) (tyA ct) b_Mod_printSign 6 (some .int) R_Mod A [adMod a0] := ⟨hx, hb, hr, hml, hown, hlocks, hts, hK, hN, hA, hnx⟩
  have h := hF
  rw [F_Mod_printSign] at h
  refine lv_iload_n hx hb d_Mod_printSign_0 rfl (lv_at hl 1 rfl) ?_
  refine lv_iconst (v := 3) hx hb d_Mod_printSign_1 (by decide) ?_
  refine lv_icmp_gt (tgt := 60) hx hb d_Mod_printSign_2 (by decide) (fun c1 => ?_) (fun c1 => ?_)
  · have h := ite_t c1 h
    refine lv_iload_n hx hb d_Mod_printSign_60 rfl (lv_at hl 1 rfl) ?_
    refine lv_iconst (v := 4) hx hb d_Mod_printSign_61 (by decide) ?_
    refine lv_icmp_ne (tgt := 114) hx hb d_Mod_printSign_62 (by decide) (fun c2 => ?_) (fun c2 => ?_)
    · have h := ite_f c2 h
      refine lv_iload_n hx hb d_Mod_printSign_114 rfl (lv_at hl 1 rfl) ?_
      refine lv_bipush (v := 7) hx hb d_Mod_printSign_115 (by decide) ?_
      refine lv_icmp_eq (tgt := 126) hx hb d_Mod_printSign_117 (by decide) (fun c3 => ?_) (fun c3 => ?_)
      · have h := ite_t c3 h
        refine lv_iconst (v := 1) hx hb d_Mod_printSign_126 (by decide) ?_
        refine lv_goto (tgt := 131) hx hb d_Mod_printSign_127 (by decide) ?_
        exact k_Mod_printSign_131 C0 x1 x2 x3 (1 : Int32) o0 _ _ _ hP hS (lv_sub hl [0, 1, 2, 3] rfl) h
      · have h := ite_f c3 h
        refine lv_iload_n hx hb d_Mod_printSign_120 rfl (lv_at hl 1 rfl) ?_
        refine lv_bipush (v := 8) hx hb d_Mod_printSign_121 (by decide) ?_
        refine lv_icmp_ne (tgt := 130) hx hb d_Mod_printSign_123 (by decide) (fun c4 => ?_) (fun c4 => ?_)
        · have h := ite_f c4 h
          refine lv_iconst (v := 0) hx hb d_Mod_printSign_130 (by decide) ?_
          exact k_Mod_printSign_131 C0 x1 x2 x3 (0 : Int32) o0 _ _ _ hP hS (lv_sub hl [0, 1, 2, 3] rfl) h
        · have h := ite_t c4 h
          refine lv_iconst (v := 1) hx hb d_Mod_printSign_126 (by decide) ?_
          refine lv_goto (tgt := 131) hx hb d_Mod_printSign_127 (by decide) ?_
          exact k_Mod_printSign_131 C0 x1 x2 x3 (1 : Int32) o0 _ _ _ hP hS (lv_sub hl [0, 1, 2, 3] rfl) h
    · have h := ite_t c2 h
      refine lv_aload_n hx hb d_Mod_printSign_65 rfl (lv_at hl 0 rfl) ?_
      refine va_get (D := (dC, dI)) (ci := 6) (v := .ref (a0 24)) (C := R_Mod) (T := T_Mod) (N := 36) hx hb hts in_Mod hown hK (hP 0 _ rfl) 0 rfl rfl 35 (by decide) (hts _ fl_Mod_81) (fun _ h9 => h9) rfl d_Mod_printSign_66 ?_
      refine lv_iload_n hx hb d_Mod_printSign_69 rfl (lv_at hl 3 rfl) ?_
      refine lv_iconst (v := 1) hx hb d_Mod_printSign_70 (by decide) ?_
      refine lv_isub hx hb d_Mod_printSign_71 ?_
      obtain ⟨hi5, h⟩ := chk_some h
      refine va_iald (f := g32 o0 35) hx hb hK (hP 0 _ rfl) 24 0 rfl rfl (inb_in hi5) d_Mod_printSign_72 ?_
      refine lv_iconst (v := 3) hx hb d_Mod_printSign_73 (by decide) ?_
      refine lv_icmp_ge (tgt := 89) hx hb d_Mod_printSign_74 (by decide) (fun c6 => ?_) (fun c6 => ?_)
      · have h := ite_t c6 h
        exact k_Mod_printSign_89 C0 x3 o0 _ _ _ hP hS (lv_sub hl [0, 3] rfl) h
      · have h := ite_f c6 h
        refine lv_aload_n hx hb d_Mod_printSign_77 rfl (lv_at hl 0 rfl) ?_
        refine lv_aload_n hx hb d_Mod_printSign_78 rfl (lv_at hl 0 rfl) ?_
        refine va_get (D := (dC, dI)) (ci := 6) (v := .ref (a0 23)) (C := R_Mod) (T := T_Mod) (N := 36) hx hb hts in_Mod hown hK (hP 0 _ rfl) 0 rfl rfl 34 (by decide) (hts _ fl_Mod_78) (fun _ h9 => h9) rfl d_Mod_printSign_79 ?_
        refine lv_iload_n hx hb d_Mod_printSign_82 rfl (lv_at hl 3 rfl) ?_
        refine lv_iconst (v := 1) hx hb d_Mod_printSign_83 (by decide) ?_
        refine lv_isub hx hb d_Mod_printSign_84 ?_
        refine va_iald (f := g32 o0 34) hx hb hK (hP 0 _ rfl) 23 0 rfl rfl (inb_in hi5) d_Mod_printSign_85 ?_
        obtain ⟨o_9, hG8, h⟩ := bind1_some h
        refine bw_call (Lc := [wMod ct a0 o0]) (Lc' := [wMod ct a0 o_9]) (L' := [wMod ct a0 o_9]) [0] (va_runV (As := [.int (g32 o0 34 (Int32.toNatClampNeg (x3 - (1 : Int32))))]) (rest := []) ⟨hx, hb, hml, hown, hts⟩ (c_Mod_enclose l ct dC dI a0 _ (g32 o0 34 (Int32.toNatClampNeg (x3 - (1 : Int32)))) o0 o_9 hG8) (cwV 1 hts g_Mod_276 rfl rfl rfl (by decide +kernel) ⟨Nat.le_of_ble_eq_true rfl, Nat.le_of_ble_eq_true rfl⟩) ⟨bw_blind nx_call, va_recv hK (hP 0 _ rfl) (ci := 6) (q0 := 0) rfl rfl, fun U hU hW => ⟨rfl, by rw [hU], by rw [hU]; exact hP.sub [0] rfl, va_K.moved hW.alike hK, (hN.sub [0] (by decide) rfl).weaken (fun _ _ => trivial), nx_warm hW hnx⟩⟩ rfl rfl hl.1 rfl (Nat.le_of_ble_eq_true rfl) d_Mod_printSign_86 ⟨Nat.le_of_ble_eq_true rfl, Nat.le_of_ble_eq_true rfl⟩) hP hN hS hA rfl rfl rfl (fun H locs hP hS => ?_)
        exact k_Mod_printSign_89 C0 x3 o_9 _ _ _ hP hS (lv_sub hl [0, 3] rfl) h
  · have h := ite_f c1 h
    refine lv_aload_n hx hb d_Mod_printSign_5 rfl (lv_at hl 0 rfl) ?_
    refine va_get (D := (dC, dI)) (ci := 6) (v := .ref (a0 23)) (C := R_Mod) (T := T_Mod) (N := 36) hx hb hts in_Mod hown hK (hP 0 _ rfl) 0 rfl rfl 34 (by decide) (hts _ fl_Mod_78) (fun _ h9 => h9) rfl d_Mod_printSign_6 ?_
    refine lv_iload_n hx hb d_Mod_printSign_9 rfl (lv_at hl 3 rfl) ?_
    refine lv_aload_n hx hb d_Mod_printSign_10 rfl (lv_at hl 0 rfl) ?_
    refine va_get (D := (dC, dI)) (ci := 6) (v := .int (g32 o0 33 0)) (C := R_Mod) (T := T_Mod) (N := 36) hx hb hts in_Mod hown hK (hP 0 _ rfl) 0 rfl rfl 33 (by decide) (hts _ fl_Mod_255) (fun _ h9 => h9) rfl d_Mod_printSign_11 ?_
    obtain ⟨hi10, h⟩ := chk_some h
    refine st_Mod_34 hx hb hK hP hN hS 0 rfl (inb_in hi10) d_Mod_printSign_14 (fun H locs hP hS => ?_)
    have hP : bw_P (dC, dI) vwCl [wMod ct a0 (s32 o0 34 (Int32.toNatClampNeg x3) (g32 o0 33 0))] H := hP
    refine lv_aload_n hx hb d_Mod_printSign_15 rfl (lv_at hl 0 rfl) ?_
    refine va_get (D := (dC, dI)) (ci := 6) (v := .ref (a0 24)) (C := R_Mod) (T := T_Mod) (N := 36) hx hb hts in_Mod hown hK (hP 0 _ rfl) 0 rfl rfl 35 (by decide) (hts _ fl_Mod_81) (fun _ h9 => h9) rfl d_Mod_printSign_16 ?_
    refine lv_iload_n hx hb d_Mod_printSign_19 rfl (lv_at hl 3 rfl) ?_
    refine lv_iconst (v := 3) hx hb d_Mod_printSign_20 (by decide) ?_
    refine st_Mod_35 hx hb hK hP hN hS 0 rfl (inb_in hi10) d_Mod_printSign_21 (fun H locs hP hS => ?_)
    have hP : bw_P (dC, dI) vwCl [wMod ct a0 (s32 (s32 o0 34 (Int32.toNatClampNeg x3) (g32 o0 33 0)) 35 (Int32.toNatClampNeg x3) (3 : Int32))] H := hP
    refine lv_iload_n hx hb d_Mod_printSign_22 rfl (lv_at hl 1 rfl) ?_
    refine lv_iconst (v := 1) hx hb d_Mod_printSign_23 (by decide) ?_
    refine lv_icmp_ne (tgt := 35) hx hb d_Mod_printSign_24 (by decide) (fun c12 => ?_) (fun c12 => ?_)
    · have h := ite_f c12 h
      refine lv_iload_n hx hb d_Mod_printSign_35 rfl (lv_at hl 1 rfl) ?_
      refine lv_iconst (v := 2) hx hb d_Mod_printSign_36 (by decide) ?_
      refine lv_icmp_ne (tgt := 51) hx hb d_Mod_printSign_37 (by decide) (fun c13 => ?_) (fun c13 => ?_)
      · have h := ite_f c13 h
        refine lv_aload_n hx hb d_Mod_printSign_51 rfl (lv_at hl 0 rfl) ?_
        refine lv_iload_n hx hb d_Mod_printSign_52 rfl (lv_at hl 2 rfl) ?_
        obtain ⟨o_15, hG14, h⟩ := bind1_some h
        refine bw_call (Lc := [wMod ct a0 (s32 (s32 o0 34 (Int32.toNatClampNeg x3) (g32 o0 33 0)) 35 (Int32.toNatClampNeg x3) (3 : Int32))]) (Lc' := [wMod ct a0 o_15]) (L' := [wMod ct a0 o_15]) [0] (va_runV (As := [.int x2]) (rest := []) ⟨hx, hb, hml, hown, hts⟩ (c_Mod_addCell l ct dC dI a0 _ x2 (s32 (s32 o0 34 (Int32.toNatClampNeg x3) (g32 o0 33 0)) 35 (Int32.toNatClampNeg x3) (3 : Int32)) o_15 hG14) (cwV 1 hts g_Mod_273 rfl rfl rfl (by decide +kernel) ⟨Nat.le_of_ble_eq_true rfl, Nat.le_of_ble_eq_true rfl⟩) ⟨bw_blind nx_call, va_recv hK (hP 0 _ rfl) (ci := 6) (q0 := 0) rfl rfl, fun U hU hW => ⟨rfl, by rw [hU], by rw [hU]; exact hP.sub [0] rfl, va_K.moved hW.alike hK, (hN.sub [0] (by decide) rfl).weaken (fun _ _ => trivial), nx_warm hW hnx⟩⟩ rfl rfl hl.1 rfl (Nat.le_of_ble_eq_true rfl) d_Mod_printSign_53 ⟨Nat.le_of_ble_eq_true rfl, Nat.le_of_ble_eq_true rfl⟩) hP hN hS hA rfl rfl rfl (fun H locs hP hS => ?_)
        refine lv_iload_n hx hb d_Mod_printSign_56 rfl (lv_at hl 3 rfl) ?_
        refine lv_iconst (v := 1) hx hb d_Mod_printSign_57 (by decide) ?_
        refine lv_iadd hx hb d_Mod_printSign_58 ?_
        obtain ⟨rfl, rfl⟩ := res2 h
        exact W.iret hx hb hr (fun t ht hW => ⟨rfl, by rw [ht]; exact hP, hS.F ht⟩) hS.2.2 d_Mod_printSign_59
      · have h := ite_t c13 h
        refine lv_aload_n hx hb d_Mod_printSign_40 rfl (lv_at hl 0 rfl) ?_
        refine lv_bipush (v := 97) hx hb d_Mod_printSign_41 (by decide) ?_
        refine lv_iload_n hx hb d_Mod_printSign_43 rfl (lv_at hl 2 rfl) ?_
        refine lv_iadd hx hb d_Mod_printSign_44 ?_
        obtain ⟨o_17, hG16, h⟩ := bind1_some h
        refine bw_call (Lc := [wMod ct a0 (s32 (s32 o0 34 (Int32.toNatClampNeg x3) (g32 o0 33 0)) 35 (Int32.toNatClampNeg x3) (3 : Int32))]) (Lc' := [wMod ct a0 o_17]) (L' := [wMod ct a0 o_17]) [0] (va_runV (As := [.int ((97 : Int32) + x2)]) (rest := []) ⟨hx, hb, hml, hown, hts⟩ (c_Mod_add l ct dC dI a0 _ ((97 : Int32) + x2) (s32 (s32 o0 34 (Int32.toNatClampNeg x3) (g32 o0 33 0)) 35 (Int32.toNatClampNeg x3) (3 : Int32)) o_17 hG16) (cwV 1 hts g_Mod_258 rfl rfl rfl (by decide +kernel) ⟨Nat.le_of_ble_eq_true rfl, Nat.le_of_ble_eq_true rfl⟩) ⟨bw_blind nx_call, va_recv hK (hP 0 _ rfl) (ci := 6) (q0 := 0) rfl rfl, fun U hU hW => ⟨rfl, by rw [hU], by rw [hU]; exact hP.sub [0] rfl, va_K.moved hW.alike hK, (hN.sub [0] (by decide) rfl).weaken (fun _ _ => trivial), nx_warm hW hnx⟩⟩ rfl rfl hl.1 rfl (Nat.le_of_ble_eq_true rfl) d_Mod_printSign_45 ⟨Nat.le_of_ble_eq_true rfl, Nat.le_of_ble_eq_true rfl⟩) hP hN hS hA rfl rfl rfl (fun H locs hP hS => ?_)
        refine lv_goto (tgt := 56) hx hb d_Mod_printSign_48 (by decide) ?_
        refine lv_iload_n hx hb d_Mod_printSign_56 rfl (lv_at hl 3 rfl) ?_
        refine lv_iconst (v := 1) hx hb d_Mod_printSign_57 (by decide) ?_
        refine lv_iadd hx hb d_Mod_printSign_58 ?_
        obtain ⟨rfl, rfl⟩ := res2 h
        exact W.iret hx hb hr (fun t ht hW => ⟨rfl, by rw [ht]; exact hP, hS.F ht⟩) hS.2.2 d_Mod_printSign_59
    · have h := ite_t c12 h
      refine lv_aload_n hx hb d_Mod_printSign_27 rfl (lv_at hl 0 rfl) ?_
      refine lv_iload_n hx hb d_Mod_printSign_28 rfl (lv_at hl 2 rfl) ?_
      obtain ⟨o_19, hG18, h⟩ := bind1_some h
      refine bw_call (Lc := [wMod ct a0 (s32 (s32 o0 34 (Int32.toNatClampNeg x3) (g32 o0 33 0)) 35 (Int32.toNatClampNeg x3) (3 : Int32))]) (Lc' := [wMod ct a0 o_19]) (L' := [wMod ct a0 o_19]) [0] (va_runV (As := [.int x2]) (rest := []) ⟨hx, hb, hml, hown, hts⟩ (c_Mod_addNumber l ct dC dI a0 _ x2 (s32 (s32 o0 34 (Int32.toNatClampNeg x3) (g32 o0 33 0)) 35 (Int32.toNatClampNeg x3) (3 : Int32)) o_19 hG18) (cwV 1 hts g_Mod_270 rfl rfl rfl (by decide +kernel) ⟨Nat.le_of_ble_eq_true rfl, Nat.le_of_ble_eq_true rfl⟩) ⟨bw_blind nx_call, va_recv hK (hP 0 _ rfl) (ci := 6) (q0 := 0) rfl rfl, fun U hU hW => ⟨rfl, by rw [hU], by rw [hU]; exact hP.sub [0] rfl, va_K.moved hW.alike hK, (hN.sub [0] (by decide) rfl).weaken (fun _ _ => trivial), nx_warm hW hnx⟩⟩ rfl rfl hl.1 rfl (Nat.le_of_ble_eq_true rfl) d_Mod_printSign_29 ⟨Nat.le_of_ble_eq_true rfl, Nat.le_of_ble_eq_true rfl⟩) hP hN hS hA rfl rfl rfl (fun H locs hP hS => ?_)
      refine lv_goto (tgt := 56) hx hb d_Mod_printSign_32 (by decide) ?_
      refine lv_iload_n hx hb d_Mod_printSign_56 rfl (lv_at hl 3 rfl) ?_
      refine lv_iconst (v := 1) hx hb d_Mod_printSign_57 (by decide) ?_
      refine lv_iadd hx hb d_Mod_printSign_58 ?_
      obtain ⟨rfl, rfl⟩ := res2 h
      exact W.iret hx hb hr (fun t ht hW => ⟨rfl, by rw [ht]; exact hP, hS.F ht⟩) hS.2.2 d_Mod_printSign_59
theorem g_Mod_279 : GoodIn wsAll (wsV R_Mod 279 R_Mod y_Mod_printSign ws_Mod_printSign) := gd_V ml_Mod_279 im_Mod_printSign se_Mod_printSign ini_Mod cd_Mod_printSign
def F_Mod_printStatement_95 (k43 : Int32 → Int32 → Int32 → Ob → Option (Ob)) (x1 : Int32) (x2 : Int32) (x3 : Int32) (o0 : Ob) : Option (Ob) :=
  chk (inb x3 1000) (if (g32 o0 5 (Int32.toNatClampNeg x3)) = (9 : Int32) then (chk (inb x1 50) (if (g32 o0 10 (Int32.toNatClampNeg x1)) < 0 then (k43 x1 x2 (x3 + (1 : Int32)) o0) else (bind1 (F_Mod_add (63 : Int32) o0) (fun o_28 => k43 x1 (0 : Int32) (x3 + (1 : Int32)) o_28)))) else (k43 x1 x2 (x3 + (1 : Int32)) o0))
def F_Mod_printStatement_43  : Nat → Int32 → Int32 → Int32 → Ob → Option (Ob)
  | 0, _, _, _, _ => none
  | n + 1, x1, x2, x3, o0 =>
    chk (inb (x1 + (1 : Int32)) 50) (if (g32 o0 9 (Int32.toNatClampNeg (x1 + (1 : Int32)))) ≤ x3 then (some o0) else (chk (inb x3 1000) (if (g32 o0 5 (Int32.toNatClampNeg x3)) = (10 : Int32) then (bind1 (F_Mod_add (58 : Int32) o0) (fun o_22 => F_Mod_printStatement_95 (F_Mod_printStatement_43 n) x1 (0 : Int32) x3 o_22)) else (bind2 (F_Mod_printSign (g32 o0 5 (Int32.toNatClampNeg x3)) (g32 o0 6 (Int32.toNatClampNeg x3)) x2 o0) (fun v19 o_20 => F_Mod_printStatement_95 (F_Mod_printStatement_43 n) x1 v19 x3 o_20)))))
def F_Mod_printStatement (x1 : Int32) (o0 : Ob) : Option (Ob) :=
  chk (inb x1 50) (if 0 ≤ (g32 o0 10 (Int32.toNatClampNeg x1)) then (bind1 (F_Mod_addCell (g32 o0 10 (Int32.toNatClampNeg x1)) o0) (fun o_5 => bind1 (F_Mod_add (61 : Int32) o_5) (fun o_7 => F_Mod_printStatement_43 fuel x1 (0 : Int32) (g32 o_7 9 (Int32.toNatClampNeg x1)) o_7))) else (bind1 (F_Mod_add (33 : Int32) o0) (fun o_10 => F_Mod_printStatement_43 fuel x1 (0 : Int32) (g32 o_10 9 (Int32.toNatClampNeg x1)) o_10)))
abbrev ws_Mod_printStatement : List Cond := Cond.code y_Mod_printStatement b_Mod_printStatement 4 (none : Option Jvm.ClassFile.FieldType) :: wsAll
abbrev rm_Mod_printStatement : Room := { frames := 4, cells := 0, slots := 0, locals := 92 }
set_option maxHeartbeats 4000000 in
set_option maxRecDepth 100000 in
theorem k_Mod_printStatement_95 {p : Program} {l : Launch} {e : Env} {s : State} {m : MethodId} {args : Array Value} {below : List Frame} {meth : Method} {c : Code} {A : Nat → Prop} {ct dC : Nat → ClassId} {dI : Nat → Nat → Nat} {a0 : Nat → Nat}  {n0 : Ob}  {k43 : Int32 → Int32 → Int32 → Ob → Option (Ob)} (C0 : cx wsAll vwCl nx p s m args meth c (dC, dI) (tyA ct) b_Mod_printStatement 4 (none : Option Jvm.ClassFile.FieldType) R_Mod A [adMod a0]) (hk43 : ∀ (x1 : Int32) (x2 : Int32) (x3 : Int32) (o0 : Ob) (H : Heap) (locs : List Loc) (ls : Array Slot), bw_P (dC, dI) vwCl [wMod ct a0 o0] H → va_S A s.heap H locs → lv_has ls 4 [(0, .ref (a0 0)), (1, .int x1), (2, .int x2), (3, .int x3)] → k43 x1 x2 x3 o0 = some n0 → W p l e (headSpec ws_Mod_printStatement rm_Mod_printStatement).room s m args below meth c H locs 0 0 (MQ below (bw_Q (dC, dI) vwCl none [wMod ct a0 n0] A) args s 0 0 A) (F0 m 43 ls [])) : ∀ (x1 : Int32) (x2 : Int32) (x3 : Int32) (o0 : Ob) (H : Heap) (locs : List Loc) (ls : Array Slot), bw_P (dC, dI) vwCl [wMod ct a0 o0] H → va_S A s.heap H locs → lv_has ls 4 [(0, .ref (a0 0)), (1, .int x1), (2, .int x2), (3, .int x3)] → F_Mod_printStatement_95 k43 x1 x2 x3 o0 = some n0 → W p l e (headSpec ws_Mod_printStatement rm_Mod_printStatement).room s m args below meth c H locs 0 0 (MQ below (bw_Q (dC, dI) vwCl none [wMod ct a0 n0] A) args s 0 0 A) (F0 m 95 ls []) := by
  obtain ⟨hx, hb, hr, hml, hown, hlocks, hts, hK, hN, hA, hnx⟩ := id C0
  intro x1 x2 x3 o0 H locs ls hP hS hl h
  rw [F_Mod_printStatement_95] at h
  refine lv_aload_n hx hb d_Mod_printStatement_95 rfl (lv_at hl 0 rfl) ?_
  refine va_get (D := (dC, dI)) (ci := 6) (v := .ref (a0 2)) (C := R_Mod) (T := T_Mod) (N := 36) hx hb hts in_Mod hown hK (hP 0 _ rfl) 0 rfl rfl 5 (by decide) (hts _ fl_Mod_13) (fun _ h9 => h9) rfl d_Mod_printStatement_96 ?_
  refine lv_iload_n hx hb d_Mod_printStatement_99 rfl (lv_at hl 3 rfl) ?_
  obtain ⟨hi23, h⟩ := chk_some h
  refine va_iald (f := g32 o0 5) hx hb hK (hP 0 _ rfl) 2 0 rfl rfl (inb_in hi23) d_Mod_printStatement_100 ?_
  refine lv_bipush (v := 9) hx hb d_Mod_printStatement_101 (by decide) ?_
  refine lv_icmp_ne (tgt := 123) hx hb d_Mod_printStatement_103 (by decide) (fun c24 => ?_) (fun c24 => ?_)
  · have h := ite_f c24 h
    refine lv_iinc (v := (x3 + (1 : Int32))) (lv' := [(3, .int (x3 + (1 : Int32))), (0, .ref (a0 0)), (1, .int x1), (2, .int x2)]) hx hb d_Mod_printStatement_123 hl (k := 3) rfl rfl (by decide) rfl (fun ls hl => ?_)
    refine lv_goto (tgt := 43) hx hb d_Mod_printStatement_126 (by decide) ?_
    exact hk43 x1 x2 (x3 + (1 : Int32)) o0 _ _ _ hP hS (lv_sub hl [1, 2, 3, 0] rfl) h
  · have h := ite_t c24 h
    refine lv_aload_n hx hb d_Mod_printStatement_106 rfl (lv_at hl 0 rfl) ?_
    refine va_get (D := (dC, dI)) (ci := 6) (v := .ref (a0 7)) (C := R_Mod) (T := T_Mod) (N := 36) hx hb hts in_Mod hown hK (hP 0 _ rfl) 0 rfl rfl 10 (by decide) (hts _ fl_Mod_28) (fun _ h9 => h9) rfl d_Mod_printStatement_107 ?_
    refine lv_iload_n hx hb d_Mod_printStatement_110 rfl (lv_at hl 1 rfl) ?_
    obtain ⟨hi25, h⟩ := chk_some h
    refine va_iald (f := g32 o0 10) hx hb hK (hP 0 _ rfl) 7 0 rfl rfl (inb_in hi25) d_Mod_printStatement_111 ?_
    refine lv_if_lt (tgt := 123) hx hb d_Mod_printStatement_112 (by decide) (fun c26 => ?_) (fun c26 => ?_)
    · have h := ite_t c26 h
      refine lv_iinc (v := (x3 + (1 : Int32))) (lv' := [(3, .int (x3 + (1 : Int32))), (0, .ref (a0 0)), (1, .int x1), (2, .int x2)]) hx hb d_Mod_printStatement_123 hl (k := 3) rfl rfl (by decide) rfl (fun ls hl => ?_)
      refine lv_goto (tgt := 43) hx hb d_Mod_printStatement_126 (by decide) ?_
      exact hk43 x1 x2 (x3 + (1 : Int32)) o0 _ _ _ hP hS (lv_sub hl [1, 2, 3, 0] rfl) h
    · have h := ite_f c26 h
      refine lv_aload_n hx hb d_Mod_printStatement_115 rfl (lv_at hl 0 rfl) ?_
      refine lv_bipush (v := 63) hx hb d_Mod_printStatement_116 (by decide) ?_
      obtain ⟨o_28, hG27, h⟩ := bind1_some h
      refine bw_call (Lc := [wMod ct a0 o0]) (Lc' := [wMod ct a0 o_28]) (L' := [wMod ct a0 o_28]) [0] (va_runV (As := [.int (63 : Int32)]) (rest := []) ⟨hx, hb, hml, hown, hts⟩ (c_Mod_add l ct dC dI a0 _ (63 : Int32) o0 o_28 hG27) (cwV 1 hts g_Mod_258 rfl rfl rfl (by decide +kernel) ⟨Nat.le_of_ble_eq_true rfl, Nat.le_of_ble_eq_true rfl⟩) ⟨bw_blind nx_call, va_recv hK (hP 0 _ rfl) (ci := 6) (q0 := 0) rfl rfl, fun U hU hW => ⟨rfl, by rw [hU], by rw [hU]; exact hP.sub [0] rfl, va_K.moved hW.alike hK, (hN.sub [0] (by decide) rfl).weaken (fun _ _ => trivial), nx_warm hW hnx⟩⟩ rfl rfl hl.1 rfl (Nat.le_of_ble_eq_true rfl) d_Mod_printStatement_118 ⟨Nat.le_of_ble_eq_true rfl, Nat.le_of_ble_eq_true rfl⟩) hP hN hS hA rfl rfl rfl (fun H locs hP hS => ?_)
      refine lv_iconst (v := 0) hx hb d_Mod_printStatement_121 (by decide) ?_
      refine lv_istore_n (lv' := [(2, .int (0 : Int32)), (0, .ref (a0 0)), (1, .int x1), (3, .int x3)]) hx hb d_Mod_printStatement_122 rfl hl (by decide) rfl (fun ls hl => ?_)
      refine lv_iinc (v := (x3 + (1 : Int32))) (lv' := [(3, .int (x3 + (1 : Int32))), (2, .int (0 : Int32)), (0, .ref (a0 0)), (1, .int x1)]) hx hb d_Mod_printStatement_123 hl (k := 3) rfl rfl (by decide) rfl (fun ls hl => ?_)
      refine lv_goto (tgt := 43) hx hb d_Mod_printStatement_126 (by decide) ?_
      exact hk43 x1 (0 : Int32) (x3 + (1 : Int32)) o_28 _ _ _ hP hS (lv_sub hl [2, 3, 1, 0] rfl) h
set_option maxHeartbeats 4000000 in
set_option maxRecDepth 100000 in
theorem k_Mod_printStatement_43 {p : Program} {l : Launch} {e : Env} {s : State} {m : MethodId} {args : Array Value} {below : List Frame} {meth : Method} {c : Code} {A : Nat → Prop} {ct dC : Nat → ClassId} {dI : Nat → Nat → Nat} {a0 : Nat → Nat}  {n0 : Ob}   (C0 : cx wsAll vwCl nx p s m args meth c (dC, dI) (tyA ct) b_Mod_printStatement 4 (none : Option Jvm.ClassFile.FieldType) R_Mod A [adMod a0])  : ∀ (n : Nat) (x1 : Int32) (x2 : Int32) (x3 : Int32) (o0 : Ob) (H : Heap) (locs : List Loc) (ls : Array Slot), bw_P (dC, dI) vwCl [wMod ct a0 o0] H → va_S A s.heap H locs → lv_has ls 4 [(0, .ref (a0 0)), (1, .int x1), (2, .int x2), (3, .int x3)] → F_Mod_printStatement_43 n x1 x2 x3 o0 = some n0 → W p l e (headSpec ws_Mod_printStatement rm_Mod_printStatement).room s m args below meth c H locs 0 0 (MQ below (bw_Q (dC, dI) vwCl none [wMod ct a0 n0] A) args s 0 0 A) (F0 m 43 ls []) := by
  obtain ⟨hx, hb, hr, hml, hown, hlocks, hts, hK, hN, hA, hnx⟩ := id C0
  intro n
  induction n with
  | zero =>
    intro x1 x2 x3 o0 H locs ls hP hS hl h
    cases h
  | succ n ih =>
    intro x1 x2 x3 o0 H locs ls hP hS hl h
    rw [F_Mod_printStatement_43] at h
    refine lv_iload_n hx hb d_Mod_printStatement_43 rfl (lv_at hl 3 rfl) ?_
    refine lv_aload_n hx hb d_Mod_printStatement_44 rfl (lv_at hl 0 rfl) ?_
    refine va_get (D := (dC, dI)) (ci := 6) (v := .ref (a0 6)) (C := R_Mod) (T := T_Mod) (N := 36) hx hb hts in_Mod hown hK (hP 0 _ rfl) 0 rfl rfl 9 (by decide) (hts _ fl_Mod_25) (fun _ h9 => h9) rfl d_Mod_printStatement_45 ?_
    refine lv_iload_n hx hb d_Mod_printStatement_48 rfl (lv_at hl 1 rfl) ?_
    refine lv_iconst (v := 1) hx hb d_Mod_printStatement_49 (by decide) ?_
    refine lv_iadd hx hb d_Mod_printStatement_50 ?_
    obtain ⟨hi12, h⟩ := chk_some h
    refine va_iald (f := g32 o0 9) hx hb hK (hP 0 _ rfl) 6 0 rfl rfl (inb_in hi12) d_Mod_printStatement_51 ?_
    refine lv_icmp_ge (tgt := 129) hx hb d_Mod_printStatement_52 (by decide) (fun c13 => ?_) (fun c13 => ?_)
    · have h := ite_t c13 h
      obtain rfl := res1 h
      exact W.vret hx hb hr (fun t ht hW => ⟨rfl, by rw [ht]; exact hP, hS.F ht⟩) hS.2.2 d_Mod_printStatement_129
    · have h := ite_f c13 h
      refine lv_aload_n hx hb d_Mod_printStatement_55 rfl (lv_at hl 0 rfl) ?_
      refine va_get (D := (dC, dI)) (ci := 6) (v := .ref (a0 2)) (C := R_Mod) (T := T_Mod) (N := 36) hx hb hts in_Mod hown hK (hP 0 _ rfl) 0 rfl rfl 5 (by decide) (hts _ fl_Mod_13) (fun _ h9 => h9) rfl d_Mod_printStatement_56 ?_
      refine lv_iload_n hx hb d_Mod_printStatement_59 rfl (lv_at hl 3 rfl) ?_
      obtain ⟨hi14, h⟩ := chk_some h
      refine va_iald (f := g32 o0 5) hx hb hK (hP 0 _ rfl) 2 0 rfl rfl (inb_in hi14) d_Mod_printStatement_60 ?_
      refine lv_bipush (v := 10) hx hb d_Mod_printStatement_61 (by decide) ?_
      refine lv_icmp_ne (tgt := 77) hx hb d_Mod_printStatement_63 (by decide) (fun c15 => ?_) (fun c15 => ?_)
      · have h := ite_f c15 h
        refine lv_aload_n hx hb d_Mod_printStatement_77 rfl (lv_at hl 0 rfl) ?_
        refine lv_aload_n hx hb d_Mod_printStatement_78 rfl (lv_at hl 0 rfl) ?_
        refine va_get (D := (dC, dI)) (ci := 6) (v := .ref (a0 2)) (C := R_Mod) (T := T_Mod) (N := 36) hx hb hts in_Mod hown hK (hP 0 _ rfl) 0 rfl rfl 5 (by decide) (hts _ fl_Mod_13) (fun _ h9 => h9) rfl d_Mod_printStatement_79 ?_
        refine lv_iload_n hx hb d_Mod_printStatement_82 rfl (lv_at hl 3 rfl) ?_
        refine va_iald (f := g32 o0 5) hx hb hK (hP 0 _ rfl) 2 0 rfl rfl (inb_in hi14) d_Mod_printStatement_83 ?_
        refine lv_aload_n hx hb d_Mod_printStatement_84 rfl (lv_at hl 0 rfl) ?_
        refine va_get (D := (dC, dI)) (ci := 6) (v := .ref (a0 3)) (C := R_Mod) (T := T_Mod) (N := 36) hx hb hts in_Mod hown hK (hP 0 _ rfl) 0 rfl rfl 6 (by decide) (hts _ fl_Mod_16) (fun _ h9 => h9) rfl d_Mod_printStatement_85 ?_
        refine lv_iload_n hx hb d_Mod_printStatement_88 rfl (lv_at hl 3 rfl) ?_
        refine va_iald (f := g32 o0 6) hx hb hK (hP 0 _ rfl) 3 0 rfl rfl (inb_in hi14) d_Mod_printStatement_89 ?_
        refine lv_iload_n hx hb d_Mod_printStatement_90 rfl (lv_at hl 2 rfl) ?_
        obtain ⟨v19, o_20, hG18, h⟩ := bind2_some h
        refine bw_call (Lc := [wMod ct a0 o0]) (Lc' := [wMod ct a0 o_20]) (L' := [wMod ct a0 o_20]) [0] (va_runV (As := [.int (g32 o0 5 (Int32.toNatClampNeg x3)), .int (g32 o0 6 (Int32.toNatClampNeg x3)), .int x2]) (rest := []) ⟨hx, hb, hml, hown, hts⟩ (c_Mod_printSign l ct dC dI a0 _ (g32 o0 5 (Int32.toNatClampNeg x3)) (g32 o0 6 (Int32.toNatClampNeg x3)) x2 o0 v19 o_20 hG18) (cwV 3 hts g_Mod_279 rfl rfl rfl (by decide +kernel) ⟨Nat.le_of_ble_eq_true rfl, Nat.le_of_ble_eq_true rfl⟩) ⟨bw_blind nx_call, va_recv hK (hP 0 _ rfl) (ci := 6) (q0 := 0) rfl rfl, fun U hU hW => ⟨rfl, by rw [hU], by rw [hU]; exact hP.sub [0] rfl, va_K.moved hW.alike hK, (hN.sub [0] (by decide) rfl).weaken (fun _ _ => trivial), nx_warm hW hnx⟩⟩ rfl rfl hl.1 rfl (Nat.le_of_ble_eq_true rfl) d_Mod_printStatement_91 ⟨Nat.le_of_ble_eq_true rfl, Nat.le_of_ble_eq_true rfl⟩) hP hN hS hA rfl rfl rfl (fun H locs hP hS => ?_)
        refine lv_istore_n (lv' := [(2, .int v19), (0, .ref (a0 0)), (1, .int x1), (3, .int x3)]) hx hb d_Mod_printStatement_94 rfl hl (by decide) rfl (fun ls hl => ?_)
        exact k_Mod_printStatement_95 C0 ih x1 v19 x3 o_20 _ _ _ hP hS (lv_sub hl [1, 2, 0, 3] rfl) h
      · have h := ite_t c15 h
        refine lv_aload_n hx hb d_Mod_printStatement_66 rfl (lv_at hl 0 rfl) ?_
        refine lv_bipush (v := 58) hx hb d_Mod_printStatement_67 (by decide) ?_
        obtain ⟨o_22, hG21, h⟩ := bind1_some h
        refine bw_call (Lc := [wMod ct a0 o0]) (Lc' := [wMod ct a0 o_22]) (L' := [wMod ct a0 o_22]) [0] (va_runV (As := [.int (58 : Int32)]) (rest := []) ⟨hx, hb, hml, hown, hts⟩ (c_Mod_add l ct dC dI a0 _ (58 : Int32) o0 o_22 hG21) (cwV 1 hts g_Mod_258 rfl rfl rfl (by decide +kernel) ⟨Nat.le_of_ble_eq_true rfl, Nat.le_of_ble_eq_true rfl⟩) ⟨bw_blind nx_call, va_recv hK (hP 0 _ rfl) (ci := 6) (q0 := 0) rfl rfl, fun U hU hW => ⟨rfl, by rw [hU], by rw [hU]; exact hP.sub [0] rfl, va_K.moved hW.alike hK, (hN.sub [0] (by decide) rfl).weaken (fun _ _ => trivial), nx_warm hW hnx⟩⟩ rfl rfl hl.1 rfl (Nat.le_of_ble_eq_true rfl) d_Mod_printStatement_69 ⟨Nat.le_of_ble_eq_true rfl, Nat.le_of_ble_eq_true rfl⟩) hP hN hS hA rfl rfl rfl (fun H locs hP hS => ?_)
        refine lv_iconst (v := 0) hx hb d_Mod_printStatement_72 (by decide) ?_
        refine lv_istore_n (lv' := [(2, .int (0 : Int32)), (0, .ref (a0 0)), (1, .int x1), (3, .int x3)]) hx hb d_Mod_printStatement_73 rfl hl (by decide) rfl (fun ls hl => ?_)
        refine lv_goto (tgt := 95) hx hb d_Mod_printStatement_74 (by decide) ?_
        exact k_Mod_printStatement_95 C0 ih x1 (0 : Int32) x3 o_22 _ _ _ hP hS (lv_sub hl [1, 2, 0, 3] rfl) h
set_option maxHeartbeats 4000000 in
set_option maxRecDepth 100000 in
theorem c_Mod_printStatement (l : Launch) (ct dC : Nat → ClassId) (dI : Nat → Nat → Nat) (a0 : Nat → Nat)  (sz : Nat) (x1 : Int32) (o0 : Ob) (n0 : Ob) (hF : F_Mod_printStatement x1 o0 = some n0) : Met l y_Mod_printStatement ws_Mod_printStatement rm_Mod_printStatement (bw_Pc [.ref (a0 0), .int x1] (dC, dI) vwCl (tyA ct) [wMod ct a0 o0] sz nx) (bw_Q (dC, dI) vwCl none [wMod ct a0 n0] (bw_A [adMod a0] sz)) 0 0 (bw_A [adMod a0] sz) := by
  refine Met.ofW (cc := b_Mod_printStatement) (maxL := 4) (ret := (none : Option Jvm.ClassFile.FieldType)) (by decide) rfl ?_
  intro p e s m args below meth c s₁ B hml hv
  obtain ⟨rfl, hsz, hP, hK, hN0, hnx⟩ := hv
  have hx := B.exec
  have hb := B.bytes
  have hr := B.returns
  have hts : ∀ w ∈ wsAll, w.before [.ref (a0 0), .int x1].toArray s = true := fun w h9 => atoms_spec (ws := ws_Mod_printStatement) B.pre w (List.mem_cons_of_mem _ h9)
  have hown : s.vm.findClass R_Mod = some m.cls := findClass_of_methodNamed B.named
  have hlocks := B.notSynchronized
  subst hsz
  have hN : bw_N (bw_A [adMod a0] s.heap.size) [adMod a0] := hN0.self s.heap.size
  generalize hAe : bw_A [adMod a0] s.heap.size = A at hN ⊢
  have hA : ∀ q : Nat, s.heap.size ≤ q → A q := fun q h => by rw [← hAe]; exact Or.inr h
  have hS : va_S A s.heap s.heap [] := va_S.rf
  have hl := lv_entry ([.ref (a0 0), .int x1]) (n := 4) (Nat.le_of_ble_eq_true rfl)
  rw [lg_entry_eq]
  generalize (lg_sl ([.ref (a0 0), .int x1]) ++ List.replicate (4 - (lg_sl ([.ref (a0 0), .int x1])).length) Slot.unset).toArray = ls at hl ⊢
  have hl : lv_has ls 4 [(0, .ref (a0 0)), (1, .int x1)] := hl
  have C0 : cx wsAll vwCl nx p s m [.ref (a0 0), .int x1].toArray meth c (dC, dI) (tyA ct) b_Mod_printStatement 4 (none : Option Jvm.ClassFile.FieldType) R_Mod A [adMod a0] := ⟨hx, hb, hr, hml, hown, hlocks, hts, hK, hN, hA, hnx⟩
  have h := hF
  rw [F_Mod_printStatement] at h
  refine lv_aload_n hx hb d_Mod_printStatement_0 rfl (lv_at hl 0 rfl) ?_
  refine va_get (D := (dC, dI)) (ci := 6) (v := .ref (a0 7)) (C := R_Mod) (T := T_Mod) (N := 36) hx hb hts in_Mod hown hK (hP 0 _ rfl) 0 rfl rfl 10 (by decide) (hts _ fl_Mod_28) (fun _ h9 => h9) rfl d_Mod_printStatement_1 ?_
  refine lv_iload_n hx hb d_Mod_printStatement_4 rfl (lv_at hl 1 rfl) ?_
  obtain ⟨hi1, h⟩ := chk_some h
  refine va_iald (f := g32 o0 10) hx hb hK (hP 0 _ rfl) 7 0 rfl rfl (inb_in hi1) d_Mod_printStatement_5 ?_
  refine lv_if_ge (tgt := 18) hx hb d_Mod_printStatement_6 (by decide) (fun c2 => ?_) (fun c2 => ?_)
  · have h := ite_t c2 h
    refine lv_aload_n hx hb d_Mod_printStatement_18 rfl (lv_at hl 0 rfl) ?_
    refine lv_aload_n hx hb d_Mod_printStatement_19 rfl (lv_at hl 0 rfl) ?_
    refine va_get (D := (dC, dI)) (ci := 6) (v := .ref (a0 7)) (C := R_Mod) (T := T_Mod) (N := 36) hx hb hts in_Mod hown hK (hP 0 _ rfl) 0 rfl rfl 10 (by decide) (hts _ fl_Mod_28) (fun _ h9 => h9) rfl d_Mod_printStatement_20 ?_
    refine lv_iload_n hx hb d_Mod_printStatement_23 rfl (lv_at hl 1 rfl) ?_
    refine va_iald (f := g32 o0 10) hx hb hK (hP 0 _ rfl) 7 0 rfl rfl (inb_in hi1) d_Mod_printStatement_24 ?_
    obtain ⟨o_5, hG4, h⟩ := bind1_some h
    refine bw_call (Lc := [wMod ct a0 o0]) (Lc' := [wMod ct a0 o_5]) (L' := [wMod ct a0 o_5]) [0] (va_runV (As := [.int (g32 o0 10 (Int32.toNatClampNeg x1))]) (rest := []) ⟨hx, hb, hml, hown, hts⟩ (c_Mod_addCell l ct dC dI a0 _ (g32 o0 10 (Int32.toNatClampNeg x1)) o0 o_5 hG4) (cwV 1 hts g_Mod_273 rfl rfl rfl (by decide +kernel) ⟨Nat.le_of_ble_eq_true rfl, Nat.le_of_ble_eq_true rfl⟩) ⟨bw_blind nx_call, va_recv hK (hP 0 _ rfl) (ci := 6) (q0 := 0) rfl rfl, fun U hU hW => ⟨rfl, by rw [hU], by rw [hU]; exact hP.sub [0] rfl, va_K.moved hW.alike hK, (hN.sub [0] (by decide) rfl).weaken (fun _ _ => trivial), nx_warm hW hnx⟩⟩ rfl rfl hl.1 rfl (Nat.le_of_ble_eq_true rfl) d_Mod_printStatement_25 ⟨Nat.le_of_ble_eq_true rfl, Nat.le_of_ble_eq_true rfl⟩) hP hN hS hA rfl rfl rfl (fun H locs hP hS => ?_)
    refine lv_aload_n hx hb d_Mod_printStatement_28 rfl (lv_at hl 0 rfl) ?_
    refine lv_bipush (v := 61) hx hb d_Mod_printStatement_29 (by decide) ?_
    obtain ⟨o_7, hG6, h⟩ := bind1_some h
    refine bw_call (Lc := [wMod ct a0 o_5]) (Lc' := [wMod ct a0 o_7]) (L' := [wMod ct a0 o_7]) [0] (va_runV (As := [.int (61 : Int32)]) (rest := []) ⟨hx, hb, hml, hown, hts⟩ (c_Mod_add l ct dC dI a0 _ (61 : Int32) o_5 o_7 hG6) (cwV 1 hts g_Mod_258 rfl rfl rfl (by decide +kernel) ⟨Nat.le_of_ble_eq_true rfl, Nat.le_of_ble_eq_true rfl⟩) ⟨bw_blind nx_call, va_recv hK (hP 0 _ rfl) (ci := 6) (q0 := 0) rfl rfl, fun U hU hW => ⟨rfl, by rw [hU], by rw [hU]; exact hP.sub [0] rfl, va_K.moved hW.alike hK, (hN.sub [0] (by decide) rfl).weaken (fun _ _ => trivial), nx_warm hW hnx⟩⟩ rfl rfl hl.1 rfl (Nat.le_of_ble_eq_true rfl) d_Mod_printStatement_31 ⟨Nat.le_of_ble_eq_true rfl, Nat.le_of_ble_eq_true rfl⟩) hP hN hS hA rfl rfl rfl (fun H locs hP hS => ?_)
    refine lv_iconst (v := 0) hx hb d_Mod_printStatement_34 (by decide) ?_
    refine lv_istore_n (lv' := [(2, .int (0 : Int32)), (0, .ref (a0 0)), (1, .int x1)]) hx hb d_Mod_printStatement_35 rfl hl (by decide) rfl (fun ls hl => ?_)
    refine lv_aload_n hx hb d_Mod_printStatement_36 rfl (lv_at hl 1 rfl) ?_
    refine va_get (D := (dC, dI)) (ci := 6) (v := .ref (a0 6)) (C := R_Mod) (T := T_Mod) (N := 36) hx hb hts in_Mod hown hK (hP 0 _ rfl) 0 rfl rfl 9 (by decide) (hts _ fl_Mod_25) (fun _ h9 => h9) rfl d_Mod_printStatement_37 ?_
    refine lv_iload_n hx hb d_Mod_printStatement_40 rfl (lv_at hl 2 rfl) ?_
    refine va_iald (f := g32 o_7 9) hx hb hK (hP 0 _ rfl) 6 0 rfl rfl (inb_in hi1) d_Mod_printStatement_41 ?_
    refine lv_istore_n (lv' := [(3, .int (g32 o_7 9 (Int32.toNatClampNeg x1))), (2, .int (0 : Int32)), (0, .ref (a0 0)), (1, .int x1)]) hx hb d_Mod_printStatement_42 rfl hl (by decide) rfl (fun ls hl => ?_)
    exact k_Mod_printStatement_43 C0 fuel x1 (0 : Int32) (g32 o_7 9 (Int32.toNatClampNeg x1)) o_7 _ _ _ hP hS (lv_sub hl [2, 3, 1, 0] rfl) h
  · have h := ite_f c2 h
    refine lv_aload_n hx hb d_Mod_printStatement_9 rfl (lv_at hl 0 rfl) ?_
    refine lv_bipush (v := 33) hx hb d_Mod_printStatement_10 (by decide) ?_
    obtain ⟨o_10, hG9, h⟩ := bind1_some h
    refine bw_call (Lc := [wMod ct a0 o0]) (Lc' := [wMod ct a0 o_10]) (L' := [wMod ct a0 o_10]) [0] (va_runV (As := [.int (33 : Int32)]) (rest := []) ⟨hx, hb, hml, hown, hts⟩ (c_Mod_add l ct dC dI a0 _ (33 : Int32) o0 o_10 hG9) (cwV 1 hts g_Mod_258 rfl rfl rfl (by decide +kernel) ⟨Nat.le_of_ble_eq_true rfl, Nat.le_of_ble_eq_true rfl⟩) ⟨bw_blind nx_call, va_recv hK (hP 0 _ rfl) (ci := 6) (q0 := 0) rfl rfl, fun U hU hW => ⟨rfl, by rw [hU], by rw [hU]; exact hP.sub [0] rfl, va_K.moved hW.alike hK, (hN.sub [0] (by decide) rfl).weaken (fun _ _ => trivial), nx_warm hW hnx⟩⟩ rfl rfl hl.1 rfl (Nat.le_of_ble_eq_true rfl) d_Mod_printStatement_12 ⟨Nat.le_of_ble_eq_true rfl, Nat.le_of_ble_eq_true rfl⟩) hP hN hS hA rfl rfl rfl (fun H locs hP hS => ?_)
    refine lv_goto (tgt := 34) hx hb d_Mod_printStatement_15 (by decide) ?_
    refine lv_iconst (v := 0) hx hb d_Mod_printStatement_34 (by decide) ?_
    refine lv_istore_n (lv' := [(2, .int (0 : Int32)), (0, .ref (a0 0)), (1, .int x1)]) hx hb d_Mod_printStatement_35 rfl hl (by decide) rfl (fun ls hl => ?_)
    refine lv_aload_n hx hb d_Mod_printStatement_36 rfl (lv_at hl 1 rfl) ?_
    refine va_get (D := (dC, dI)) (ci := 6) (v := .ref (a0 6)) (C := R_Mod) (T := T_Mod) (N := 36) hx hb hts in_Mod hown hK (hP 0 _ rfl) 0 rfl rfl 9 (by decide) (hts _ fl_Mod_25) (fun _ h9 => h9) rfl d_Mod_printStatement_37 ?_
    refine lv_iload_n hx hb d_Mod_printStatement_40 rfl (lv_at hl 2 rfl) ?_
    refine va_iald (f := g32 o_10 9) hx hb hK (hP 0 _ rfl) 6 0 rfl rfl (inb_in hi1) d_Mod_printStatement_41 ?_
    refine lv_istore_n (lv' := [(3, .int (g32 o_10 9 (Int32.toNatClampNeg x1))), (2, .int (0 : Int32)), (0, .ref (a0 0)), (1, .int x1)]) hx hb d_Mod_printStatement_42 rfl hl (by decide) rfl (fun ls hl => ?_)
    exact k_Mod_printStatement_43 C0 fuel x1 (0 : Int32) (g32 o_10 9 (Int32.toNatClampNeg x1)) o_10 _ _ _ hP hS (lv_sub hl [2, 3, 1, 0] rfl) h
theorem g_Mod_283 : GoodIn wsAll (wsV R_Mod 283 R_Mod y_Mod_printStatement ws_Mod_printStatement) := gd_V ml_Mod_283 im_Mod_printStatement se_Mod_printStatement ini_Mod cd_Mod_printStatement
def F_Mod_write_40  : Nat → Int32 → Int32 → Ob → Option (Int32 × Ob)
  | 0, _, _, _ => none
  | n + 1, x1, x2, o0 =>
    chk (inb (0 : Int32) 2) (if (g32 o0 8 (Int32.toNatClampNeg (0 : Int32))) ≤ x2 then (if (g32 o0 33 0) ≤ x1 then (some ((-1 : Int32), o0)) else (chk (inb x1 900) (some ((g32 o0 32 (Int32.toNatClampNeg x1)), o0)))) else (if x2 ≤ 0 then (bind1 (F_Mod_printStatement x2 o0) (fun o_12 => F_Mod_write_40 n x1 (x2 + (1 : Int32)) o_12)) else (bind1 (F_Mod_add (59 : Int32) o0) (fun o_14 => bind1 (F_Mod_printStatement x2 o_14) (fun o_16 => F_Mod_write_40 n x1 (x2 + (1 : Int32)) o_16)))))
def F_Mod_write (x1 : Int32) (o0 : Ob) : Option (Int32 × Ob) :=
  if (g32 o0 11 0) = 0 then (if (1 : Int32) ≤ 0 then (F_Mod_write_40 fuel x1 (0 : Int32) (s32 (s32 o0 0 0 (1 : Int32)) 33 0 (0 : Int32))) else (some ((0 : Int32), (s32 o0 0 0 (1 : Int32))))) else (if 0 ≤ x1 then (if (0 : Int32) ≤ 0 then (F_Mod_write_40 fuel x1 (0 : Int32) (s32 (s32 o0 0 0 (0 : Int32)) 33 0 (0 : Int32))) else (some ((0 : Int32), (s32 o0 0 0 (0 : Int32))))) else (if (2 : Int32) ≤ 0 then (F_Mod_write_40 fuel x1 (0 : Int32) (s32 (s32 o0 0 0 (2 : Int32)) 33 0 (0 : Int32))) else (some ((0 : Int32), (s32 o0 0 0 (2 : Int32))))))
abbrev ws_Mod_write : List Cond := Cond.code y_Mod_write b_Mod_write 3 (some .int) :: wsAll
abbrev rm_Mod_write : Room := { frames := 5, cells := 0, slots := 0, locals := 115 }
set_option maxHeartbeats 4000000 in
set_option maxRecDepth 100000 in
theorem k_Mod_write_40 {p : Program} {l : Launch} {e : Env} {s : State} {m : MethodId} {args : Array Value} {below : List Frame} {meth : Method} {c : Code} {A : Nat → Prop} {ct dC : Nat → ClassId} {dI : Nat → Nat → Nat} {a0 : Nat → Nat}  {r : Int32} {n0 : Ob}   (C0 : cx wsAll vwCl nx p s m args meth c (dC, dI) (tyA ct) b_Mod_write 3 (some .int) R_Mod A [adMod a0])  : ∀ (n : Nat) (x1 : Int32) (x2 : Int32) (o0 : Ob) (H : Heap) (locs : List Loc) (ls : Array Slot), bw_P (dC, dI) vwCl [wMod ct a0 o0] H → va_S A s.heap H locs → lv_has ls 3 [(0, .ref (a0 0)), (1, .int x1), (2, .int x2)] → F_Mod_write_40 n x1 x2 o0 = some (r, n0) → W p l e (headSpec ws_Mod_write rm_Mod_write).room s m args below meth c H locs 0 0 (MQ below (bw_Q (dC, dI) vwCl (some (.int r)) [wMod ct a0 n0] A) args s 0 0 A) (F0 m 40 ls []) := by
  obtain ⟨hx, hb, hr, hml, hown, hlocks, hts, hK, hN, hA, hnx⟩ := id C0
  intro n
  induction n with
  | zero =>
    intro x1 x2 o0 H locs ls hP hS hl h
    cases h
  | succ n ih =>
    intro x1 x2 o0 H locs ls hP hS hl h
    rw [F_Mod_write_40] at h
    refine lv_iload_n hx hb d_Mod_write_40 rfl (lv_at hl 2 rfl) ?_
    refine lv_aload_n hx hb d_Mod_write_41 rfl (lv_at hl 0 rfl) ?_
    refine va_get (D := (dC, dI)) (ci := 6) (v := .ref (a0 5)) (C := R_Mod) (T := T_Mod) (N := 36) hx hb hts in_Mod hown hK (hP 0 _ rfl) 0 rfl rfl 8 (by decide) (hts _ fl_Mod_22) (fun _ h9 => h9) rfl d_Mod_write_42 ?_
    refine lv_iconst (v := 0) hx hb d_Mod_write_45 (by decide) ?_
    obtain ⟨hi6, h⟩ := chk_some h
    refine va_iald (f := g32 o0 8) hx hb hK (hP 0 _ rfl) 5 0 rfl rfl (inb_in hi6) d_Mod_write_46 ?_
    refine lv_icmp_ge (tgt := 71) hx hb d_Mod_write_47 (by decide) (fun c7 => ?_) (fun c7 => ?_)
    · have h := ite_t c7 h
      refine lv_iload_n hx hb d_Mod_write_71 rfl (lv_at hl 1 rfl) ?_
      refine lv_aload_n hx hb d_Mod_write_72 rfl (lv_at hl 0 rfl) ?_
      refine va_get (D := (dC, dI)) (ci := 6) (v := .int (g32 o0 33 0)) (C := R_Mod) (T := T_Mod) (N := 36) hx hb hts in_Mod hown hK (hP 0 _ rfl) 0 rfl rfl 33 (by decide) (hts _ fl_Mod_255) (fun _ h9 => h9) rfl d_Mod_write_73 ?_
      refine lv_icmp_ge (tgt := 88) hx hb d_Mod_write_76 (by decide) (fun c8 => ?_) (fun c8 => ?_)
      · have h := ite_t c8 h
        refine lv_iconst (v := -1) hx hb d_Mod_write_88 (by decide) ?_
        obtain ⟨rfl, rfl⟩ := res2 h
        exact W.iret hx hb hr (fun t ht hW => ⟨rfl, by rw [ht]; exact hP, hS.F ht⟩) hS.2.2 d_Mod_write_89
      · have h := ite_f c8 h
        refine lv_aload_n hx hb d_Mod_write_79 rfl (lv_at hl 0 rfl) ?_
        refine va_get (D := (dC, dI)) (ci := 6) (v := .ref (a0 22)) (C := R_Mod) (T := T_Mod) (N := 36) hx hb hts in_Mod hown hK (hP 0 _ rfl) 0 rfl rfl 32 (by decide) (hts _ fl_Mod_75) (fun _ h9 => h9) rfl d_Mod_write_80 ?_
        refine lv_iload_n hx hb d_Mod_write_83 rfl (lv_at hl 1 rfl) ?_
        obtain ⟨hi9, h⟩ := chk_some h
        refine va_iald (f := g32 o0 32) hx hb hK (hP 0 _ rfl) 22 0 rfl rfl (inb_in hi9) d_Mod_write_84 ?_
        refine lv_goto (tgt := 89) hx hb d_Mod_write_85 (by decide) ?_
        obtain ⟨rfl, rfl⟩ := res2 h
        exact W.iret hx hb hr (fun t ht hW => ⟨rfl, by rw [ht]; exact hP, hS.F ht⟩) hS.2.2 d_Mod_write_89
    · have h := ite_f c7 h
      refine lv_iload_n hx hb d_Mod_write_50 rfl (lv_at hl 2 rfl) ?_
      refine lv_if_le (tgt := 60) hx hb d_Mod_write_51 (by decide) (fun c10 => ?_) (fun c10 => ?_)
      · have h := ite_t c10 h
        refine lv_aload_n hx hb d_Mod_write_60 rfl (lv_at hl 0 rfl) ?_
        refine lv_iload_n hx hb d_Mod_write_61 rfl (lv_at hl 2 rfl) ?_
        obtain ⟨o_12, hG11, h⟩ := bind1_some h
        refine bw_call (Lc := [wMod ct a0 o0]) (Lc' := [wMod ct a0 o_12]) (L' := [wMod ct a0 o_12]) [0] (va_runV (As := [.int x2]) (rest := []) ⟨hx, hb, hml, hown, hts⟩ (c_Mod_printStatement l ct dC dI a0 _ x2 o0 o_12 hG11) (cwV 1 hts g_Mod_283 rfl rfl rfl (by decide +kernel) ⟨Nat.le_of_ble_eq_true rfl, Nat.le_of_ble_eq_true rfl⟩) ⟨bw_blind nx_call, va_recv hK (hP 0 _ rfl) (ci := 6) (q0 := 0) rfl rfl, fun U hU hW => ⟨rfl, by rw [hU], by rw [hU]; exact hP.sub [0] rfl, va_K.moved hW.alike hK, (hN.sub [0] (by decide) rfl).weaken (fun _ _ => trivial), nx_warm hW hnx⟩⟩ rfl rfl hl.1 rfl (Nat.le_of_ble_eq_true rfl) d_Mod_write_62 ⟨Nat.le_of_ble_eq_true rfl, Nat.le_of_ble_eq_true rfl⟩) hP hN hS hA rfl rfl rfl (fun H locs hP hS => ?_)
        refine lv_iinc (v := (x2 + (1 : Int32))) (lv' := [(2, .int (x2 + (1 : Int32))), (0, .ref (a0 0)), (1, .int x1)]) hx hb d_Mod_write_65 hl (k := 2) rfl rfl (by decide) rfl (fun ls hl => ?_)
        refine lv_goto (tgt := 40) hx hb d_Mod_write_68 (by decide) ?_
        exact ih x1 (x2 + (1 : Int32)) o_12 _ _ _ hP hS (lv_sub hl [1, 2, 0] rfl) h
      · have h := ite_f c10 h
        refine lv_aload_n hx hb d_Mod_write_54 rfl (lv_at hl 0 rfl) ?_
        refine lv_bipush (v := 59) hx hb d_Mod_write_55 (by decide) ?_
        obtain ⟨o_14, hG13, h⟩ := bind1_some h
        refine bw_call (Lc := [wMod ct a0 o0]) (Lc' := [wMod ct a0 o_14]) (L' := [wMod ct a0 o_14]) [0] (va_runV (As := [.int (59 : Int32)]) (rest := []) ⟨hx, hb, hml, hown, hts⟩ (c_Mod_add l ct dC dI a0 _ (59 : Int32) o0 o_14 hG13) (cwV 1 hts g_Mod_258 rfl rfl rfl (by decide +kernel) ⟨Nat.le_of_ble_eq_true rfl, Nat.le_of_ble_eq_true rfl⟩) ⟨bw_blind nx_call, va_recv hK (hP 0 _ rfl) (ci := 6) (q0 := 0) rfl rfl, fun U hU hW => ⟨rfl, by rw [hU], by rw [hU]; exact hP.sub [0] rfl, va_K.moved hW.alike hK, (hN.sub [0] (by decide) rfl).weaken (fun _ _ => trivial), nx_warm hW hnx⟩⟩ rfl rfl hl.1 rfl (Nat.le_of_ble_eq_true rfl) d_Mod_write_57 ⟨Nat.le_of_ble_eq_true rfl, Nat.le_of_ble_eq_true rfl⟩) hP hN hS hA rfl rfl rfl (fun H locs hP hS => ?_)
        refine lv_aload_n hx hb d_Mod_write_60 rfl (lv_at hl 0 rfl) ?_
        refine lv_iload_n hx hb d_Mod_write_61 rfl (lv_at hl 2 rfl) ?_
        obtain ⟨o_16, hG15, h⟩ := bind1_some h
        refine bw_call (Lc := [wMod ct a0 o_14]) (Lc' := [wMod ct a0 o_16]) (L' := [wMod ct a0 o_16]) [0] (va_runV (As := [.int x2]) (rest := []) ⟨hx, hb, hml, hown, hts⟩ (c_Mod_printStatement l ct dC dI a0 _ x2 o_14 o_16 hG15) (cwV 1 hts g_Mod_283 rfl rfl rfl (by decide +kernel) ⟨Nat.le_of_ble_eq_true rfl, Nat.le_of_ble_eq_true rfl⟩) ⟨bw_blind nx_call, va_recv hK (hP 0 _ rfl) (ci := 6) (q0 := 0) rfl rfl, fun U hU hW => ⟨rfl, by rw [hU], by rw [hU]; exact hP.sub [0] rfl, va_K.moved hW.alike hK, (hN.sub [0] (by decide) rfl).weaken (fun _ _ => trivial), nx_warm hW hnx⟩⟩ rfl rfl hl.1 rfl (Nat.le_of_ble_eq_true rfl) d_Mod_write_62 ⟨Nat.le_of_ble_eq_true rfl, Nat.le_of_ble_eq_true rfl⟩) hP hN hS hA rfl rfl rfl (fun H locs hP hS => ?_)
        refine lv_iinc (v := (x2 + (1 : Int32))) (lv' := [(2, .int (x2 + (1 : Int32))), (0, .ref (a0 0)), (1, .int x1)]) hx hb d_Mod_write_65 hl (k := 2) rfl rfl (by decide) rfl (fun ls hl => ?_)
        refine lv_goto (tgt := 40) hx hb d_Mod_write_68 (by decide) ?_
        exact ih x1 (x2 + (1 : Int32)) o_16 _ _ _ hP hS (lv_sub hl [1, 2, 0] rfl) h
set_option maxHeartbeats 4000000 in
set_option maxRecDepth 100000 in
theorem c_Mod_write (l : Launch) (ct dC : Nat → ClassId) (dI : Nat → Nat → Nat) (a0 : Nat → Nat)  (sz : Nat) (x1 : Int32) (o0 : Ob) (r : Int32) (n0 : Ob) (hF : F_Mod_write x1 o0 = some (r, n0)) : Met l y_Mod_write ws_Mod_write rm_Mod_write (bw_Pc [.ref (a0 0), .int x1] (dC, dI) vwCl (tyA ct) [wMod ct a0 o0] sz nx) (bw_Q (dC, dI) vwCl (some (.int r)) [wMod ct a0 n0] (bw_A [adMod a0] sz)) 0 0 (bw_A [adMod a0] sz) := by
  refine Met.ofW (cc := b_Mod_write) (maxL := 3) (ret := (some .int)) (by decide) rfl ?_
  intro p e s m args below meth c s₁ B hml hv
  obtain ⟨rfl, hsz, hP, hK, hN0, hnx⟩ := hv
  have hx := B.exec
  have hb := B.bytes
  have hr := B.returns
  have hts : ∀ w ∈ wsAll, w.before [.ref (a0 0), .int x1].toArray s = true := fun w h9 => atoms_spec (ws := ws_Mod_write) B.pre w (List.mem_cons_of_mem _ h9)
  have hown : s.vm.findClass R_Mod = some m.cls := findClass_of_methodNamed B.named
  have hlocks := B.notSynchronized
  subst hsz
  have hN : bw_N (bw_A [adMod a0] s.heap.size) [adMod a0] := hN0.self s.heap.size
  generalize hAe : bw_A [adMod a0] s.heap.size = A at hN ⊢
  have hA : ∀ q : Nat, s.heap.size ≤ q → A q := fun q h => by rw [← hAe]; exact Or.inr h
  have hS : va_S A s.heap s.heap [] := va_S.rf
  have hl := lv_entry ([.ref (a0 0), .int x1]) (n := 3) (Nat.le_of_ble_eq_true rfl)
  rw [lg_entry_eq]
  generalize (lg_sl ([.ref (a0 0), .int x1]) ++ List.replicate (3 - (lg_sl ([.ref (a0 0), .int x1])).length) Slot.unset).toArray = ls at hl ⊢
  have hl : lv_has ls 3 [(0, .ref (a0 0)), (1, .int x1)] := hl
  have C0 : cx wsAll vwCl nx p s m [.ref (a0 0), .int x1].toArray meth c (dC, dI) (tyA ct) b_Mod_write 3 (some .int) R_Mod A [adMod a0] := ⟨hx, hb, hr, hml, hown, hlocks, hts, hK, hN, hA, hnx⟩
  have h := hF
  rw [F_Mod_write] at h
  refine lv_aload_n hx hb d_Mod_write_0 rfl (lv_at hl 0 rfl) ?_
  refine lv_aload_n hx hb d_Mod_write_1 rfl (lv_at hl 0 rfl) ?_
  refine va_get (D := (dC, dI)) (ci := 6) (v := .int (g32 o0 11 0)) (C := R_Mod) (T := T_Mod) (N := 36) hx hb hts in_Mod hown hK (hP 0 _ rfl) 0 rfl rfl 11 (by decide) (hts _ fl_Mod_166) (fun _ h9 => h9) rfl d_Mod_write_2 ?_
  refine lv_if_ne (tgt := 12) hx hb d_Mod_write_5 (by decide) (fun c1 => ?_) (fun c1 => ?_)
  · have h := ite_f c1 h
    refine lv_iload_n hx hb d_Mod_write_12 rfl (lv_at hl 1 rfl) ?_
    refine lv_if_ge (tgt := 20) hx hb d_Mod_write_13 (by decide) (fun c2 => ?_) (fun c2 => ?_)
    · have h := ite_t c2 h
      refine lv_iconst (v := 0) hx hb d_Mod_write_20 (by decide) ?_
      refine pt_Mod_0 hx hb hts hown hK hP hN hS 0 rfl (hts _ fl_Mod_84) d_Mod_write_21 (fun H locs hP hS => ?_)
      have hP : bw_P (dC, dI) vwCl [wMod ct a0 (s32 o0 0 0 (0 : Int32))] H := hP
      refine lv_aload_n hx hb d_Mod_write_24 rfl (lv_at hl 0 rfl) ?_
      refine va_get (D := (dC, dI)) (ci := 6) (v := .int (0 : Int32)) (C := R_Mod) (T := T_Mod) (N := 36) hx hb hts in_Mod hown hK (hP 0 _ rfl) 0 rfl rfl 0 (by decide) (hts _ fl_Mod_84) (fun _ h9 => h9) rfl d_Mod_write_25 ?_
      refine lv_if_le (tgt := 33) hx hb d_Mod_write_28 (by decide) (fun c3 => ?_) (fun c3 => ?_)
      · have h := ite_t c3 h
        refine lv_aload_n hx hb d_Mod_write_33 rfl (lv_at hl 0 rfl) ?_
        refine lv_iconst (v := 0) hx hb d_Mod_write_34 (by decide) ?_
        refine pt_Mod_33 hx hb hts hown hK hP hN hS 0 rfl (hts _ fl_Mod_255) d_Mod_write_35 (fun H locs hP hS => ?_)
        have hP : bw_P (dC, dI) vwCl [wMod ct a0 (s32 (s32 o0 0 0 (0 : Int32)) 33 0 (0 : Int32))] H := hP
        refine lv_iconst (v := 0) hx hb d_Mod_write_38 (by decide) ?_
        refine lv_istore_n (lv' := [(2, .int (0 : Int32)), (0, .ref (a0 0)), (1, .int x1)]) hx hb d_Mod_write_39 rfl hl (by decide) rfl (fun ls hl => ?_)
        exact k_Mod_write_40 C0 fuel x1 (0 : Int32) (s32 (s32 o0 0 0 (0 : Int32)) 33 0 (0 : Int32)) _ _ _ hP hS (lv_sub hl [1, 2, 0] rfl) h
      · have h := ite_f c3 h
        refine lv_iconst (v := 0) hx hb d_Mod_write_31 (by decide) ?_
        obtain ⟨rfl, rfl⟩ := res2 h
        exact W.iret hx hb hr (fun t ht hW => ⟨rfl, by rw [ht]; exact hP, hS.F ht⟩) hS.2.2 d_Mod_write_32
    · have h := ite_f c2 h
      refine lv_iconst (v := 2) hx hb d_Mod_write_16 (by decide) ?_
      refine lv_goto (tgt := 21) hx hb d_Mod_write_17 (by decide) ?_
      refine pt_Mod_0 hx hb hts hown hK hP hN hS 0 rfl (hts _ fl_Mod_84) d_Mod_write_21 (fun H locs hP hS => ?_)
      have hP : bw_P (dC, dI) vwCl [wMod ct a0 (s32 o0 0 0 (2 : Int32))] H := hP
      refine lv_aload_n hx hb d_Mod_write_24 rfl (lv_at hl 0 rfl) ?_
      refine va_get (D := (dC, dI)) (ci := 6) (v := .int (2 : Int32)) (C := R_Mod) (T := T_Mod) (N := 36) hx hb hts in_Mod hown hK (hP 0 _ rfl) 0 rfl rfl 0 (by decide) (hts _ fl_Mod_84) (fun _ h9 => h9) rfl d_Mod_write_25 ?_
      refine lv_if_le (tgt := 33) hx hb d_Mod_write_28 (by decide) (fun c4 => ?_) (fun c4 => ?_)
      · have h := ite_t c4 h
        refine lv_aload_n hx hb d_Mod_write_33 rfl (lv_at hl 0 rfl) ?_
        refine lv_iconst (v := 0) hx hb d_Mod_write_34 (by decide) ?_
        refine pt_Mod_33 hx hb hts hown hK hP hN hS 0 rfl (hts _ fl_Mod_255) d_Mod_write_35 (fun H locs hP hS => ?_)
        have hP : bw_P (dC, dI) vwCl [wMod ct a0 (s32 (s32 o0 0 0 (2 : Int32)) 33 0 (0 : Int32))] H := hP
        refine lv_iconst (v := 0) hx hb d_Mod_write_38 (by decide) ?_
        refine lv_istore_n (lv' := [(2, .int (0 : Int32)), (0, .ref (a0 0)), (1, .int x1)]) hx hb d_Mod_write_39 rfl hl (by decide) rfl (fun ls hl => ?_)
        exact k_Mod_write_40 C0 fuel x1 (0 : Int32) (s32 (s32 o0 0 0 (2 : Int32)) 33 0 (0 : Int32)) _ _ _ hP hS (lv_sub hl [1, 2, 0] rfl) h
      · have h := ite_f c4 h
        refine lv_iconst (v := 0) hx hb d_Mod_write_31 (by decide) ?_
        obtain ⟨rfl, rfl⟩ := res2 h
        exact W.iret hx hb hr (fun t ht hW => ⟨rfl, by rw [ht]; exact hP, hS.F ht⟩) hS.2.2 d_Mod_write_32
  · have h := ite_t c1 h
    refine lv_iconst (v := 1) hx hb d_Mod_write_8 (by decide) ?_
    refine lv_goto (tgt := 21) hx hb d_Mod_write_9 (by decide) ?_
    refine pt_Mod_0 hx hb hts hown hK hP hN hS 0 rfl (hts _ fl_Mod_84) d_Mod_write_21 (fun H locs hP hS => ?_)
    have hP : bw_P (dC, dI) vwCl [wMod ct a0 (s32 o0 0 0 (1 : Int32))] H := hP
    refine lv_aload_n hx hb d_Mod_write_24 rfl (lv_at hl 0 rfl) ?_
    refine va_get (D := (dC, dI)) (ci := 6) (v := .int (1 : Int32)) (C := R_Mod) (T := T_Mod) (N := 36) hx hb hts in_Mod hown hK (hP 0 _ rfl) 0 rfl rfl 0 (by decide) (hts _ fl_Mod_84) (fun _ h9 => h9) rfl d_Mod_write_25 ?_
    refine lv_if_le (tgt := 33) hx hb d_Mod_write_28 (by decide) (fun c5 => ?_) (fun c5 => ?_)
    · have h := ite_t c5 h
      refine lv_aload_n hx hb d_Mod_write_33 rfl (lv_at hl 0 rfl) ?_
      refine lv_iconst (v := 0) hx hb d_Mod_write_34 (by decide) ?_
      refine pt_Mod_33 hx hb hts hown hK hP hN hS 0 rfl (hts _ fl_Mod_255) d_Mod_write_35 (fun H locs hP hS => ?_)
      have hP : bw_P (dC, dI) vwCl [wMod ct a0 (s32 (s32 o0 0 0 (1 : Int32)) 33 0 (0 : Int32))] H := hP
      refine lv_iconst (v := 0) hx hb d_Mod_write_38 (by decide) ?_
      refine lv_istore_n (lv' := [(2, .int (0 : Int32)), (0, .ref (a0 0)), (1, .int x1)]) hx hb d_Mod_write_39 rfl hl (by decide) rfl (fun ls hl => ?_)
      exact k_Mod_write_40 C0 fuel x1 (0 : Int32) (s32 (s32 o0 0 0 (1 : Int32)) 33 0 (0 : Int32)) _ _ _ hP hS (lv_sub hl [1, 2, 0] rfl) h
    · have h := ite_f c5 h
      refine lv_iconst (v := 0) hx hb d_Mod_write_31 (by decide) ?_
      obtain ⟨rfl, rfl⟩ := res2 h
      exact W.iret hx hb hr (fun t ht hW => ⟨rfl, by rw [ht]; exact hP, hS.F ht⟩) hS.2.2 d_Mod_write_32
