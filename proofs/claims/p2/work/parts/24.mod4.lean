/-! 24.mod4 -/
abbrev b_Mod_anyBroken : ByteArray := prog_8_method_51_code
def y_Mod_anyBroken : MethodName := ⟨R_Mod, "anyBroken", "()I"⟩
abbrev b_Mod_limit : ByteArray := prog_8_method_52_code
def y_Mod_limit : MethodName := ⟨R_Mod, "limit", "(II)I"⟩
abbrev b_Mod_check : ByteArray := prog_8_method_53_code
def y_Mod_check : MethodName := ⟨R_Mod, "check", "(I)I"⟩
abbrev b_Mod_version : ByteArray := prog_8_method_54_code
def y_Mod_version : MethodName := ⟨R_Mod, "version", "()I"⟩
abbrev b_Mod_differs : ByteArray := prog_8_method_55_code
def y_Mod_differs : MethodName := ⟨R_Mod, "differs", "(II)I"⟩
abbrev b_Mod_same : ByteArray := prog_8_method_56_code
def y_Mod_same : MethodName := ⟨R_Mod, "same", "()Z"⟩
abbrev b_Mod_reckoned : ByteArray := prog_8_method_57_code
def y_Mod_reckoned : MethodName := ⟨R_Mod, "reckoned", "()J"⟩
abbrev b_Mod_insert : ByteArray := prog_8_method_58_code
def y_Mod_insert : MethodName := ⟨R_Mod, "insert", "(II)V"⟩
abbrev b_Mod_add : ByteArray := prog_8_method_59_code
def y_Mod_add : MethodName := ⟨R_Mod, "add", "(I)V"⟩
abbrev b_Mod_addWhole : ByteArray := prog_8_method_60_code
def y_Mod_addWhole : MethodName := ⟨R_Mod, "addWhole", "(I)V"⟩
abbrev b_Mod_addNumber : ByteArray := prog_8_method_61_code
def y_Mod_addNumber : MethodName := ⟨R_Mod, "addNumber", "(I)V"⟩
abbrev b_Mod_letterOf : ByteArray := prog_8_method_62_code
def y_Mod_letterOf : MethodName := ⟨R_Mod, "letterOf", "(I)I"⟩
theorem cd_Mod_broken : Cond.code ⟨"PartFormulasModel", "broken", "(I)I"⟩ prog_8_method_50_code 3 (some .int) ∈ wsAll := wa_of 1214 (by decide +kernel) (by decide +kernel)
theorem ml_Mod_242 : Cond.methodLink "PartFormulasModel" 242 ⟨"PartFormulasModel", "broken", "(I)I"⟩ ∈ wsAll := wa_of 1211 (by decide +kernel) (by decide +kernel)
theorem im_Mod_broken : Cond.instanceMethod ⟨"PartFormulasModel", "broken", "(I)I"⟩ ∈ wsAll := wa_of 1213 (by decide +kernel) (by decide +kernel)
theorem se_Mod_broken : Cond.selects "PartFormulasModel" ⟨"PartFormulasModel", "broken", "(I)I"⟩ ⟨"PartFormulasModel", "broken", "(I)I"⟩ ∈ wsAll := wa_of 62 (by decide +kernel) (by decide +kernel)
theorem cd_Mod_anyBroken : Cond.code ⟨"PartFormulasModel", "anyBroken", "()I"⟩ prog_8_method_51_code 3 (some .int) ∈ wsAll := wa_of 1222 (by decide +kernel) (by decide +kernel)
theorem ml_Mod_245 : Cond.methodLink "PartFormulasModel" 245 ⟨"PartFormulasModel", "anyBroken", "()I"⟩ ∈ wsAll := wa_of 1219 (by decide +kernel) (by decide +kernel)
theorem im_Mod_anyBroken : Cond.instanceMethod ⟨"PartFormulasModel", "anyBroken", "()I"⟩ ∈ wsAll := wa_of 1221 (by decide +kernel) (by decide +kernel)
theorem se_Mod_anyBroken : Cond.selects "PartFormulasModel" ⟨"PartFormulasModel", "anyBroken", "()I"⟩ ⟨"PartFormulasModel", "anyBroken", "()I"⟩ ∈ wsAll := wa_of 63 (by decide +kernel) (by decide +kernel)
theorem fl_Mod_248 : Cond.fieldLink "PartFormulasModel" 248 "PartFormulasModel" "versions" "I" ∈ wsAll := wa_of 939 (by decide +kernel) (by decide +kernel)
theorem fl_Mod_60 : Cond.fieldLink "PartFormulasModel" 60 "PartFormulasModel" "versionStates" "[I" ∈ wsAll := wa_of 940 (by decide +kernel) (by decide +kernel)
theorem fl_Mod_63 : Cond.fieldLink "PartFormulasModel" 63 "PartFormulasModel" "versionAbove" "[J" ∈ wsAll := wa_of 941 (by decide +kernel) (by decide +kernel)
theorem fl_Mod_66 : Cond.fieldLink "PartFormulasModel" 66 "PartFormulasModel" "versionBelow" "[J" ∈ wsAll := wa_of 942 (by decide +kernel) (by decide +kernel)
theorem cd_Mod_noWork : Cond.code ⟨"PartFormulasModel", "noWork", "()Z"⟩ prog_8_method_42_code 1 (some .boolean) ∈ wsAll := wa_of 1238 (by decide +kernel) (by decide +kernel)
theorem ml_Mod_251 : Cond.methodLink "PartFormulasModel" 251 ⟨"PartFormulasModel", "noWork", "()Z"⟩ ∈ wsAll := wa_of 1235 (by decide +kernel) (by decide +kernel)
theorem im_Mod_noWork : Cond.instanceMethod ⟨"PartFormulasModel", "noWork", "()Z"⟩ ∈ wsAll := wa_of 1237 (by decide +kernel) (by decide +kernel)
theorem se_Mod_noWork : Cond.selects "PartFormulasModel" ⟨"PartFormulasModel", "noWork", "()Z"⟩ ⟨"PartFormulasModel", "noWork", "()Z"⟩ ∈ wsAll := wa_of 64 (by decide +kernel) (by decide +kernel)
theorem fl_Mod_255 : Cond.fieldLink "PartFormulasModel" 255 "PartFormulasModel" "printed" "I" ∈ wsAll := wa_of 948 (by decide +kernel) (by decide +kernel)
theorem fl_Mod_75 : Cond.fieldLink "PartFormulasModel" 75 "PartFormulasModel" "text" "[I" ∈ wsAll := wa_of 947 (by decide +kernel) (by decide +kernel)
theorem cd_Mod_add : Cond.code ⟨"PartFormulasModel", "add", "(I)V"⟩ prog_8_method_59_code 2 (none : Option Jvm.ClassFile.FieldType) ∈ wsAll := wa_of 1250 (by decide +kernel) (by decide +kernel)
theorem ml_Mod_258 : Cond.methodLink "PartFormulasModel" 258 ⟨"PartFormulasModel", "add", "(I)V"⟩ ∈ wsAll := wa_of 1247 (by decide +kernel) (by decide +kernel)
theorem im_Mod_add : Cond.instanceMethod ⟨"PartFormulasModel", "add", "(I)V"⟩ ∈ wsAll := wa_of 1249 (by decide +kernel) (by decide +kernel)
theorem se_Mod_add : Cond.selects "PartFormulasModel" ⟨"PartFormulasModel", "add", "(I)V"⟩ ⟨"PartFormulasModel", "add", "(I)V"⟩ ∈ wsAll := wa_of 65 (by decide +kernel) (by decide +kernel)
theorem cd_Mod_addWhole : Cond.code ⟨"PartFormulasModel", "addWhole", "(I)V"⟩ prog_8_method_60_code 4 (none : Option Jvm.ClassFile.FieldType) ∈ wsAll := wa_of 1273 (by decide +kernel) (by decide +kernel)
theorem ml_Mod_261 : Cond.methodLink "PartFormulasModel" 261 ⟨"PartFormulasModel", "addWhole", "(I)V"⟩ ∈ wsAll := wa_of 1270 (by decide +kernel) (by decide +kernel)
theorem im_Mod_addWhole : Cond.instanceMethod ⟨"PartFormulasModel", "addWhole", "(I)V"⟩ ∈ wsAll := wa_of 1272 (by decide +kernel) (by decide +kernel)
theorem se_Mod_addWhole : Cond.selects "PartFormulasModel" ⟨"PartFormulasModel", "addWhole", "(I)V"⟩ ⟨"PartFormulasModel", "addWhole", "(I)V"⟩ ∈ wsAll := wa_of 70 (by decide +kernel) (by decide +kernel)
theorem d_Mod_add_0 : decode b_Mod_add 0 = .ok (.aload_n 0, 1) := by decide +kernel
theorem d_Mod_add_1 : decode b_Mod_add 1 = .ok (.getfield 75, 3) := by decide +kernel
theorem d_Mod_add_4 : decode b_Mod_add 4 = .ok (.aload_n 0, 1) := by decide +kernel
theorem d_Mod_add_5 : decode b_Mod_add 5 = .ok (.getfield 255, 3) := by decide +kernel
theorem d_Mod_add_8 : decode b_Mod_add 8 = .ok (.iload_n 1, 1) := by decide +kernel
theorem d_Mod_add_9 : decode b_Mod_add 9 = .ok (.iastore, 1) := by decide +kernel
theorem d_Mod_add_10 : decode b_Mod_add 10 = .ok (.aload_n 0, 1) := by decide +kernel
theorem d_Mod_add_11 : decode b_Mod_add 11 = .ok (.dup, 1) := by decide +kernel
theorem d_Mod_add_12 : decode b_Mod_add 12 = .ok (.getfield 255, 3) := by decide +kernel
theorem d_Mod_add_15 : decode b_Mod_add 15 = .ok (.iconst 1, 1) := by decide +kernel
theorem d_Mod_add_16 : decode b_Mod_add 16 = .ok (.iadd, 1) := by decide +kernel
theorem d_Mod_add_17 : decode b_Mod_add 17 = .ok (.putfield 255, 3) := by decide +kernel
theorem d_Mod_add_20 : decode b_Mod_add 20 = .ok (.return_, 1) := by decide +kernel
theorem d_Mod_addNumber_0 : decode b_Mod_addNumber 0 = .ok (.aload_n 0, 1) := by decide +kernel
theorem d_Mod_addNumber_1 : decode b_Mod_addNumber 1 = .ok (.iload_n 1, 1) := by decide +kernel
theorem d_Mod_addNumber_2 : decode b_Mod_addNumber 2 = .ok (.sipush 1000, 3) := by decide +kernel
theorem d_Mod_addNumber_5 : decode b_Mod_addNumber 5 = .ok (.idiv, 1) := by decide +kernel
theorem d_Mod_addNumber_6 : decode b_Mod_addNumber 6 = .ok (.invokevirtual 261, 3) := by decide +kernel
theorem d_Mod_addNumber_9 : decode b_Mod_addNumber 9 = .ok (.iload_n 1, 1) := by decide +kernel
theorem d_Mod_addNumber_10 : decode b_Mod_addNumber 10 = .ok (.sipush 1000, 3) := by decide +kernel
theorem d_Mod_addNumber_13 : decode b_Mod_addNumber 13 = .ok (.irem, 1) := by decide +kernel
theorem d_Mod_addNumber_14 : decode b_Mod_addNumber 14 = .ok (.istore_n 2, 1) := by decide +kernel
theorem d_Mod_addNumber_15 : decode b_Mod_addNumber 15 = .ok (.iload_n 2, 1) := by decide +kernel
theorem d_Mod_addNumber_16 : decode b_Mod_addNumber 16 = .ok (.ifCond .le 9, 3) := by decide +kernel
theorem d_Mod_addNumber_19 : decode b_Mod_addNumber 19 = .ok (.aload_n 0, 1) := by decide +kernel
theorem d_Mod_addNumber_20 : decode b_Mod_addNumber 20 = .ok (.bipush 46, 2) := by decide +kernel
theorem d_Mod_addNumber_22 : decode b_Mod_addNumber 22 = .ok (.invokevirtual 258, 3) := by decide +kernel
theorem d_Mod_addNumber_25 : decode b_Mod_addNumber 25 = .ok (.bipush 100, 2) := by decide +kernel
theorem d_Mod_addNumber_27 : decode b_Mod_addNumber 27 = .ok (.istore_n 3, 1) := by decide +kernel
theorem d_Mod_addNumber_28 : decode b_Mod_addNumber 28 = .ok (.iload_n 2, 1) := by decide +kernel
theorem d_Mod_addNumber_29 : decode b_Mod_addNumber 29 = .ok (.ifCond .le 25, 3) := by decide +kernel
theorem d_Mod_addNumber_32 : decode b_Mod_addNumber 32 = .ok (.aload_n 0, 1) := by decide +kernel
theorem d_Mod_addNumber_33 : decode b_Mod_addNumber 33 = .ok (.bipush 48, 2) := by decide +kernel
theorem d_Mod_addNumber_35 : decode b_Mod_addNumber 35 = .ok (.iload_n 2, 1) := by decide +kernel
theorem d_Mod_addNumber_36 : decode b_Mod_addNumber 36 = .ok (.iload_n 3, 1) := by decide +kernel
theorem d_Mod_addNumber_37 : decode b_Mod_addNumber 37 = .ok (.idiv, 1) := by decide +kernel
theorem d_Mod_addNumber_38 : decode b_Mod_addNumber 38 = .ok (.iadd, 1) := by decide +kernel
theorem d_Mod_addNumber_39 : decode b_Mod_addNumber 39 = .ok (.invokevirtual 258, 3) := by decide +kernel
theorem d_Mod_addNumber_42 : decode b_Mod_addNumber 42 = .ok (.iload_n 2, 1) := by decide +kernel
theorem d_Mod_addNumber_43 : decode b_Mod_addNumber 43 = .ok (.iload_n 3, 1) := by decide +kernel
theorem d_Mod_addNumber_44 : decode b_Mod_addNumber 44 = .ok (.irem, 1) := by decide +kernel
theorem d_Mod_addNumber_45 : decode b_Mod_addNumber 45 = .ok (.istore_n 2, 1) := by decide +kernel
theorem d_Mod_addNumber_46 : decode b_Mod_addNumber 46 = .ok (.iload_n 3, 1) := by decide +kernel
theorem d_Mod_addNumber_47 : decode b_Mod_addNumber 47 = .ok (.bipush 10, 2) := by decide +kernel
theorem d_Mod_addNumber_49 : decode b_Mod_addNumber 49 = .ok (.idiv, 1) := by decide +kernel
theorem d_Mod_addNumber_50 : decode b_Mod_addNumber 50 = .ok (.istore_n 3, 1) := by decide +kernel
theorem d_Mod_addNumber_51 : decode b_Mod_addNumber 51 = .ok (.goto (-23), 3) := by decide +kernel
theorem d_Mod_addNumber_54 : decode b_Mod_addNumber 54 = .ok (.return_, 1) := by decide +kernel
theorem d_Mod_addWhole_0 : decode b_Mod_addWhole 0 = .ok (.iconst 1, 1) := by decide +kernel
theorem d_Mod_addWhole_1 : decode b_Mod_addWhole 1 = .ok (.istore_n 2, 1) := by decide +kernel
theorem d_Mod_addWhole_2 : decode b_Mod_addWhole 2 = .ok (.iload_n 1, 1) := by decide +kernel
theorem d_Mod_addWhole_3 : decode b_Mod_addWhole 3 = .ok (.iload_n 2, 1) := by decide +kernel
theorem d_Mod_addWhole_4 : decode b_Mod_addWhole 4 = .ok (.idiv, 1) := by decide +kernel
theorem d_Mod_addWhole_5 : decode b_Mod_addWhole 5 = .ok (.bipush 9, 2) := by decide +kernel
theorem d_Mod_addWhole_7 : decode b_Mod_addWhole 7 = .ok (.if_icmp .le 11, 3) := by decide +kernel
theorem d_Mod_addWhole_10 : decode b_Mod_addWhole 10 = .ok (.bipush 10, 2) := by decide +kernel
theorem d_Mod_addWhole_12 : decode b_Mod_addWhole 12 = .ok (.iload_n 2, 1) := by decide +kernel
theorem d_Mod_addWhole_13 : decode b_Mod_addWhole 13 = .ok (.imul, 1) := by decide +kernel
theorem d_Mod_addWhole_14 : decode b_Mod_addWhole 14 = .ok (.istore_n 2, 1) := by decide +kernel
theorem d_Mod_addWhole_15 : decode b_Mod_addWhole 15 = .ok (.goto (-13), 3) := by decide +kernel
theorem d_Mod_addWhole_18 : decode b_Mod_addWhole 18 = .ok (.iload_n 2, 1) := by decide +kernel
theorem d_Mod_addWhole_19 : decode b_Mod_addWhole 19 = .ok (.istore_n 3, 1) := by decide +kernel
theorem d_Mod_addWhole_20 : decode b_Mod_addWhole 20 = .ok (.iload_n 3, 1) := by decide +kernel
theorem d_Mod_addWhole_21 : decode b_Mod_addWhole 21 = .ok (.ifCond .le 24, 3) := by decide +kernel
theorem d_Mod_addWhole_24 : decode b_Mod_addWhole 24 = .ok (.aload_n 0, 1) := by decide +kernel
theorem d_Mod_addWhole_25 : decode b_Mod_addWhole 25 = .ok (.bipush 48, 2) := by decide +kernel
theorem d_Mod_addWhole_27 : decode b_Mod_addWhole 27 = .ok (.iload_n 1, 1) := by decide +kernel
theorem d_Mod_addWhole_28 : decode b_Mod_addWhole 28 = .ok (.iload_n 3, 1) := by decide +kernel
theorem d_Mod_addWhole_29 : decode b_Mod_addWhole 29 = .ok (.idiv, 1) := by decide +kernel
theorem d_Mod_addWhole_30 : decode b_Mod_addWhole 30 = .ok (.bipush 10, 2) := by decide +kernel
theorem d_Mod_addWhole_32 : decode b_Mod_addWhole 32 = .ok (.irem, 1) := by decide +kernel
theorem d_Mod_addWhole_33 : decode b_Mod_addWhole 33 = .ok (.iadd, 1) := by decide +kernel
theorem d_Mod_addWhole_34 : decode b_Mod_addWhole 34 = .ok (.invokevirtual 258, 3) := by decide +kernel
theorem d_Mod_addWhole_37 : decode b_Mod_addWhole 37 = .ok (.iload_n 3, 1) := by decide +kernel
theorem d_Mod_addWhole_38 : decode b_Mod_addWhole 38 = .ok (.bipush 10, 2) := by decide +kernel
theorem d_Mod_addWhole_40 : decode b_Mod_addWhole 40 = .ok (.idiv, 1) := by decide +kernel
theorem d_Mod_addWhole_41 : decode b_Mod_addWhole 41 = .ok (.istore_n 3, 1) := by decide +kernel
theorem d_Mod_addWhole_42 : decode b_Mod_addWhole 42 = .ok (.goto (-22), 3) := by decide +kernel
theorem d_Mod_addWhole_45 : decode b_Mod_addWhole 45 = .ok (.return_, 1) := by decide +kernel
theorem d_Mod_anyBroken_0 : decode b_Mod_anyBroken 0 = .ok (.iconst 0, 1) := by decide +kernel
theorem d_Mod_anyBroken_1 : decode b_Mod_anyBroken 1 = .ok (.istore_n 1, 1) := by decide +kernel
theorem d_Mod_anyBroken_2 : decode b_Mod_anyBroken 2 = .ok (.iconst 0, 1) := by decide +kernel
theorem d_Mod_anyBroken_3 : decode b_Mod_anyBroken 3 = .ok (.istore_n 2, 1) := by decide +kernel
theorem d_Mod_anyBroken_4 : decode b_Mod_anyBroken 4 = .ok (.iload_n 2, 1) := by decide +kernel
theorem d_Mod_anyBroken_5 : decode b_Mod_anyBroken 5 = .ok (.aload_n 0, 1) := by decide +kernel
theorem d_Mod_anyBroken_6 : decode b_Mod_anyBroken 6 = .ok (.getfield 22, 3) := by decide +kernel
theorem d_Mod_anyBroken_9 : decode b_Mod_anyBroken 9 = .ok (.iconst 0, 1) := by decide +kernel
theorem d_Mod_anyBroken_10 : decode b_Mod_anyBroken 10 = .ok (.iaload, 1) := by decide +kernel
theorem d_Mod_anyBroken_11 : decode b_Mod_anyBroken 11 = .ok (.if_icmp .ge 34, 3) := by decide +kernel
theorem d_Mod_anyBroken_14 : decode b_Mod_anyBroken 14 = .ok (.aload_n 0, 1) := by decide +kernel
theorem d_Mod_anyBroken_15 : decode b_Mod_anyBroken 15 = .ok (.getfield 28, 3) := by decide +kernel
theorem d_Mod_anyBroken_18 : decode b_Mod_anyBroken 18 = .ok (.iload_n 2, 1) := by decide +kernel
theorem d_Mod_anyBroken_19 : decode b_Mod_anyBroken 19 = .ok (.iaload, 1) := by decide +kernel
theorem d_Mod_anyBroken_20 : decode b_Mod_anyBroken 20 = .ok (.ifCond .ge 17, 3) := by decide +kernel
theorem d_Mod_anyBroken_23 : decode b_Mod_anyBroken 23 = .ok (.aload_n 0, 1) := by decide +kernel
theorem d_Mod_anyBroken_24 : decode b_Mod_anyBroken 24 = .ok (.iload_n 2, 1) := by decide +kernel
theorem d_Mod_anyBroken_25 : decode b_Mod_anyBroken 25 = .ok (.invokevirtual 242, 3) := by decide +kernel
theorem d_Mod_anyBroken_28 : decode b_Mod_anyBroken 28 = .ok (.ifCond .le 9, 3) := by decide +kernel
theorem d_Mod_anyBroken_31 : decode b_Mod_anyBroken 31 = .ok (.iload_n 1, 1) := by decide +kernel
theorem d_Mod_anyBroken_32 : decode b_Mod_anyBroken 32 = .ok (.iconst 1, 1) := by decide +kernel
theorem d_Mod_anyBroken_33 : decode b_Mod_anyBroken 33 = .ok (.iadd, 1) := by decide +kernel
theorem d_Mod_anyBroken_34 : decode b_Mod_anyBroken 34 = .ok (.goto 4, 3) := by decide +kernel
theorem d_Mod_anyBroken_37 : decode b_Mod_anyBroken 37 = .ok (.iload_n 1, 1) := by decide +kernel
theorem d_Mod_anyBroken_38 : decode b_Mod_anyBroken 38 = .ok (.istore_n 1, 1) := by decide +kernel
theorem d_Mod_anyBroken_39 : decode b_Mod_anyBroken 39 = .ok (.iinc 2 1, 3) := by decide +kernel
theorem d_Mod_anyBroken_42 : decode b_Mod_anyBroken 42 = .ok (.goto (-38), 3) := by decide +kernel
theorem d_Mod_anyBroken_45 : decode b_Mod_anyBroken 45 = .ok (.iload_n 1, 1) := by decide +kernel
theorem d_Mod_anyBroken_46 : decode b_Mod_anyBroken 46 = .ok (.ireturn, 1) := by decide +kernel
theorem d_Mod_check_0 : decode b_Mod_check 0 = .ok (.aload_n 0, 1) := by decide +kernel
theorem d_Mod_check_1 : decode b_Mod_check 1 = .ok (.aload_n 0, 1) := by decide +kernel
theorem d_Mod_check_2 : decode b_Mod_check 2 = .ok (.getfield 170, 3) := by decide +kernel
theorem d_Mod_check_5 : decode b_Mod_check 5 = .ok (.ifCond .ne 7, 3) := by decide +kernel
theorem d_Mod_check_8 : decode b_Mod_check 8 = .ok (.iconst 1, 1) := by decide +kernel
theorem d_Mod_check_9 : decode b_Mod_check 9 = .ok (.goto 18, 3) := by decide +kernel
theorem d_Mod_check_12 : decode b_Mod_check 12 = .ok (.iload_n 1, 1) := by decide +kernel
theorem d_Mod_check_13 : decode b_Mod_check 13 = .ok (.ifCond .lt 9, 3) := by decide +kernel
theorem d_Mod_check_16 : decode b_Mod_check 16 = .ok (.iload_n 1, 1) := by decide +kernel
theorem d_Mod_check_17 : decode b_Mod_check 17 = .ok (.bipush 50, 2) := by decide +kernel
theorem d_Mod_check_19 : decode b_Mod_check 19 = .ok (.if_icmp .le 7, 3) := by decide +kernel
theorem d_Mod_check_22 : decode b_Mod_check 22 = .ok (.iconst 2, 1) := by decide +kernel
theorem d_Mod_check_23 : decode b_Mod_check 23 = .ok (.goto 4, 3) := by decide +kernel
theorem d_Mod_check_26 : decode b_Mod_check 26 = .ok (.iconst 0, 1) := by decide +kernel
theorem d_Mod_check_27 : decode b_Mod_check 27 = .ok (.putfield 84, 3) := by decide +kernel
theorem d_Mod_check_30 : decode b_Mod_check 30 = .ok (.aload_n 0, 1) := by decide +kernel
theorem d_Mod_check_31 : decode b_Mod_check 31 = .ok (.getfield 84, 3) := by decide +kernel
theorem d_Mod_check_34 : decode b_Mod_check 34 = .ok (.ifCond .le 5, 3) := by decide +kernel
theorem d_Mod_check_37 : decode b_Mod_check 37 = .ok (.iconst 0, 1) := by decide +kernel
theorem d_Mod_check_38 : decode b_Mod_check 38 = .ok (.ireturn, 1) := by decide +kernel
theorem d_Mod_check_39 : decode b_Mod_check 39 = .ok (.aload_n 0, 1) := by decide +kernel
theorem d_Mod_check_40 : decode b_Mod_check 40 = .ok (.getfield 34, 3) := by decide +kernel
theorem d_Mod_check_43 : decode b_Mod_check 43 = .ok (.iconst 0, 1) := by decide +kernel
theorem d_Mod_check_44 : decode b_Mod_check 44 = .ok (.laload, 1) := by decide +kernel
theorem d_Mod_check_45 : decode b_Mod_check 45 = .ok (.lstore_n 2, 1) := by decide +kernel
theorem d_Mod_check_46 : decode b_Mod_check 46 = .ok (.aload_n 0, 1) := by decide +kernel
theorem d_Mod_check_47 : decode b_Mod_check 47 = .ok (.getfield 38, 3) := by decide +kernel
theorem d_Mod_check_50 : decode b_Mod_check 50 = .ok (.iconst 0, 1) := by decide +kernel
theorem d_Mod_check_51 : decode b_Mod_check 51 = .ok (.laload, 1) := by decide +kernel
theorem d_Mod_check_52 : decode b_Mod_check 52 = .ok (.lstore 4, 2) := by decide +kernel
theorem d_Mod_check_54 : decode b_Mod_check 54 = .ok (.iconst (-1), 1) := by decide +kernel
theorem d_Mod_check_55 : decode b_Mod_check 55 = .ok (.istore 6, 2) := by decide +kernel
theorem d_Mod_check_57 : decode b_Mod_check 57 = .ok (.iconst 1, 1) := by decide +kernel
theorem d_Mod_check_58 : decode b_Mod_check 58 = .ok (.istore 7, 2) := by decide +kernel
theorem d_Mod_check_60 : decode b_Mod_check 60 = .ok (.iconst 0, 1) := by decide +kernel
theorem d_Mod_check_61 : decode b_Mod_check 61 = .ok (.istore 8, 2) := by decide +kernel
theorem d_Mod_check_63 : decode b_Mod_check 63 = .ok (.iload 8, 2) := by decide +kernel
theorem d_Mod_check_65 : decode b_Mod_check 65 = .ok (.iload_n 1, 1) := by decide +kernel
theorem d_Mod_check_66 : decode b_Mod_check 66 = .ok (.if_icmp .gt 94, 3) := by decide +kernel
theorem d_Mod_check_69 : decode b_Mod_check 69 = .ok (.iload 7, 2) := by decide +kernel
theorem d_Mod_check_71 : decode b_Mod_check 71 = .ok (.ifCond .eq 89, 3) := by decide +kernel
theorem d_Mod_check_74 : decode b_Mod_check 74 = .ok (.lload_n 2, 1) := by decide +kernel
theorem d_Mod_check_75 : decode b_Mod_check 75 = .ok (.iload 8, 2) := by decide +kernel
theorem d_Mod_check_77 : decode b_Mod_check 77 = .ok (.i2l, 1) := by decide +kernel
theorem d_Mod_check_78 : decode b_Mod_check 78 = .ok (.lload 4, 2) := by decide +kernel
theorem d_Mod_check_80 : decode b_Mod_check 80 = .ok (.lmul, 1) := by decide +kernel
theorem d_Mod_check_81 : decode b_Mod_check 81 = .ok (.ladd, 1) := by decide +kernel
theorem d_Mod_check_82 : decode b_Mod_check 82 = .ok (.lstore 9, 2) := by decide +kernel
theorem d_Mod_check_84 : decode b_Mod_check 84 = .ok (.lload 9, 2) := by decide +kernel
theorem d_Mod_check_86 : decode b_Mod_check 86 = .ok (.ldc2_w 191, 3) := by decide +kernel
theorem d_Mod_check_89 : decode b_Mod_check 89 = .ok (.lcmp, 1) := by decide +kernel
theorem d_Mod_check_90 : decode b_Mod_check 90 = .ok (.ifCond .gt 16, 3) := by decide +kernel
theorem d_Mod_check_93 : decode b_Mod_check 93 = .ok (.lload 9, 2) := by decide +kernel
theorem d_Mod_check_95 : decode b_Mod_check 95 = .ok (.ldc2_w 193, 3) := by decide +kernel
theorem d_Mod_check_98 : decode b_Mod_check 98 = .ok (.lcmp, 1) := by decide +kernel
theorem d_Mod_check_99 : decode b_Mod_check 99 = .ok (.ifCond .lt 7, 3) := by decide +kernel
theorem d_Mod_check_102 : decode b_Mod_check 102 = .ok (.iconst 1, 1) := by decide +kernel
theorem d_Mod_check_103 : decode b_Mod_check 103 = .ok (.goto 4, 3) := by decide +kernel
theorem d_Mod_check_106 : decode b_Mod_check 106 = .ok (.iconst 0, 1) := by decide +kernel
theorem d_Mod_check_107 : decode b_Mod_check 107 = .ok (.istore 7, 2) := by decide +kernel
theorem d_Mod_check_109 : decode b_Mod_check 109 = .ok (.iload 7, 2) := by decide +kernel
theorem d_Mod_check_111 : decode b_Mod_check 111 = .ok (.ifCond .eq 43, 3) := by decide +kernel
theorem d_Mod_check_114 : decode b_Mod_check 114 = .ok (.aload_n 0, 1) := by decide +kernel
theorem d_Mod_check_115 : decode b_Mod_check 115 = .ok (.getfield 34, 3) := by decide +kernel
theorem d_Mod_check_118 : decode b_Mod_check 118 = .ok (.iconst 0, 1) := by decide +kernel
theorem d_Mod_check_119 : decode b_Mod_check 119 = .ok (.lload 9, 2) := by decide +kernel
theorem d_Mod_check_121 : decode b_Mod_check 121 = .ok (.lastore, 1) := by decide +kernel
theorem d_Mod_check_122 : decode b_Mod_check 122 = .ok (.aload_n 0, 1) := by decide +kernel
theorem d_Mod_check_123 : decode b_Mod_check 123 = .ok (.invokevirtual 229, 3) := by decide +kernel
theorem d_Mod_check_126 : decode b_Mod_check 126 = .ok (.aload_n 0, 1) := by decide +kernel
theorem d_Mod_check_127 : decode b_Mod_check 127 = .ok (.invokevirtual 245, 3) := by decide +kernel
theorem d_Mod_check_130 : decode b_Mod_check 130 = .ok (.ifCond .le 8, 3) := by decide +kernel
theorem d_Mod_check_133 : decode b_Mod_check 133 = .ok (.iload 8, 2) := by decide +kernel
theorem d_Mod_check_135 : decode b_Mod_check 135 = .ok (.goto 4, 3) := by decide +kernel
theorem d_Mod_check_138 : decode b_Mod_check 138 = .ok (.iconst (-1), 1) := by decide +kernel
theorem d_Mod_check_139 : decode b_Mod_check 139 = .ok (.istore 6, 2) := by decide +kernel
theorem d_Mod_check_141 : decode b_Mod_check 141 = .ok (.iload 6, 2) := by decide +kernel
theorem d_Mod_check_143 : decode b_Mod_check 143 = .ok (.iconst (-1), 1) := by decide +kernel
theorem d_Mod_check_144 : decode b_Mod_check 144 = .ok (.if_icmp .ne 7, 3) := by decide +kernel
theorem d_Mod_check_147 : decode b_Mod_check 147 = .ok (.iconst 1, 1) := by decide +kernel
theorem d_Mod_check_148 : decode b_Mod_check 148 = .ok (.goto 4, 3) := by decide +kernel
theorem d_Mod_check_151 : decode b_Mod_check 151 = .ok (.iconst 0, 1) := by decide +kernel
theorem d_Mod_check_152 : decode b_Mod_check 152 = .ok (.istore 7, 2) := by decide +kernel
theorem d_Mod_check_154 : decode b_Mod_check 154 = .ok (.iinc 8 1, 3) := by decide +kernel
theorem d_Mod_check_157 : decode b_Mod_check 157 = .ok (.goto (-94), 3) := by decide +kernel
theorem d_Mod_check_160 : decode b_Mod_check 160 = .ok (.aload_n 0, 1) := by decide +kernel
theorem d_Mod_check_161 : decode b_Mod_check 161 = .ok (.getfield 34, 3) := by decide +kernel
theorem d_Mod_check_164 : decode b_Mod_check 164 = .ok (.iconst 0, 1) := by decide +kernel
theorem d_Mod_check_165 : decode b_Mod_check 165 = .ok (.lload_n 2, 1) := by decide +kernel
theorem d_Mod_check_166 : decode b_Mod_check 166 = .ok (.lastore, 1) := by decide +kernel
theorem d_Mod_check_167 : decode b_Mod_check 167 = .ok (.aload_n 0, 1) := by decide +kernel
theorem d_Mod_check_168 : decode b_Mod_check 168 = .ok (.getfield 38, 3) := by decide +kernel
theorem d_Mod_check_171 : decode b_Mod_check 171 = .ok (.iconst 0, 1) := by decide +kernel
theorem d_Mod_check_172 : decode b_Mod_check 172 = .ok (.lload 4, 2) := by decide +kernel
theorem d_Mod_check_174 : decode b_Mod_check 174 = .ok (.lastore, 1) := by decide +kernel
theorem d_Mod_check_175 : decode b_Mod_check 175 = .ok (.aload_n 0, 1) := by decide +kernel
theorem d_Mod_check_176 : decode b_Mod_check 176 = .ok (.invokevirtual 229, 3) := by decide +kernel
theorem d_Mod_check_179 : decode b_Mod_check 179 = .ok (.iload 6, 2) := by decide +kernel
theorem d_Mod_check_181 : decode b_Mod_check 181 = .ok (.ireturn, 1) := by decide +kernel
theorem d_Mod_differs_0 : decode b_Mod_differs 0 = .ok (.aload_n 0, 1) := by decide +kernel
theorem d_Mod_differs_1 : decode b_Mod_differs 1 = .ok (.aload_n 0, 1) := by decide +kernel
theorem d_Mod_differs_2 : decode b_Mod_differs 2 = .ok (.getfield 170, 3) := by decide +kernel
theorem d_Mod_differs_5 : decode b_Mod_differs 5 = .ok (.ifCond .ne 7, 3) := by decide +kernel
theorem d_Mod_differs_8 : decode b_Mod_differs 8 = .ok (.iconst 1, 1) := by decide +kernel
theorem d_Mod_differs_9 : decode b_Mod_differs 9 = .ok (.goto 28, 3) := by decide +kernel
theorem d_Mod_differs_12 : decode b_Mod_differs 12 = .ok (.iload_n 1, 1) := by decide +kernel
theorem d_Mod_differs_13 : decode b_Mod_differs 13 = .ok (.ifCond .lt 11, 3) := by decide +kernel
theorem d_Mod_differs_16 : decode b_Mod_differs 16 = .ok (.iload_n 1, 1) := by decide +kernel
theorem d_Mod_differs_17 : decode b_Mod_differs 17 = .ok (.aload_n 0, 1) := by decide +kernel
theorem d_Mod_differs_18 : decode b_Mod_differs 18 = .ok (.getfield 248, 3) := by decide +kernel
theorem d_Mod_differs_21 : decode b_Mod_differs 21 = .ok (.if_icmp .lt 7, 3) := by decide +kernel
theorem d_Mod_differs_24 : decode b_Mod_differs 24 = .ok (.iconst 2, 1) := by decide +kernel
theorem d_Mod_differs_25 : decode b_Mod_differs 25 = .ok (.goto 12, 3) := by decide +kernel
theorem d_Mod_differs_28 : decode b_Mod_differs 28 = .ok (.iload_n 2, 1) := by decide +kernel
theorem d_Mod_differs_29 : decode b_Mod_differs 29 = .ok (.ifCond .ge 7, 3) := by decide +kernel
theorem d_Mod_differs_32 : decode b_Mod_differs 32 = .ok (.iconst 3, 1) := by decide +kernel
theorem d_Mod_differs_33 : decode b_Mod_differs 33 = .ok (.goto 4, 3) := by decide +kernel
theorem d_Mod_differs_36 : decode b_Mod_differs 36 = .ok (.iconst 0, 1) := by decide +kernel
theorem d_Mod_differs_37 : decode b_Mod_differs 37 = .ok (.putfield 84, 3) := by decide +kernel
theorem d_Mod_differs_40 : decode b_Mod_differs 40 = .ok (.iload_n 2, 1) := by decide +kernel
theorem d_Mod_differs_41 : decode b_Mod_differs 41 = .ok (.istore_n 3, 1) := by decide +kernel
theorem d_Mod_differs_42 : decode b_Mod_differs 42 = .ok (.iconst 0, 1) := by decide +kernel
theorem d_Mod_differs_43 : decode b_Mod_differs 43 = .ok (.istore 4, 2) := by decide +kernel
theorem d_Mod_differs_45 : decode b_Mod_differs 45 = .ok (.iload 4, 2) := by decide +kernel
theorem d_Mod_differs_47 : decode b_Mod_differs 47 = .ok (.bipush 60, 2) := by decide +kernel
theorem d_Mod_differs_49 : decode b_Mod_differs 49 = .ok (.if_icmp .ge 88, 3) := by decide +kernel
theorem d_Mod_differs_52 : decode b_Mod_differs 52 = .ok (.aload_n 0, 1) := by decide +kernel
theorem d_Mod_differs_53 : decode b_Mod_differs 53 = .ok (.getfield 84, 3) := by decide +kernel
theorem d_Mod_differs_56 : decode b_Mod_differs 56 = .ok (.ifCond .ne 81, 3) := by decide +kernel
theorem d_Mod_differs_59 : decode b_Mod_differs 59 = .ok (.bipush 60, 2) := by decide +kernel
theorem d_Mod_differs_61 : decode b_Mod_differs 61 = .ok (.iload_n 1, 1) := by decide +kernel
theorem d_Mod_differs_62 : decode b_Mod_differs 62 = .ok (.imul, 1) := by decide +kernel
theorem d_Mod_differs_63 : decode b_Mod_differs 63 = .ok (.iload 4, 2) := by decide +kernel
theorem d_Mod_differs_65 : decode b_Mod_differs 65 = .ok (.iadd, 1) := by decide +kernel
theorem d_Mod_differs_66 : decode b_Mod_differs 66 = .ok (.istore 5, 2) := by decide +kernel
theorem d_Mod_differs_68 : decode b_Mod_differs 68 = .ok (.aload_n 0, 1) := by decide +kernel
theorem d_Mod_differs_69 : decode b_Mod_differs 69 = .ok (.getfield 48, 3) := by decide +kernel
theorem d_Mod_differs_72 : decode b_Mod_differs 72 = .ok (.iload 4, 2) := by decide +kernel
theorem d_Mod_differs_74 : decode b_Mod_differs 74 = .ok (.iaload, 1) := by decide +kernel
theorem d_Mod_differs_75 : decode b_Mod_differs 75 = .ok (.aload_n 0, 1) := by decide +kernel
theorem d_Mod_differs_76 : decode b_Mod_differs 76 = .ok (.getfield 60, 3) := by decide +kernel
theorem d_Mod_differs_79 : decode b_Mod_differs 79 = .ok (.iload 5, 2) := by decide +kernel
theorem d_Mod_differs_81 : decode b_Mod_differs 81 = .ok (.iaload, 1) := by decide +kernel
theorem d_Mod_differs_82 : decode b_Mod_differs 82 = .ok (.if_icmp .ne 39, 3) := by decide +kernel
theorem d_Mod_differs_85 : decode b_Mod_differs 85 = .ok (.aload_n 0, 1) := by decide +kernel
theorem d_Mod_differs_86 : decode b_Mod_differs 86 = .ok (.getfield 51, 3) := by decide +kernel
theorem d_Mod_differs_89 : decode b_Mod_differs 89 = .ok (.iload 4, 2) := by decide +kernel
theorem d_Mod_differs_91 : decode b_Mod_differs 91 = .ok (.laload, 1) := by decide +kernel
theorem d_Mod_differs_92 : decode b_Mod_differs 92 = .ok (.aload_n 0, 1) := by decide +kernel
theorem d_Mod_differs_93 : decode b_Mod_differs 93 = .ok (.getfield 63, 3) := by decide +kernel
theorem d_Mod_differs_96 : decode b_Mod_differs 96 = .ok (.iload 5, 2) := by decide +kernel
theorem d_Mod_differs_98 : decode b_Mod_differs 98 = .ok (.laload, 1) := by decide +kernel
theorem d_Mod_differs_99 : decode b_Mod_differs 99 = .ok (.lcmp, 1) := by decide +kernel
theorem d_Mod_differs_100 : decode b_Mod_differs 100 = .ok (.ifCond .ne 21, 3) := by decide +kernel
theorem d_Mod_differs_103 : decode b_Mod_differs 103 = .ok (.aload_n 0, 1) := by decide +kernel
theorem d_Mod_differs_104 : decode b_Mod_differs 104 = .ok (.getfield 54, 3) := by decide +kernel
theorem d_Mod_differs_107 : decode b_Mod_differs 107 = .ok (.iload 4, 2) := by decide +kernel
theorem d_Mod_differs_109 : decode b_Mod_differs 109 = .ok (.laload, 1) := by decide +kernel
theorem d_Mod_differs_110 : decode b_Mod_differs 110 = .ok (.aload_n 0, 1) := by decide +kernel
theorem d_Mod_differs_111 : decode b_Mod_differs 111 = .ok (.getfield 66, 3) := by decide +kernel
theorem d_Mod_differs_114 : decode b_Mod_differs 114 = .ok (.iload 5, 2) := by decide +kernel
theorem d_Mod_differs_116 : decode b_Mod_differs 116 = .ok (.laload, 1) := by decide +kernel
theorem d_Mod_differs_117 : decode b_Mod_differs 117 = .ok (.lcmp, 1) := by decide +kernel
theorem d_Mod_differs_118 : decode b_Mod_differs 118 = .ok (.ifCond .eq 13, 3) := by decide +kernel
theorem d_Mod_differs_121 : decode b_Mod_differs 121 = .ok (.iload_n 3, 1) := by decide +kernel
theorem d_Mod_differs_122 : decode b_Mod_differs 122 = .ok (.ifCond .ne 6, 3) := by decide +kernel
theorem d_Mod_differs_125 : decode b_Mod_differs 125 = .ok (.iload 4, 2) := by decide +kernel
theorem d_Mod_differs_127 : decode b_Mod_differs 127 = .ok (.ireturn, 1) := by decide +kernel
theorem d_Mod_differs_128 : decode b_Mod_differs 128 = .ok (.iinc 3 (-1), 3) := by decide +kernel
theorem d_Mod_differs_131 : decode b_Mod_differs 131 = .ok (.iinc 4 1, 3) := by decide +kernel
theorem d_Mod_differs_134 : decode b_Mod_differs 134 = .ok (.goto (-89), 3) := by decide +kernel
theorem d_Mod_differs_137 : decode b_Mod_differs 137 = .ok (.aload_n 0, 1) := by decide +kernel
theorem d_Mod_differs_138 : decode b_Mod_differs 138 = .ok (.getfield 84, 3) := by decide +kernel
theorem d_Mod_differs_141 : decode b_Mod_differs 141 = .ok (.ifCond .le 7, 3) := by decide +kernel
theorem d_Mod_differs_144 : decode b_Mod_differs 144 = .ok (.iconst 0, 1) := by decide +kernel
theorem d_Mod_differs_145 : decode b_Mod_differs 145 = .ok (.goto 4, 3) := by decide +kernel
theorem d_Mod_differs_148 : decode b_Mod_differs 148 = .ok (.iconst (-1), 1) := by decide +kernel
theorem d_Mod_differs_149 : decode b_Mod_differs 149 = .ok (.ireturn, 1) := by decide +kernel
theorem d_Mod_insert_0 : decode b_Mod_insert 0 = .ok (.aload_n 0, 1) := by decide +kernel
theorem d_Mod_insert_1 : decode b_Mod_insert 1 = .ok (.getfield 255, 3) := by decide +kernel
theorem d_Mod_insert_4 : decode b_Mod_insert 4 = .ok (.istore_n 3, 1) := by decide +kernel
theorem d_Mod_insert_5 : decode b_Mod_insert 5 = .ok (.iload_n 3, 1) := by decide +kernel
theorem d_Mod_insert_6 : decode b_Mod_insert 6 = .ok (.iload_n 1, 1) := by decide +kernel
theorem d_Mod_insert_7 : decode b_Mod_insert 7 = .ok (.if_icmp .le 23, 3) := by decide +kernel
theorem d_Mod_insert_10 : decode b_Mod_insert 10 = .ok (.aload_n 0, 1) := by decide +kernel
theorem d_Mod_insert_11 : decode b_Mod_insert 11 = .ok (.getfield 75, 3) := by decide +kernel
theorem d_Mod_insert_14 : decode b_Mod_insert 14 = .ok (.iload_n 3, 1) := by decide +kernel
theorem d_Mod_insert_15 : decode b_Mod_insert 15 = .ok (.aload_n 0, 1) := by decide +kernel
theorem d_Mod_insert_16 : decode b_Mod_insert 16 = .ok (.getfield 75, 3) := by decide +kernel
theorem d_Mod_insert_19 : decode b_Mod_insert 19 = .ok (.iload_n 3, 1) := by decide +kernel
theorem d_Mod_insert_20 : decode b_Mod_insert 20 = .ok (.iconst 1, 1) := by decide +kernel
theorem d_Mod_insert_21 : decode b_Mod_insert 21 = .ok (.isub, 1) := by decide +kernel
theorem d_Mod_insert_22 : decode b_Mod_insert 22 = .ok (.iaload, 1) := by decide +kernel
theorem d_Mod_insert_23 : decode b_Mod_insert 23 = .ok (.iastore, 1) := by decide +kernel
theorem d_Mod_insert_24 : decode b_Mod_insert 24 = .ok (.iinc 3 (-1), 3) := by decide +kernel
theorem d_Mod_insert_27 : decode b_Mod_insert 27 = .ok (.goto (-22), 3) := by decide +kernel
theorem d_Mod_insert_30 : decode b_Mod_insert 30 = .ok (.aload_n 0, 1) := by decide +kernel
theorem d_Mod_insert_31 : decode b_Mod_insert 31 = .ok (.getfield 75, 3) := by decide +kernel
theorem d_Mod_insert_34 : decode b_Mod_insert 34 = .ok (.iload_n 1, 1) := by decide +kernel
theorem d_Mod_insert_35 : decode b_Mod_insert 35 = .ok (.iload_n 2, 1) := by decide +kernel
theorem d_Mod_insert_36 : decode b_Mod_insert 36 = .ok (.iastore, 1) := by decide +kernel
theorem d_Mod_insert_37 : decode b_Mod_insert 37 = .ok (.aload_n 0, 1) := by decide +kernel
theorem d_Mod_insert_38 : decode b_Mod_insert 38 = .ok (.dup, 1) := by decide +kernel
theorem d_Mod_insert_39 : decode b_Mod_insert 39 = .ok (.getfield 255, 3) := by decide +kernel
theorem d_Mod_insert_42 : decode b_Mod_insert 42 = .ok (.iconst 1, 1) := by decide +kernel
theorem d_Mod_insert_43 : decode b_Mod_insert 43 = .ok (.iadd, 1) := by decide +kernel
theorem d_Mod_insert_44 : decode b_Mod_insert 44 = .ok (.putfield 255, 3) := by decide +kernel
theorem d_Mod_insert_47 : decode b_Mod_insert 47 = .ok (.return_, 1) := by decide +kernel
theorem d_Mod_letterOf_0 : decode b_Mod_letterOf 0 = .ok (.iload_n 0, 1) := by decide +kernel
theorem d_Mod_letterOf_1 : decode b_Mod_letterOf 1 = .ok (.ifCond .ne 8, 3) := by decide +kernel
theorem d_Mod_letterOf_4 : decode b_Mod_letterOf 4 = .ok (.bipush 119, 2) := by decide +kernel
theorem d_Mod_letterOf_6 : decode b_Mod_letterOf 6 = .ok (.goto 29, 3) := by decide +kernel
theorem d_Mod_letterOf_9 : decode b_Mod_letterOf 9 = .ok (.iload_n 0, 1) := by decide +kernel
theorem d_Mod_letterOf_10 : decode b_Mod_letterOf 10 = .ok (.iconst 1, 1) := by decide +kernel
theorem d_Mod_letterOf_11 : decode b_Mod_letterOf 11 = .ok (.if_icmp .ne 8, 3) := by decide +kernel
theorem d_Mod_letterOf_14 : decode b_Mod_letterOf 14 = .ok (.bipush 104, 2) := by decide +kernel
theorem d_Mod_letterOf_16 : decode b_Mod_letterOf 16 = .ok (.goto 19, 3) := by decide +kernel
theorem d_Mod_letterOf_19 : decode b_Mod_letterOf 19 = .ok (.iload_n 0, 1) := by decide +kernel
theorem d_Mod_letterOf_20 : decode b_Mod_letterOf 20 = .ok (.iconst 2, 1) := by decide +kernel
theorem d_Mod_letterOf_21 : decode b_Mod_letterOf 21 = .ok (.if_icmp .ne 8, 3) := by decide +kernel
theorem d_Mod_letterOf_24 : decode b_Mod_letterOf 24 = .ok (.bipush 100, 2) := by decide +kernel
theorem d_Mod_letterOf_26 : decode b_Mod_letterOf 26 = .ok (.goto 9, 3) := by decide +kernel
theorem d_Mod_letterOf_29 : decode b_Mod_letterOf 29 = .ok (.bipush 120, 2) := by decide +kernel
theorem d_Mod_letterOf_31 : decode b_Mod_letterOf 31 = .ok (.iload_n 0, 1) := by decide +kernel
theorem d_Mod_letterOf_32 : decode b_Mod_letterOf 32 = .ok (.iadd, 1) := by decide +kernel
theorem d_Mod_letterOf_33 : decode b_Mod_letterOf 33 = .ok (.iconst 3, 1) := by decide +kernel
theorem d_Mod_letterOf_34 : decode b_Mod_letterOf 34 = .ok (.isub, 1) := by decide +kernel
theorem d_Mod_letterOf_35 : decode b_Mod_letterOf 35 = .ok (.ireturn, 1) := by decide +kernel
theorem d_Mod_limit_0 : decode b_Mod_limit 0 = .ok (.aload_n 0, 1) := by decide +kernel
theorem d_Mod_limit_1 : decode b_Mod_limit 1 = .ok (.aload_n 0, 1) := by decide +kernel
theorem d_Mod_limit_2 : decode b_Mod_limit 2 = .ok (.getfield 170, 3) := by decide +kernel
theorem d_Mod_limit_5 : decode b_Mod_limit 5 = .ok (.ifCond .ne 7, 3) := by decide +kernel
theorem d_Mod_limit_8 : decode b_Mod_limit 8 = .ok (.iconst 1, 1) := by decide +kernel
theorem d_Mod_limit_9 : decode b_Mod_limit 9 = .ok (.goto 21, 3) := by decide +kernel
theorem d_Mod_limit_12 : decode b_Mod_limit 12 = .ok (.iload_n 1, 1) := by decide +kernel
theorem d_Mod_limit_13 : decode b_Mod_limit 13 = .ok (.ifCond .lt 12, 3) := by decide +kernel
theorem d_Mod_limit_16 : decode b_Mod_limit 16 = .ok (.iload_n 2, 1) := by decide +kernel
theorem d_Mod_limit_17 : decode b_Mod_limit 17 = .ok (.ifCond .lt 8, 3) := by decide +kernel
theorem d_Mod_limit_20 : decode b_Mod_limit 20 = .ok (.iload_n 2, 1) := by decide +kernel
theorem d_Mod_limit_21 : decode b_Mod_limit 21 = .ok (.iconst 1, 1) := by decide +kernel
theorem d_Mod_limit_22 : decode b_Mod_limit 22 = .ok (.if_icmp .le 7, 3) := by decide +kernel
theorem d_Mod_limit_25 : decode b_Mod_limit 25 = .ok (.iconst 2, 1) := by decide +kernel
theorem d_Mod_limit_26 : decode b_Mod_limit 26 = .ok (.goto 4, 3) := by decide +kernel
theorem d_Mod_limit_29 : decode b_Mod_limit 29 = .ok (.iconst 0, 1) := by decide +kernel
theorem d_Mod_limit_30 : decode b_Mod_limit 30 = .ok (.putfield 84, 3) := by decide +kernel
theorem d_Mod_limit_33 : decode b_Mod_limit 33 = .ok (.iload_n 1, 1) := by decide +kernel
theorem d_Mod_limit_34 : decode b_Mod_limit 34 = .ok (.istore_n 3, 1) := by decide +kernel
theorem d_Mod_limit_35 : decode b_Mod_limit 35 = .ok (.iconst 0, 1) := by decide +kernel
theorem d_Mod_limit_36 : decode b_Mod_limit 36 = .ok (.istore 4, 2) := by decide +kernel
theorem d_Mod_limit_38 : decode b_Mod_limit 38 = .ok (.iload 4, 2) := by decide +kernel
theorem d_Mod_limit_40 : decode b_Mod_limit 40 = .ok (.aload_n 0, 1) := by decide +kernel
theorem d_Mod_limit_41 : decode b_Mod_limit 41 = .ok (.getfield 22, 3) := by decide +kernel
theorem d_Mod_limit_44 : decode b_Mod_limit 44 = .ok (.iconst 0, 1) := by decide +kernel
theorem d_Mod_limit_45 : decode b_Mod_limit 45 = .ok (.iaload, 1) := by decide +kernel
theorem d_Mod_limit_46 : decode b_Mod_limit 46 = .ok (.if_icmp .ge 58, 3) := by decide +kernel
theorem d_Mod_limit_49 : decode b_Mod_limit 49 = .ok (.aload_n 0, 1) := by decide +kernel
theorem d_Mod_limit_50 : decode b_Mod_limit 50 = .ok (.getfield 84, 3) := by decide +kernel
theorem d_Mod_limit_53 : decode b_Mod_limit 53 = .ok (.ifCond .ne 51, 3) := by decide +kernel
theorem d_Mod_limit_56 : decode b_Mod_limit 56 = .ok (.aload_n 0, 1) := by decide +kernel
theorem d_Mod_limit_57 : decode b_Mod_limit 57 = .ok (.getfield 28, 3) := by decide +kernel
theorem d_Mod_limit_60 : decode b_Mod_limit 60 = .ok (.iload 4, 2) := by decide +kernel
theorem d_Mod_limit_62 : decode b_Mod_limit 62 = .ok (.iaload, 1) := by decide +kernel
theorem d_Mod_limit_63 : decode b_Mod_limit 63 = .ok (.ifCond .ge 35, 3) := by decide +kernel
theorem d_Mod_limit_66 : decode b_Mod_limit 66 = .ok (.aload_n 0, 1) := by decide +kernel
theorem d_Mod_limit_67 : decode b_Mod_limit 67 = .ok (.iload 4, 2) := by decide +kernel
theorem d_Mod_limit_69 : decode b_Mod_limit 69 = .ok (.invokevirtual 242, 3) := by decide +kernel
theorem d_Mod_limit_72 : decode b_Mod_limit 72 = .ok (.ifCond .le 26, 3) := by decide +kernel
theorem d_Mod_limit_75 : decode b_Mod_limit 75 = .ok (.iload_n 3, 1) := by decide +kernel
theorem d_Mod_limit_76 : decode b_Mod_limit 76 = .ok (.ifCond .ne 19, 3) := by decide +kernel
theorem d_Mod_limit_79 : decode b_Mod_limit 79 = .ok (.iload_n 2, 1) := by decide +kernel
theorem d_Mod_limit_80 : decode b_Mod_limit 80 = .ok (.ifCond .ne 8, 3) := by decide +kernel
theorem d_Mod_limit_83 : decode b_Mod_limit 83 = .ok (.iload 4, 2) := by decide +kernel
theorem d_Mod_limit_85 : decode b_Mod_limit 85 = .ok (.goto 9, 3) := by decide +kernel
theorem d_Mod_limit_88 : decode b_Mod_limit 88 = .ok (.aload_n 0, 1) := by decide +kernel
theorem d_Mod_limit_89 : decode b_Mod_limit 89 = .ok (.iload 4, 2) := by decide +kernel
theorem d_Mod_limit_91 : decode b_Mod_limit 91 = .ok (.invokevirtual 242, 3) := by decide +kernel
theorem d_Mod_limit_94 : decode b_Mod_limit 94 = .ok (.ireturn, 1) := by decide +kernel
theorem d_Mod_limit_95 : decode b_Mod_limit 95 = .ok (.iinc 3 (-1), 3) := by decide +kernel
theorem d_Mod_limit_98 : decode b_Mod_limit 98 = .ok (.iinc 4 1, 3) := by decide +kernel
theorem d_Mod_limit_101 : decode b_Mod_limit 101 = .ok (.goto (-63), 3) := by decide +kernel
theorem d_Mod_limit_104 : decode b_Mod_limit 104 = .ok (.aload_n 0, 1) := by decide +kernel
theorem d_Mod_limit_105 : decode b_Mod_limit 105 = .ok (.getfield 84, 3) := by decide +kernel
theorem d_Mod_limit_108 : decode b_Mod_limit 108 = .ok (.ifCond .le 7, 3) := by decide +kernel
theorem d_Mod_limit_111 : decode b_Mod_limit 111 = .ok (.iconst 0, 1) := by decide +kernel
theorem d_Mod_limit_112 : decode b_Mod_limit 112 = .ok (.goto 4, 3) := by decide +kernel
theorem d_Mod_limit_115 : decode b_Mod_limit 115 = .ok (.iconst (-1), 1) := by decide +kernel
theorem d_Mod_limit_116 : decode b_Mod_limit 116 = .ok (.ireturn, 1) := by decide +kernel
theorem d_Mod_reckoned_0 : decode b_Mod_reckoned 0 = .ok (.aload_n 0, 1) := by decide +kernel
theorem d_Mod_reckoned_1 : decode b_Mod_reckoned 1 = .ok (.iconst 0, 1) := by decide +kernel
theorem d_Mod_reckoned_2 : decode b_Mod_reckoned 2 = .ok (.putfield 84, 3) := by decide +kernel
theorem d_Mod_reckoned_5 : decode b_Mod_reckoned 5 = .ok (.aload_n 0, 1) := by decide +kernel
theorem d_Mod_reckoned_6 : decode b_Mod_reckoned 6 = .ok (.getfield 232, 3) := by decide +kernel
theorem d_Mod_reckoned_9 : decode b_Mod_reckoned 9 = .ok (.lreturn, 1) := by decide +kernel
theorem d_Mod_same_0 : decode b_Mod_same 0 = .ok (.aload_n 0, 1) := by decide +kernel
theorem d_Mod_same_1 : decode b_Mod_same 1 = .ok (.invokevirtual 251, 3) := by decide +kernel
theorem d_Mod_same_4 : decode b_Mod_same 4 = .ok (.ifCond .ne 7, 3) := by decide +kernel
theorem d_Mod_same_7 : decode b_Mod_same 7 = .ok (.iconst 1, 1) := by decide +kernel
theorem d_Mod_same_8 : decode b_Mod_same 8 = .ok (.goto 4, 3) := by decide +kernel
theorem d_Mod_same_11 : decode b_Mod_same 11 = .ok (.iconst 0, 1) := by decide +kernel
theorem d_Mod_same_12 : decode b_Mod_same 12 = .ok (.ireturn, 1) := by decide +kernel
theorem d_Mod_version_0 : decode b_Mod_version 0 = .ok (.aload_n 0, 1) := by decide +kernel
theorem d_Mod_version_1 : decode b_Mod_version 1 = .ok (.aload_n 0, 1) := by decide +kernel
theorem d_Mod_version_2 : decode b_Mod_version 2 = .ok (.getfield 170, 3) := by decide +kernel
theorem d_Mod_version_5 : decode b_Mod_version 5 = .ok (.ifCond .eq 15, 3) := by decide +kernel
theorem d_Mod_version_8 : decode b_Mod_version 8 = .ok (.aload_n 0, 1) := by decide +kernel
theorem d_Mod_version_9 : decode b_Mod_version 9 = .ok (.getfield 248, 3) := by decide +kernel
theorem d_Mod_version_12 : decode b_Mod_version 12 = .ok (.iconst 4, 1) := by decide +kernel
theorem d_Mod_version_13 : decode b_Mod_version 13 = .ok (.if_icmp .ge 7, 3) := by decide +kernel
theorem d_Mod_version_16 : decode b_Mod_version 16 = .ok (.iconst 0, 1) := by decide +kernel
theorem d_Mod_version_17 : decode b_Mod_version 17 = .ok (.goto 4, 3) := by decide +kernel
theorem d_Mod_version_20 : decode b_Mod_version 20 = .ok (.iconst 1, 1) := by decide +kernel
theorem d_Mod_version_21 : decode b_Mod_version 21 = .ok (.putfield 84, 3) := by decide +kernel
theorem d_Mod_version_24 : decode b_Mod_version 24 = .ok (.aload_n 0, 1) := by decide +kernel
theorem d_Mod_version_25 : decode b_Mod_version 25 = .ok (.getfield 84, 3) := by decide +kernel
theorem d_Mod_version_28 : decode b_Mod_version 28 = .ok (.ifCond .le 5, 3) := by decide +kernel
theorem d_Mod_version_31 : decode b_Mod_version 31 = .ok (.iconst 0, 1) := by decide +kernel
theorem d_Mod_version_32 : decode b_Mod_version 32 = .ok (.ireturn, 1) := by decide +kernel
theorem d_Mod_version_33 : decode b_Mod_version 33 = .ok (.iconst 0, 1) := by decide +kernel
theorem d_Mod_version_34 : decode b_Mod_version 34 = .ok (.istore_n 1, 1) := by decide +kernel
theorem d_Mod_version_35 : decode b_Mod_version 35 = .ok (.iload_n 1, 1) := by decide +kernel
theorem d_Mod_version_36 : decode b_Mod_version 36 = .ok (.bipush 60, 2) := by decide +kernel
theorem d_Mod_version_38 : decode b_Mod_version 38 = .ok (.if_icmp .ge 69, 3) := by decide +kernel
theorem d_Mod_version_41 : decode b_Mod_version 41 = .ok (.aload_n 0, 1) := by decide +kernel
theorem d_Mod_version_42 : decode b_Mod_version 42 = .ok (.getfield 60, 3) := by decide +kernel
theorem d_Mod_version_45 : decode b_Mod_version 45 = .ok (.bipush 60, 2) := by decide +kernel
theorem d_Mod_version_47 : decode b_Mod_version 47 = .ok (.aload_n 0, 1) := by decide +kernel
theorem d_Mod_version_48 : decode b_Mod_version 48 = .ok (.getfield 248, 3) := by decide +kernel
theorem d_Mod_version_51 : decode b_Mod_version 51 = .ok (.imul, 1) := by decide +kernel
theorem d_Mod_version_52 : decode b_Mod_version 52 = .ok (.iload_n 1, 1) := by decide +kernel
theorem d_Mod_version_53 : decode b_Mod_version 53 = .ok (.iadd, 1) := by decide +kernel
theorem d_Mod_version_54 : decode b_Mod_version 54 = .ok (.aload_n 0, 1) := by decide +kernel
theorem d_Mod_version_55 : decode b_Mod_version 55 = .ok (.getfield 48, 3) := by decide +kernel
theorem d_Mod_version_58 : decode b_Mod_version 58 = .ok (.iload_n 1, 1) := by decide +kernel
theorem d_Mod_version_59 : decode b_Mod_version 59 = .ok (.iaload, 1) := by decide +kernel
theorem d_Mod_version_60 : decode b_Mod_version 60 = .ok (.iastore, 1) := by decide +kernel
theorem d_Mod_version_61 : decode b_Mod_version 61 = .ok (.aload_n 0, 1) := by decide +kernel
theorem d_Mod_version_62 : decode b_Mod_version 62 = .ok (.getfield 63, 3) := by decide +kernel
theorem d_Mod_version_65 : decode b_Mod_version 65 = .ok (.bipush 60, 2) := by decide +kernel
theorem d_Mod_version_67 : decode b_Mod_version 67 = .ok (.aload_n 0, 1) := by decide +kernel
theorem d_Mod_version_68 : decode b_Mod_version 68 = .ok (.getfield 248, 3) := by decide +kernel
theorem d_Mod_version_71 : decode b_Mod_version 71 = .ok (.imul, 1) := by decide +kernel
theorem d_Mod_version_72 : decode b_Mod_version 72 = .ok (.iload_n 1, 1) := by decide +kernel
theorem d_Mod_version_73 : decode b_Mod_version 73 = .ok (.iadd, 1) := by decide +kernel
theorem d_Mod_version_74 : decode b_Mod_version 74 = .ok (.aload_n 0, 1) := by decide +kernel
theorem d_Mod_version_75 : decode b_Mod_version 75 = .ok (.getfield 51, 3) := by decide +kernel
theorem d_Mod_version_78 : decode b_Mod_version 78 = .ok (.iload_n 1, 1) := by decide +kernel
theorem d_Mod_version_79 : decode b_Mod_version 79 = .ok (.laload, 1) := by decide +kernel
theorem d_Mod_version_80 : decode b_Mod_version 80 = .ok (.lastore, 1) := by decide +kernel
theorem d_Mod_version_81 : decode b_Mod_version 81 = .ok (.aload_n 0, 1) := by decide +kernel
theorem d_Mod_version_82 : decode b_Mod_version 82 = .ok (.getfield 66, 3) := by decide +kernel
theorem d_Mod_version_85 : decode b_Mod_version 85 = .ok (.bipush 60, 2) := by decide +kernel
theorem d_Mod_version_87 : decode b_Mod_version 87 = .ok (.aload_n 0, 1) := by decide +kernel
theorem d_Mod_version_88 : decode b_Mod_version 88 = .ok (.getfield 248, 3) := by decide +kernel
theorem d_Mod_version_91 : decode b_Mod_version 91 = .ok (.imul, 1) := by decide +kernel
theorem d_Mod_version_92 : decode b_Mod_version 92 = .ok (.iload_n 1, 1) := by decide +kernel
theorem d_Mod_version_93 : decode b_Mod_version 93 = .ok (.iadd, 1) := by decide +kernel
theorem d_Mod_version_94 : decode b_Mod_version 94 = .ok (.aload_n 0, 1) := by decide +kernel
theorem d_Mod_version_95 : decode b_Mod_version 95 = .ok (.getfield 54, 3) := by decide +kernel
theorem d_Mod_version_98 : decode b_Mod_version 98 = .ok (.iload_n 1, 1) := by decide +kernel
theorem d_Mod_version_99 : decode b_Mod_version 99 = .ok (.laload, 1) := by decide +kernel
theorem d_Mod_version_100 : decode b_Mod_version 100 = .ok (.lastore, 1) := by decide +kernel
theorem d_Mod_version_101 : decode b_Mod_version 101 = .ok (.iinc 1 1, 3) := by decide +kernel
theorem d_Mod_version_104 : decode b_Mod_version 104 = .ok (.goto (-69), 3) := by decide +kernel
theorem d_Mod_version_107 : decode b_Mod_version 107 = .ok (.aload_n 0, 1) := by decide +kernel
theorem d_Mod_version_108 : decode b_Mod_version 108 = .ok (.dup, 1) := by decide +kernel
theorem d_Mod_version_109 : decode b_Mod_version 109 = .ok (.getfield 248, 3) := by decide +kernel
theorem d_Mod_version_112 : decode b_Mod_version 112 = .ok (.iconst 1, 1) := by decide +kernel
theorem d_Mod_version_113 : decode b_Mod_version 113 = .ok (.iadd, 1) := by decide +kernel
theorem d_Mod_version_114 : decode b_Mod_version 114 = .ok (.putfield 248, 3) := by decide +kernel
theorem d_Mod_version_117 : decode b_Mod_version 117 = .ok (.aload_n 0, 1) := by decide +kernel
theorem d_Mod_version_118 : decode b_Mod_version 118 = .ok (.getfield 248, 3) := by decide +kernel
theorem d_Mod_version_121 : decode b_Mod_version 121 = .ok (.iconst 1, 1) := by decide +kernel
theorem d_Mod_version_122 : decode b_Mod_version 122 = .ok (.isub, 1) := by decide +kernel
theorem d_Mod_version_123 : decode b_Mod_version 123 = .ok (.ireturn, 1) := by decide +kernel
theorem g_Mod_242 : GoodIn wsAll (wsV R_Mod 242 R_Mod y_Mod_broken ws_Mod_broken) := gd_V ml_Mod_242 im_Mod_broken se_Mod_broken ini_Mod cd_Mod_broken
def F_Mod_anyBroken_4  : Nat → Int32 → Int32 → Ob → Option (Int32 × Ob)
  | 0, _, _, _ => none
  | n + 1, x1, x2, o0 =>
    chk (inb (0 : Int32) 2) (if (g32 o0 8 (Int32.toNatClampNeg (0 : Int32))) ≤ x2 then (some (x1, o0)) else (chk (inb x2 50) (if 0 ≤ (g32 o0 10 (Int32.toNatClampNeg x2)) then (F_Mod_anyBroken_4 n x1 (x2 + (1 : Int32)) o0) else (bind2 (F_Mod_broken x2 o0) (fun v6 o_7 => if v6 ≤ 0 then (F_Mod_anyBroken_4 n x1 (x2 + (1 : Int32)) o_7) else (F_Mod_anyBroken_4 n (x1 + (1 : Int32)) (x2 + (1 : Int32)) o_7))))))
def F_Mod_anyBroken  (o0 : Ob) : Option (Int32 × Ob) :=
  F_Mod_anyBroken_4 fuel (0 : Int32) (0 : Int32) o0
abbrev ws_Mod_anyBroken : List Cond := Cond.code y_Mod_anyBroken b_Mod_anyBroken 3 (some .int) :: wsAll
abbrev rm_Mod_anyBroken : Room := { frames := 5, cells := 0, slots := 0, locals := 136 }
set_option maxHeartbeats 4000000 in
set_option maxRecDepth 100000 in
theorem k_Mod_anyBroken_4 {p : Program} {l : Launch} {e : Env} {s : State} {m : MethodId} {args : Array Value} {below : List Frame} {meth : Method} {c : Code} {A : Nat → Prop} {ct dC : Nat → ClassId} {dI : Nat → Nat → Nat} {a0 : Nat → Nat}  {r : Int32} {n0 : Ob}   (C0 : cx wsAll vwCl nx p s m args meth c (dC, dI) (tyA ct) b_Mod_anyBroken 3 (some .int) R_Mod A [adMod a0])  : ∀ (n : Nat) (x1 : Int32) (x2 : Int32) (o0 : Ob) (H : Heap) (locs : List Loc) (ls : Array Slot), bw_P (dC, dI) vwCl [wMod ct a0 o0] H → va_S A s.heap H locs → lv_has ls 3 [(0, .ref (a0 0)), (1, .int x1), (2, .int x2)] → F_Mod_anyBroken_4 n x1 x2 o0 = some (r, n0) → W p l e (headSpec ws_Mod_anyBroken rm_Mod_anyBroken).room s m args below meth c H locs 0 0 (MQ below (bw_Q (dC, dI) vwCl (some (.int r)) [wMod ct a0 n0] A) args s 0 0 A) (F0 m 4 ls []) := by
  obtain ⟨hx, hb, hr, hml, hown, hlocks, hts, hK, hN, hA, hnx⟩ := id C0
  intro n
  induction n with
  | zero =>
    intro x1 x2 o0 H locs ls hP hS hl h
    cases h
  | succ n ih =>
    intro x1 x2 o0 H locs ls hP hS hl h
    rw [F_Mod_anyBroken_4] at h
    refine lv_iload_n hx hb d_Mod_anyBroken_4 rfl (lv_at hl 2 rfl) ?_
    refine lv_aload_n hx hb d_Mod_anyBroken_5 rfl (lv_at hl 0 rfl) ?_
    refine va_get (D := (dC, dI)) (ci := 6) (v := .ref (a0 5)) (C := R_Mod) (T := T_Mod) (N := 36) hx hb hts in_Mod hown hK (hP 0 _ rfl) 0 rfl rfl 8 (by decide) (hts _ fl_Mod_22) (fun _ h9 => h9) rfl d_Mod_anyBroken_6 ?_
    refine lv_iconst (v := 0) hx hb d_Mod_anyBroken_9 (by decide) ?_
    obtain ⟨hi1, h⟩ := chk_some h
    refine va_iald (f := g32 o0 8) hx hb hK (hP 0 _ rfl) 5 0 rfl rfl (inb_in hi1) d_Mod_anyBroken_10 ?_
    refine lv_icmp_ge (tgt := 45) hx hb d_Mod_anyBroken_11 (by decide) (fun c2 => ?_) (fun c2 => ?_)
    · have h := ite_t c2 h
      refine lv_iload_n hx hb d_Mod_anyBroken_45 rfl (lv_at hl 1 rfl) ?_
      obtain ⟨rfl, rfl⟩ := res2 h
      exact W.iret hx hb hr (fun t ht hW => ⟨rfl, by rw [ht]; exact hP, hS.F ht⟩) hS.2.2 d_Mod_anyBroken_46
    · have h := ite_f c2 h
      refine lv_aload_n hx hb d_Mod_anyBroken_14 rfl (lv_at hl 0 rfl) ?_
      refine va_get (D := (dC, dI)) (ci := 6) (v := .ref (a0 7)) (C := R_Mod) (T := T_Mod) (N := 36) hx hb hts in_Mod hown hK (hP 0 _ rfl) 0 rfl rfl 10 (by decide) (hts _ fl_Mod_28) (fun _ h9 => h9) rfl d_Mod_anyBroken_15 ?_
      refine lv_iload_n hx hb d_Mod_anyBroken_18 rfl (lv_at hl 2 rfl) ?_
      obtain ⟨hi3, h⟩ := chk_some h
      refine va_iald (f := g32 o0 10) hx hb hK (hP 0 _ rfl) 7 0 rfl rfl (inb_in hi3) d_Mod_anyBroken_19 ?_
      refine lv_if_ge (tgt := 37) hx hb d_Mod_anyBroken_20 (by decide) (fun c4 => ?_) (fun c4 => ?_)
      · have h := ite_t c4 h
        refine lv_iload_n hx hb d_Mod_anyBroken_37 rfl (lv_at hl 1 rfl) ?_
        refine lv_istore_n (lv' := [(1, .int x1), (0, .ref (a0 0)), (2, .int x2)]) hx hb d_Mod_anyBroken_38 rfl hl (by decide) rfl (fun ls hl => ?_)
        refine lv_iinc (v := (x2 + (1 : Int32))) (lv' := [(2, .int (x2 + (1 : Int32))), (1, .int x1), (0, .ref (a0 0))]) hx hb d_Mod_anyBroken_39 hl (k := 2) rfl rfl (by decide) rfl (fun ls hl => ?_)
        refine lv_goto (tgt := 4) hx hb d_Mod_anyBroken_42 (by decide) ?_
        exact ih x1 (x2 + (1 : Int32)) o0 _ _ _ hP hS (lv_sub hl [2, 1, 0] rfl) h
      · have h := ite_f c4 h
        refine lv_aload_n hx hb d_Mod_anyBroken_23 rfl (lv_at hl 0 rfl) ?_
        refine lv_iload_n hx hb d_Mod_anyBroken_24 rfl (lv_at hl 2 rfl) ?_
        obtain ⟨v6, o_7, hG5, h⟩ := bind2_some h
        refine bw_call (Lc := [wMod ct a0 o0]) (Lc' := [wMod ct a0 o_7]) (L' := [wMod ct a0 o_7]) [0] (va_runV (As := [.int x2]) (rest := []) ⟨hx, hb, hml, hown, hts⟩ (c_Mod_broken l ct dC dI a0 _ x2 o0 v6 o_7 hG5) (cwV 1 hts g_Mod_242 rfl rfl rfl (by decide +kernel) ⟨Nat.le_of_ble_eq_true rfl, Nat.le_of_ble_eq_true rfl⟩) ⟨bw_blind nx_call, va_recv hK (hP 0 _ rfl) (ci := 6) (q0 := 0) rfl rfl, fun U hU hW => ⟨rfl, by rw [hU], by rw [hU]; exact hP.sub [0] rfl, va_K.moved hW.alike hK, (hN.sub [0] (by decide) rfl).weaken (fun _ _ => trivial), nx_warm hW hnx⟩⟩ rfl rfl hl.1 rfl (Nat.le_of_ble_eq_true rfl) d_Mod_anyBroken_25 ⟨Nat.le_of_ble_eq_true rfl, Nat.le_of_ble_eq_true rfl⟩) hP hN hS hA rfl rfl rfl (fun H locs hP hS => ?_)
        refine lv_if_le (tgt := 37) hx hb d_Mod_anyBroken_28 (by decide) (fun c8 => ?_) (fun c8 => ?_)
        · have h := ite_t c8 h
          refine lv_iload_n hx hb d_Mod_anyBroken_37 rfl (lv_at hl 1 rfl) ?_
          refine lv_istore_n (lv' := [(1, .int x1), (0, .ref (a0 0)), (2, .int x2)]) hx hb d_Mod_anyBroken_38 rfl hl (by decide) rfl (fun ls hl => ?_)
          refine lv_iinc (v := (x2 + (1 : Int32))) (lv' := [(2, .int (x2 + (1 : Int32))), (1, .int x1), (0, .ref (a0 0))]) hx hb d_Mod_anyBroken_39 hl (k := 2) rfl rfl (by decide) rfl (fun ls hl => ?_)
          refine lv_goto (tgt := 4) hx hb d_Mod_anyBroken_42 (by decide) ?_
          exact ih x1 (x2 + (1 : Int32)) o_7 _ _ _ hP hS (lv_sub hl [2, 1, 0] rfl) h
        · have h := ite_f c8 h
          refine lv_iload_n hx hb d_Mod_anyBroken_31 rfl (lv_at hl 1 rfl) ?_
          refine lv_iconst (v := 1) hx hb d_Mod_anyBroken_32 (by decide) ?_
          refine lv_iadd hx hb d_Mod_anyBroken_33 ?_
          refine lv_goto (tgt := 38) hx hb d_Mod_anyBroken_34 (by decide) ?_
          refine lv_istore_n (lv' := [(1, .int (x1 + (1 : Int32))), (0, .ref (a0 0)), (2, .int x2)]) hx hb d_Mod_anyBroken_38 rfl hl (by decide) rfl (fun ls hl => ?_)
          refine lv_iinc (v := (x2 + (1 : Int32))) (lv' := [(2, .int (x2 + (1 : Int32))), (1, .int (x1 + (1 : Int32))), (0, .ref (a0 0))]) hx hb d_Mod_anyBroken_39 hl (k := 2) rfl rfl (by decide) rfl (fun ls hl => ?_)
          refine lv_goto (tgt := 4) hx hb d_Mod_anyBroken_42 (by decide) ?_
          exact ih (x1 + (1 : Int32)) (x2 + (1 : Int32)) o_7 _ _ _ hP hS (lv_sub hl [2, 1, 0] rfl) h
set_option maxHeartbeats 4000000 in
set_option maxRecDepth 100000 in
theorem c_Mod_anyBroken (l : Launch) (ct dC : Nat → ClassId) (dI : Nat → Nat → Nat) (a0 : Nat → Nat)  (sz : Nat)  (o0 : Ob) (r : Int32) (n0 : Ob) (hF : F_Mod_anyBroken o0 = some (r, n0)) : Met l y_Mod_anyBroken ws_Mod_anyBroken rm_Mod_anyBroken (bw_Pc [.ref (a0 0)] (dC, dI) vwCl (tyA ct) [wMod ct a0 o0] sz nx) (bw_Q (dC, dI) vwCl (some (.int r)) [wMod ct a0 n0] (bw_A [adMod a0] sz)) 0 0 (bw_A [adMod a0] sz) := by
  refine Met.ofW (cc := b_Mod_anyBroken) (maxL := 3) (ret := (some .int)) (by decide) rfl ?_
  intro p e s m args below meth c s₁ B hml hv
  obtain ⟨rfl, hsz, hP, hK, hN0, hnx⟩ := hv
  have hx := B.exec
  have hb := B.bytes
  have hr := B.returns
  have hts : ∀ w ∈ wsAll, w.before [.ref (a0 0)].toArray s = true := fun w h9 => atoms_spec (ws := ws_Mod_anyBroken) B.pre w (List.mem_cons_of_mem _ h9)
  have hown : s.vm.findClass R_Mod = some m.cls := findClass_of_methodNamed B.named
  have hlocks := B.notSynchronized
  subst hsz
  have hN : bw_N (bw_A [adMod a0] s.heap.size) [adMod a0] := hN0.self s.heap.size
  generalize hAe : bw_A [adMod a0] s.heap.size = A at hN ⊢
  have hA : ∀ q : Nat, s.heap.size ≤ q → A q := fun q h => by rw [← hAe]; exact Or.inr h
  have hS : va_S A s.heap s.heap [] := va_S.rf
  have hl := lv_entry ([.ref (a0 0)]) (n := 3) (Nat.le_of_ble_eq_true rfl)
  rw [lg_entry_eq]
  generalize (lg_sl ([.ref (a0 0)]) ++ List.replicate (3 - (lg_sl ([.ref (a0 0)])).length) Slot.unset).toArray = ls at hl ⊢
  have hl : lv_has ls 3 [(0, .ref (a0 0))] := hl
  have C0 : cx wsAll vwCl nx p s m [.ref (a0 0)].toArray meth c (dC, dI) (tyA ct) b_Mod_anyBroken 3 (some .int) R_Mod A [adMod a0] := ⟨hx, hb, hr, hml, hown, hlocks, hts, hK, hN, hA, hnx⟩
  have h := hF
  rw [F_Mod_anyBroken] at h
  refine lv_iconst (v := 0) hx hb d_Mod_anyBroken_0 (by decide) ?_
  refine lv_istore_n (lv' := [(1, .int (0 : Int32)), (0, .ref (a0 0))]) hx hb d_Mod_anyBroken_1 rfl hl (by decide) rfl (fun ls hl => ?_)
  refine lv_iconst (v := 0) hx hb d_Mod_anyBroken_2 (by decide) ?_
  refine lv_istore_n (lv' := [(2, .int (0 : Int32)), (1, .int (0 : Int32)), (0, .ref (a0 0))]) hx hb d_Mod_anyBroken_3 rfl hl (by decide) rfl (fun ls hl => ?_)
  exact k_Mod_anyBroken_4 C0 fuel (0 : Int32) (0 : Int32) o0 _ _ _ hP hS (lv_sub hl [2, 1, 0] rfl) h
def F_Mod_limit_38  : Nat → Int32 → Int32 → Int32 → Ob → Option (Int32 × Ob)
  | 0, _, _, _, _ => none
  | n + 1, x2, x3, x4, o0 =>
    chk (inb (0 : Int32) 2) (if (g32 o0 8 (Int32.toNatClampNeg (0 : Int32))) ≤ x4 then (if (g32 o0 0 0) ≤ 0 then (some ((-1 : Int32), o0)) else (some ((0 : Int32), o0))) else (if (g32 o0 0 0) = 0 then (chk (inb x4 50) (if 0 ≤ (g32 o0 10 (Int32.toNatClampNeg x4)) then (F_Mod_limit_38 n x2 x3 (x4 + (1 : Int32)) o0) else (bind2 (F_Mod_broken x4 o0) (fun v13 o_14 => if v13 ≤ 0 then (F_Mod_limit_38 n x2 x3 (x4 + (1 : Int32)) o_14) else (if x3 = 0 then (if x2 = 0 then (some (x4, o_14)) else (bind2 (F_Mod_broken x4 o_14) (fun v19 o_20 => some (v19, o_20)))) else (F_Mod_limit_38 n x2 (x3 + (-1 : Int32)) (x4 + (1 : Int32)) o_14)))))) else (if (g32 o0 0 0) ≤ 0 then (some ((-1 : Int32), o0)) else (some ((0 : Int32), o0)))))
def F_Mod_limit (x1 : Int32) (x2 : Int32) (o0 : Ob) : Option (Int32 × Ob) :=
  if (g32 o0 12 0) = 0 then (F_Mod_limit_38 fuel x2 x1 (0 : Int32) (s32 o0 0 0 (1 : Int32))) else (if x1 < 0 then (F_Mod_limit_38 fuel x2 x1 (0 : Int32) (s32 o0 0 0 (2 : Int32))) else (if x2 < 0 then (F_Mod_limit_38 fuel x2 x1 (0 : Int32) (s32 o0 0 0 (2 : Int32))) else (if x2 ≤ (1 : Int32) then (F_Mod_limit_38 fuel x2 x1 (0 : Int32) (s32 o0 0 0 (0 : Int32))) else (F_Mod_limit_38 fuel x2 x1 (0 : Int32) (s32 o0 0 0 (2 : Int32))))))
abbrev ws_Mod_limit : List Cond := Cond.code y_Mod_limit b_Mod_limit 5 (some .int) :: wsAll
abbrev rm_Mod_limit : Room := { frames := 5, cells := 0, slots := 0, locals := 136 }
set_option maxHeartbeats 4000000 in
set_option maxRecDepth 100000 in
theorem k_Mod_limit_38 {p : Program} {l : Launch} {e : Env} {s : State} {m : MethodId} {args : Array Value} {below : List Frame} {meth : Method} {c : Code} {A : Nat → Prop} {ct dC : Nat → ClassId} {dI : Nat → Nat → Nat} {a0 : Nat → Nat}  {r : Int32} {n0 : Ob}   (C0 : cx wsAll vwCl nx p s m args meth c (dC, dI) (tyA ct) b_Mod_limit 5 (some .int) R_Mod A [adMod a0])  : ∀ (n : Nat) (x2 : Int32) (x3 : Int32) (x4 : Int32) (o0 : Ob) (H : Heap) (locs : List Loc) (ls : Array Slot), bw_P (dC, dI) vwCl [wMod ct a0 o0] H → va_S A s.heap H locs → lv_has ls 5 [(0, .ref (a0 0)), (2, .int x2), (3, .int x3), (4, .int x4)] → F_Mod_limit_38 n x2 x3 x4 o0 = some (r, n0) → W p l e (headSpec ws_Mod_limit rm_Mod_limit).room s m args below meth c H locs 0 0 (MQ below (bw_Q (dC, dI) vwCl (some (.int r)) [wMod ct a0 n0] A) args s 0 0 A) (F0 m 38 ls []) := by
  obtain ⟨hx, hb, hr, hml, hown, hlocks, hts, hK, hN, hA, hnx⟩ := id C0
  intro n
  induction n with
  | zero =>
    intro x2 x3 x4 o0 H locs ls hP hS hl h
    cases h
  | succ n ih =>
    intro x2 x3 x4 o0 H locs ls hP hS hl h
    rw [F_Mod_limit_38] at h
    refine lv_iload hx hb d_Mod_limit_38 (lv_at hl 3 rfl) ?_
    refine lv_aload_n hx hb d_Mod_limit_40 rfl (lv_at hl 0 rfl) ?_
    refine va_get (D := (dC, dI)) (ci := 6) (v := .ref (a0 5)) (C := R_Mod) (T := T_Mod) (N := 36) hx hb hts in_Mod hown hK (hP 0 _ rfl) 0 rfl rfl 8 (by decide) (hts _ fl_Mod_22) (fun _ h9 => h9) rfl d_Mod_limit_41 ?_
    refine lv_iconst (v := 0) hx hb d_Mod_limit_44 (by decide) ?_
    obtain ⟨hi5, h⟩ := chk_some h
    refine va_iald (f := g32 o0 8) hx hb hK (hP 0 _ rfl) 5 0 rfl rfl (inb_in hi5) d_Mod_limit_45 ?_
    refine lv_icmp_ge (tgt := 104) hx hb d_Mod_limit_46 (by decide) (fun c6 => ?_) (fun c6 => ?_)
    · have h := ite_t c6 h
      refine lv_aload_n hx hb d_Mod_limit_104 rfl (lv_at hl 0 rfl) ?_
      refine va_get (D := (dC, dI)) (ci := 6) (v := .int (g32 o0 0 0)) (C := R_Mod) (T := T_Mod) (N := 36) hx hb hts in_Mod hown hK (hP 0 _ rfl) 0 rfl rfl 0 (by decide) (hts _ fl_Mod_84) (fun _ h9 => h9) rfl d_Mod_limit_105 ?_
      refine lv_if_le (tgt := 115) hx hb d_Mod_limit_108 (by decide) (fun c7 => ?_) (fun c7 => ?_)
      · have h := ite_t c7 h
        refine lv_iconst (v := -1) hx hb d_Mod_limit_115 (by decide) ?_
        obtain ⟨rfl, rfl⟩ := res2 h
        exact W.iret hx hb hr (fun t ht hW => ⟨rfl, by rw [ht]; exact hP, hS.F ht⟩) hS.2.2 d_Mod_limit_116
      · have h := ite_f c7 h
        refine lv_iconst (v := 0) hx hb d_Mod_limit_111 (by decide) ?_
        refine lv_goto (tgt := 116) hx hb d_Mod_limit_112 (by decide) ?_
        obtain ⟨rfl, rfl⟩ := res2 h
        exact W.iret hx hb hr (fun t ht hW => ⟨rfl, by rw [ht]; exact hP, hS.F ht⟩) hS.2.2 d_Mod_limit_116
    · have h := ite_f c6 h
      refine lv_aload_n hx hb d_Mod_limit_49 rfl (lv_at hl 0 rfl) ?_
      refine va_get (D := (dC, dI)) (ci := 6) (v := .int (g32 o0 0 0)) (C := R_Mod) (T := T_Mod) (N := 36) hx hb hts in_Mod hown hK (hP 0 _ rfl) 0 rfl rfl 0 (by decide) (hts _ fl_Mod_84) (fun _ h9 => h9) rfl d_Mod_limit_50 ?_
      refine lv_if_ne (tgt := 104) hx hb d_Mod_limit_53 (by decide) (fun c8 => ?_) (fun c8 => ?_)
      · have h := ite_f c8 h
        refine lv_aload_n hx hb d_Mod_limit_104 rfl (lv_at hl 0 rfl) ?_
        refine va_get (D := (dC, dI)) (ci := 6) (v := .int (g32 o0 0 0)) (C := R_Mod) (T := T_Mod) (N := 36) hx hb hts in_Mod hown hK (hP 0 _ rfl) 0 rfl rfl 0 (by decide) (hts _ fl_Mod_84) (fun _ h9 => h9) rfl d_Mod_limit_105 ?_
        refine lv_if_le (tgt := 115) hx hb d_Mod_limit_108 (by decide) (fun c9 => ?_) (fun c9 => ?_)
        · have h := ite_t c9 h
          refine lv_iconst (v := -1) hx hb d_Mod_limit_115 (by decide) ?_
          obtain ⟨rfl, rfl⟩ := res2 h
          exact W.iret hx hb hr (fun t ht hW => ⟨rfl, by rw [ht]; exact hP, hS.F ht⟩) hS.2.2 d_Mod_limit_116
        · have h := ite_f c9 h
          refine lv_iconst (v := 0) hx hb d_Mod_limit_111 (by decide) ?_
          refine lv_goto (tgt := 116) hx hb d_Mod_limit_112 (by decide) ?_
          obtain ⟨rfl, rfl⟩ := res2 h
          exact W.iret hx hb hr (fun t ht hW => ⟨rfl, by rw [ht]; exact hP, hS.F ht⟩) hS.2.2 d_Mod_limit_116
      · have h := ite_t c8 h
        refine lv_aload_n hx hb d_Mod_limit_56 rfl (lv_at hl 0 rfl) ?_
        refine va_get (D := (dC, dI)) (ci := 6) (v := .ref (a0 7)) (C := R_Mod) (T := T_Mod) (N := 36) hx hb hts in_Mod hown hK (hP 0 _ rfl) 0 rfl rfl 10 (by decide) (hts _ fl_Mod_28) (fun _ h9 => h9) rfl d_Mod_limit_57 ?_
        refine lv_iload hx hb d_Mod_limit_60 (lv_at hl 3 rfl) ?_
        obtain ⟨hi10, h⟩ := chk_some h
        refine va_iald (f := g32 o0 10) hx hb hK (hP 0 _ rfl) 7 0 rfl rfl (inb_in hi10) d_Mod_limit_62 ?_
        refine lv_if_ge (tgt := 98) hx hb d_Mod_limit_63 (by decide) (fun c11 => ?_) (fun c11 => ?_)
        · have h := ite_t c11 h
          refine lv_iinc (v := (x4 + (1 : Int32))) (lv' := [(4, .int (x4 + (1 : Int32))), (0, .ref (a0 0)), (2, .int x2), (3, .int x3)]) hx hb d_Mod_limit_98 hl (k := 3) rfl rfl (by decide) rfl (fun ls hl => ?_)
          refine lv_goto (tgt := 38) hx hb d_Mod_limit_101 (by decide) ?_
          exact ih x2 x3 (x4 + (1 : Int32)) o0 _ _ _ hP hS (lv_sub hl [1, 2, 3, 0] rfl) h
        · have h := ite_f c11 h
          refine lv_aload_n hx hb d_Mod_limit_66 rfl (lv_at hl 0 rfl) ?_
          refine lv_iload hx hb d_Mod_limit_67 (lv_at hl 3 rfl) ?_
          obtain ⟨v13, o_14, hG12, h⟩ := bind2_some h
          refine bw_call (Lc := [wMod ct a0 o0]) (Lc' := [wMod ct a0 o_14]) (L' := [wMod ct a0 o_14]) [0] (va_runV (As := [.int x4]) (rest := []) ⟨hx, hb, hml, hown, hts⟩ (c_Mod_broken l ct dC dI a0 _ x4 o0 v13 o_14 hG12) (cwV 1 hts g_Mod_242 rfl rfl rfl (by decide +kernel) ⟨Nat.le_of_ble_eq_true rfl, Nat.le_of_ble_eq_true rfl⟩) ⟨bw_blind nx_call, va_recv hK (hP 0 _ rfl) (ci := 6) (q0 := 0) rfl rfl, fun U hU hW => ⟨rfl, by rw [hU], by rw [hU]; exact hP.sub [0] rfl, va_K.moved hW.alike hK, (hN.sub [0] (by decide) rfl).weaken (fun _ _ => trivial), nx_warm hW hnx⟩⟩ rfl rfl hl.1 rfl (Nat.le_of_ble_eq_true rfl) d_Mod_limit_69 ⟨Nat.le_of_ble_eq_true rfl, Nat.le_of_ble_eq_true rfl⟩) hP hN hS hA rfl rfl rfl (fun H locs hP hS => ?_)
          refine lv_if_le (tgt := 98) hx hb d_Mod_limit_72 (by decide) (fun c15 => ?_) (fun c15 => ?_)
          · have h := ite_t c15 h
            refine lv_iinc (v := (x4 + (1 : Int32))) (lv' := [(4, .int (x4 + (1 : Int32))), (0, .ref (a0 0)), (2, .int x2), (3, .int x3)]) hx hb d_Mod_limit_98 hl (k := 3) rfl rfl (by decide) rfl (fun ls hl => ?_)
            refine lv_goto (tgt := 38) hx hb d_Mod_limit_101 (by decide) ?_
            exact ih x2 x3 (x4 + (1 : Int32)) o_14 _ _ _ hP hS (lv_sub hl [1, 2, 3, 0] rfl) h
          · have h := ite_f c15 h
            refine lv_iload_n hx hb d_Mod_limit_75 rfl (lv_at hl 2 rfl) ?_
            refine lv_if_ne (tgt := 95) hx hb d_Mod_limit_76 (by decide) (fun c16 => ?_) (fun c16 => ?_)
            · have h := ite_f c16 h
              refine lv_iinc (v := (x3 + (-1 : Int32))) (lv' := [(3, .int (x3 + (-1 : Int32))), (0, .ref (a0 0)), (2, .int x2), (4, .int x4)]) hx hb d_Mod_limit_95 hl (k := 2) rfl rfl (by decide) rfl (fun ls hl => ?_)
              refine lv_iinc (v := (x4 + (1 : Int32))) (lv' := [(4, .int (x4 + (1 : Int32))), (3, .int (x3 + (-1 : Int32))), (0, .ref (a0 0)), (2, .int x2)]) hx hb d_Mod_limit_98 hl (k := 3) rfl rfl (by decide) rfl (fun ls hl => ?_)
              refine lv_goto (tgt := 38) hx hb d_Mod_limit_101 (by decide) ?_
              exact ih x2 (x3 + (-1 : Int32)) (x4 + (1 : Int32)) o_14 _ _ _ hP hS (lv_sub hl [2, 3, 1, 0] rfl) h
            · have h := ite_t c16 h
              refine lv_iload_n hx hb d_Mod_limit_79 rfl (lv_at hl 1 rfl) ?_
              refine lv_if_ne (tgt := 88) hx hb d_Mod_limit_80 (by decide) (fun c17 => ?_) (fun c17 => ?_)
              · have h := ite_f c17 h
                refine lv_aload_n hx hb d_Mod_limit_88 rfl (lv_at hl 0 rfl) ?_
                refine lv_iload hx hb d_Mod_limit_89 (lv_at hl 3 rfl) ?_
                obtain ⟨v19, o_20, hG18, h⟩ := bind2_some h
                refine bw_call (Lc := [wMod ct a0 o_14]) (Lc' := [wMod ct a0 o_20]) (L' := [wMod ct a0 o_20]) [0] (va_runV (As := [.int x4]) (rest := []) ⟨hx, hb, hml, hown, hts⟩ (c_Mod_broken l ct dC dI a0 _ x4 o_14 v19 o_20 hG18) (cwV 1 hts g_Mod_242 rfl rfl rfl (by decide +kernel) ⟨Nat.le_of_ble_eq_true rfl, Nat.le_of_ble_eq_true rfl⟩) ⟨bw_blind nx_call, va_recv hK (hP 0 _ rfl) (ci := 6) (q0 := 0) rfl rfl, fun U hU hW => ⟨rfl, by rw [hU], by rw [hU]; exact hP.sub [0] rfl, va_K.moved hW.alike hK, (hN.sub [0] (by decide) rfl).weaken (fun _ _ => trivial), nx_warm hW hnx⟩⟩ rfl rfl hl.1 rfl (Nat.le_of_ble_eq_true rfl) d_Mod_limit_91 ⟨Nat.le_of_ble_eq_true rfl, Nat.le_of_ble_eq_true rfl⟩) hP hN hS hA rfl rfl rfl (fun H locs hP hS => ?_)
                obtain ⟨rfl, rfl⟩ := res2 h
                exact W.iret hx hb hr (fun t ht hW => ⟨rfl, by rw [ht]; exact hP, hS.F ht⟩) hS.2.2 d_Mod_limit_94
              · have h := ite_t c17 h
                refine lv_iload hx hb d_Mod_limit_83 (lv_at hl 3 rfl) ?_
                refine lv_goto (tgt := 94) hx hb d_Mod_limit_85 (by decide) ?_
                obtain ⟨rfl, rfl⟩ := res2 h
                exact W.iret hx hb hr (fun t ht hW => ⟨rfl, by rw [ht]; exact hP, hS.F ht⟩) hS.2.2 d_Mod_limit_94
set_option maxHeartbeats 4000000 in
set_option maxRecDepth 100000 in
theorem c_Mod_limit (l : Launch) (ct dC : Nat → ClassId) (dI : Nat → Nat → Nat) (a0 : Nat → Nat)  (sz : Nat) (x1 : Int32) (x2 : Int32) (o0 : Ob) (r : Int32) (n0 : Ob) (hF : F_Mod_limit x1 x2 o0 = some (r, n0)) : Met l y_Mod_limit ws_Mod_limit rm_Mod_limit (bw_Pc [.ref (a0 0), .int x1, .int x2] (dC, dI) vwCl (tyA ct) [wMod ct a0 o0] sz nx) (bw_Q (dC, dI) vwCl (some (.int r)) [wMod ct a0 n0] (bw_A [adMod a0] sz)) 0 0 (bw_A [adMod a0] sz) := by
  refine Met.ofW (cc := b_Mod_limit) (maxL := 5) (ret := (some .int)) (by decide) rfl ?_
  intro p e s m args below meth c s₁ B hml hv
  obtain ⟨rfl, hsz, hP, hK, hN0, hnx⟩ := hv
  have hx := B.exec
  have hb := B.bytes
  have hr := B.returns
  have hts : ∀ w ∈ wsAll, w.before [.ref (a0 0), .int x1, .int x2].toArray s = true := fun w h9 => atoms_spec (ws := ws_Mod_limit) B.pre w (List.mem_cons_of_mem _ h9)
  have hown : s.vm.findClass R_Mod = some m.cls := findClass_of_methodNamed B.named
  have hlocks := B.notSynchronized
  subst hsz
  have hN : bw_N (bw_A [adMod a0] s.heap.size) [adMod a0] := hN0.self s.heap.size
  generalize hAe : bw_A [adMod a0] s.heap.size = A at hN ⊢
  have hA : ∀ q : Nat, s.heap.size ≤ q → A q := fun q h => by rw [← hAe]; exact Or.inr h
  have hS : va_S A s.heap s.heap [] := va_S.rf
  have hl := lv_entry ([.ref (a0 0), .int x1, .int x2]) (n := 5) (Nat.le_of_ble_eq_true rfl)
  rw [lg_entry_eq]
  generalize (lg_sl ([.ref (a0 0), .int x1, .int x2]) ++ List.replicate (5 - (lg_sl ([.ref (a0 0), .int x1, .int x2])).length) Slot.unset).toArray = ls at hl ⊢
  have hl : lv_has ls 5 [(0, .ref (a0 0)), (1, .int x1), (2, .int x2)] := hl
  have C0 : cx wsAll vwCl nx p s m [.ref (a0 0), .int x1, .int x2].toArray meth c (dC, dI) (tyA ct) b_Mod_limit 5 (some .int) R_Mod A [adMod a0] := ⟨hx, hb, hr, hml, hown, hlocks, hts, hK, hN, hA, hnx⟩
  have h := hF
  rw [F_Mod_limit] at h
  refine lv_aload_n hx hb d_Mod_limit_0 rfl (lv_at hl 0 rfl) ?_
  refine lv_aload_n hx hb d_Mod_limit_1 rfl (lv_at hl 0 rfl) ?_
  refine va_get (D := (dC, dI)) (ci := 6) (v := .int (g32 o0 12 0)) (C := R_Mod) (T := T_Mod) (N := 36) hx hb hts in_Mod hown hK (hP 0 _ rfl) 0 rfl rfl 12 (by decide) (hts _ fl_Mod_170) (fun _ h9 => h9) rfl d_Mod_limit_2 ?_
  refine lv_if_ne (tgt := 12) hx hb d_Mod_limit_5 (by decide) (fun c1 => ?_) (fun c1 => ?_)
  · have h := ite_f c1 h
    refine lv_iload_n hx hb d_Mod_limit_12 rfl (lv_at hl 1 rfl) ?_
    refine lv_if_lt (tgt := 25) hx hb d_Mod_limit_13 (by decide) (fun c2 => ?_) (fun c2 => ?_)
    · have h := ite_t c2 h
      refine lv_iconst (v := 2) hx hb d_Mod_limit_25 (by decide) ?_
      refine lv_goto (tgt := 30) hx hb d_Mod_limit_26 (by decide) ?_
      refine pt_Mod_0 hx hb hts hown hK hP hN hS 0 rfl (hts _ fl_Mod_84) d_Mod_limit_30 (fun H locs hP hS => ?_)
      have hP : bw_P (dC, dI) vwCl [wMod ct a0 (s32 o0 0 0 (2 : Int32))] H := hP
      refine lv_iload_n hx hb d_Mod_limit_33 rfl (lv_at hl 1 rfl) ?_
      refine lv_istore_n (lv' := [(3, .int x1), (0, .ref (a0 0)), (1, .int x1), (2, .int x2)]) hx hb d_Mod_limit_34 rfl hl (by decide) rfl (fun ls hl => ?_)
      refine lv_iconst (v := 0) hx hb d_Mod_limit_35 (by decide) ?_
      refine lv_istore (lv' := [(4, .int (0 : Int32)), (3, .int x1), (0, .ref (a0 0)), (1, .int x1), (2, .int x2)]) hx hb d_Mod_limit_36 hl (by decide) rfl (fun ls hl => ?_)
      exact k_Mod_limit_38 C0 fuel x2 x1 (0 : Int32) (s32 o0 0 0 (2 : Int32)) _ _ _ hP hS (lv_sub hl [2, 4, 1, 0] rfl) h
    · have h := ite_f c2 h
      refine lv_iload_n hx hb d_Mod_limit_16 rfl (lv_at hl 2 rfl) ?_
      refine lv_if_lt (tgt := 25) hx hb d_Mod_limit_17 (by decide) (fun c3 => ?_) (fun c3 => ?_)
      · have h := ite_t c3 h
        refine lv_iconst (v := 2) hx hb d_Mod_limit_25 (by decide) ?_
        refine lv_goto (tgt := 30) hx hb d_Mod_limit_26 (by decide) ?_
        refine pt_Mod_0 hx hb hts hown hK hP hN hS 0 rfl (hts _ fl_Mod_84) d_Mod_limit_30 (fun H locs hP hS => ?_)
        have hP : bw_P (dC, dI) vwCl [wMod ct a0 (s32 o0 0 0 (2 : Int32))] H := hP
        refine lv_iload_n hx hb d_Mod_limit_33 rfl (lv_at hl 1 rfl) ?_
        refine lv_istore_n (lv' := [(3, .int x1), (0, .ref (a0 0)), (1, .int x1), (2, .int x2)]) hx hb d_Mod_limit_34 rfl hl (by decide) rfl (fun ls hl => ?_)
        refine lv_iconst (v := 0) hx hb d_Mod_limit_35 (by decide) ?_
        refine lv_istore (lv' := [(4, .int (0 : Int32)), (3, .int x1), (0, .ref (a0 0)), (1, .int x1), (2, .int x2)]) hx hb d_Mod_limit_36 hl (by decide) rfl (fun ls hl => ?_)
        exact k_Mod_limit_38 C0 fuel x2 x1 (0 : Int32) (s32 o0 0 0 (2 : Int32)) _ _ _ hP hS (lv_sub hl [2, 4, 1, 0] rfl) h
      · have h := ite_f c3 h
        refine lv_iload_n hx hb d_Mod_limit_20 rfl (lv_at hl 2 rfl) ?_
        refine lv_iconst (v := 1) hx hb d_Mod_limit_21 (by decide) ?_
        refine lv_icmp_le (tgt := 29) hx hb d_Mod_limit_22 (by decide) (fun c4 => ?_) (fun c4 => ?_)
        · have h := ite_t c4 h
          refine lv_iconst (v := 0) hx hb d_Mod_limit_29 (by decide) ?_
          refine pt_Mod_0 hx hb hts hown hK hP hN hS 0 rfl (hts _ fl_Mod_84) d_Mod_limit_30 (fun H locs hP hS => ?_)
          have hP : bw_P (dC, dI) vwCl [wMod ct a0 (s32 o0 0 0 (0 : Int32))] H := hP
          refine lv_iload_n hx hb d_Mod_limit_33 rfl (lv_at hl 1 rfl) ?_
          refine lv_istore_n (lv' := [(3, .int x1), (0, .ref (a0 0)), (1, .int x1), (2, .int x2)]) hx hb d_Mod_limit_34 rfl hl (by decide) rfl (fun ls hl => ?_)
          refine lv_iconst (v := 0) hx hb d_Mod_limit_35 (by decide) ?_
          refine lv_istore (lv' := [(4, .int (0 : Int32)), (3, .int x1), (0, .ref (a0 0)), (1, .int x1), (2, .int x2)]) hx hb d_Mod_limit_36 hl (by decide) rfl (fun ls hl => ?_)
          exact k_Mod_limit_38 C0 fuel x2 x1 (0 : Int32) (s32 o0 0 0 (0 : Int32)) _ _ _ hP hS (lv_sub hl [2, 4, 1, 0] rfl) h
        · have h := ite_f c4 h
          refine lv_iconst (v := 2) hx hb d_Mod_limit_25 (by decide) ?_
          refine lv_goto (tgt := 30) hx hb d_Mod_limit_26 (by decide) ?_
          refine pt_Mod_0 hx hb hts hown hK hP hN hS 0 rfl (hts _ fl_Mod_84) d_Mod_limit_30 (fun H locs hP hS => ?_)
          have hP : bw_P (dC, dI) vwCl [wMod ct a0 (s32 o0 0 0 (2 : Int32))] H := hP
          refine lv_iload_n hx hb d_Mod_limit_33 rfl (lv_at hl 1 rfl) ?_
          refine lv_istore_n (lv' := [(3, .int x1), (0, .ref (a0 0)), (1, .int x1), (2, .int x2)]) hx hb d_Mod_limit_34 rfl hl (by decide) rfl (fun ls hl => ?_)
          refine lv_iconst (v := 0) hx hb d_Mod_limit_35 (by decide) ?_
          refine lv_istore (lv' := [(4, .int (0 : Int32)), (3, .int x1), (0, .ref (a0 0)), (1, .int x1), (2, .int x2)]) hx hb d_Mod_limit_36 hl (by decide) rfl (fun ls hl => ?_)
          exact k_Mod_limit_38 C0 fuel x2 x1 (0 : Int32) (s32 o0 0 0 (2 : Int32)) _ _ _ hP hS (lv_sub hl [2, 4, 1, 0] rfl) h
  · have h := ite_t c1 h
    refine lv_iconst (v := 1) hx hb d_Mod_limit_8 (by decide) ?_
    refine lv_goto (tgt := 30) hx hb d_Mod_limit_9 (by decide) ?_
    refine pt_Mod_0 hx hb hts hown hK hP hN hS 0 rfl (hts _ fl_Mod_84) d_Mod_limit_30 (fun H locs hP hS => ?_)
    have hP : bw_P (dC, dI) vwCl [wMod ct a0 (s32 o0 0 0 (1 : Int32))] H := hP
    refine lv_iload_n hx hb d_Mod_limit_33 rfl (lv_at hl 1 rfl) ?_
    refine lv_istore_n (lv' := [(3, .int x1), (0, .ref (a0 0)), (1, .int x1), (2, .int x2)]) hx hb d_Mod_limit_34 rfl hl (by decide) rfl (fun ls hl => ?_)
    refine lv_iconst (v := 0) hx hb d_Mod_limit_35 (by decide) ?_
    refine lv_istore (lv' := [(4, .int (0 : Int32)), (3, .int x1), (0, .ref (a0 0)), (1, .int x1), (2, .int x2)]) hx hb d_Mod_limit_36 hl (by decide) rfl (fun ls hl => ?_)
    exact k_Mod_limit_38 C0 fuel x2 x1 (0 : Int32) (s32 o0 0 0 (1 : Int32)) _ _ _ hP hS (lv_sub hl [2, 4, 1, 0] rfl) h
theorem g_Mod_245 : GoodIn wsAll (wsV R_Mod 245 R_Mod y_Mod_anyBroken ws_Mod_anyBroken) := gd_V ml_Mod_245 im_Mod_anyBroken se_Mod_anyBroken ini_Mod cd_Mod_anyBroken
def F_Mod_check_139 (k63 : Int32 → Int64 → Int64 → Int32 → Int32 → Int32 → Ob → Option (Int32 × Ob)) (x1 : Int32) (x2 : Int64) (x4 : Int64) (x8 : Int32) (y0 : Int32) (o0 : Ob) : Option (Int32 × Ob) :=
  if y0 = (-1 : Int32) then (k63 x1 x2 x4 y0 (1 : Int32) (x8 + (1 : Int32)) o0) else (k63 x1 x2 x4 y0 (0 : Int32) (x8 + (1 : Int32)) o0)
def F_Mod_check_107 (k63 : Int32 → Int64 → Int64 → Int32 → Int32 → Int32 → Ob → Option (Int32 × Ob)) (x1 : Int32) (x2 : Int64) (x4 : Int64) (x6 : Int32) (x8 : Int32) (x9 : Int64) (y0 : Int32) (o0 : Ob) : Option (Int32 × Ob) :=
  if y0 = 0 then (k63 x1 x2 x4 x6 y0 (x8 + (1 : Int32)) o0) else (chk (inb (0 : Int32) 8) (bind1 (F_Mod_work (s64 o0 15 (Int32.toNatClampNeg (0 : Int32)) x9)) (fun o_22 => bind2 (F_Mod_anyBroken o_22) (fun v24 o_25 => if v24 ≤ 0 then (F_Mod_check_139 k63 x1 x2 x4 x8 (-1 : Int32) o_25) else (F_Mod_check_139 k63 x1 x2 x4 x8 x8 o_25)))))
def F_Mod_check_63  : Nat → Int32 → Int64 → Int64 → Int32 → Int32 → Int32 → Ob → Option (Int32 × Ob)
  | 0, _, _, _, _, _, _, _ => none
  | n + 1, x1, x2, x4, x6, x7, x8, o0 =>
    if x1 < x8 then (chk (inb (0 : Int32) 8) (bind1 (F_Mod_work (s64 (s64 o0 15 (Int32.toNatClampNeg (0 : Int32)) x2) 16 (Int32.toNatClampNeg (0 : Int32)) x4)) (fun o_11 => some (x6, o_11)))) else (if x7 = 0 then (chk (inb (0 : Int32) 8) (bind1 (F_Mod_work (s64 (s64 o0 15 (Int32.toNatClampNeg (0 : Int32)) x2) 16 (Int32.toNatClampNeg (0 : Int32)) x4)) (fun o_16 => some (x6, o_16)))) else (if 0 < (lg_cmp (x2 + ((Int32.toInt64 x8) * x4)) (1000000000 : Int64)) then (F_Mod_check_107 (F_Mod_check_63 n) x1 x2 x4 x6 x8 (x2 + ((Int32.toInt64 x8) * x4)) (0 : Int32) o0) else (if (lg_cmp (x2 + ((Int32.toInt64 x8) * x4)) (-1000000000 : Int64)) < 0 then (F_Mod_check_107 (F_Mod_check_63 n) x1 x2 x4 x6 x8 (x2 + ((Int32.toInt64 x8) * x4)) (0 : Int32) o0) else (F_Mod_check_107 (F_Mod_check_63 n) x1 x2 x4 x6 x8 (x2 + ((Int32.toInt64 x8) * x4)) (1 : Int32) o0))))
def F_Mod_check_27  (x1 : Int32) (y1 : Int32) (o0 : Ob) : Option (Int32 × Ob) :=
  if y1 ≤ 0 then (chk (inb (0 : Int32) 8) (F_Mod_check_63 fuel x1 (g64 o0 15 (Int32.toNatClampNeg (0 : Int32))) (g64 o0 16 (Int32.toNatClampNeg (0 : Int32))) (-1 : Int32) (1 : Int32) (0 : Int32) (s32 o0 0 0 y1))) else (some ((0 : Int32), (s32 o0 0 0 y1)))
def F_Mod_check (x1 : Int32) (o0 : Ob) : Option (Int32 × Ob) :=
  if (g32 o0 12 0) = 0 then (F_Mod_check_27 x1 (1 : Int32) o0) else (if x1 < 0 then (F_Mod_check_27 x1 (2 : Int32) o0) else (if x1 ≤ (50 : Int32) then (F_Mod_check_27 x1 (0 : Int32) o0) else (F_Mod_check_27 x1 (2 : Int32) o0)))
abbrev ws_Mod_check : List Cond := Cond.code y_Mod_check b_Mod_check 11 (some .int) :: wsAll
abbrev rm_Mod_check : Room := { frames := 6, cells := 0, slots := 0, locals := 162 }
set_option maxHeartbeats 4000000 in
set_option maxRecDepth 100000 in
theorem k_Mod_check_139 {p : Program} {l : Launch} {e : Env} {s : State} {m : MethodId} {args : Array Value} {below : List Frame} {meth : Method} {c : Code} {A : Nat → Prop} {ct dC : Nat → ClassId} {dI : Nat → Nat → Nat} {a0 : Nat → Nat}  {r : Int32} {n0 : Ob}  {k63 : Int32 → Int64 → Int64 → Int32 → Int32 → Int32 → Ob → Option (Int32 × Ob)} (C0 : cx wsAll vwCl nx p s m args meth c (dC, dI) (tyA ct) b_Mod_check 11 (some .int) R_Mod A [adMod a0]) (hk63 : ∀ (x1 : Int32) (x2 : Int64) (x4 : Int64) (x6 : Int32) (x7 : Int32) (x8 : Int32) (o0 : Ob) (H : Heap) (locs : List Loc) (ls : Array Slot), bw_P (dC, dI) vwCl [wMod ct a0 o0] H → va_S A s.heap H locs → lv_has ls 11 [(0, .ref (a0 0)), (1, .int x1), (2, .long x2), (4, .long x4), (6, .int x6), (7, .int x7), (8, .int x8)] → k63 x1 x2 x4 x6 x7 x8 o0 = some (r, n0) → W p l e (headSpec ws_Mod_check rm_Mod_check).room s m args below meth c H locs 0 0 (MQ below (bw_Q (dC, dI) vwCl (some (.int r)) [wMod ct a0 n0] A) args s 0 0 A) (F0 m 63 ls [])) : ∀ (x1 : Int32) (x2 : Int64) (x4 : Int64) (x8 : Int32) (y0 : Int32) (o0 : Ob) (H : Heap) (locs : List Loc) (ls : Array Slot), bw_P (dC, dI) vwCl [wMod ct a0 o0] H → va_S A s.heap H locs → lv_has ls 11 [(0, .ref (a0 0)), (1, .int x1), (2, .long x2), (4, .long x4), (8, .int x8)] → F_Mod_check_139 k63 x1 x2 x4 x8 y0 o0 = some (r, n0) → W p l e (headSpec ws_Mod_check rm_Mod_check).room s m args below meth c H locs 0 0 (MQ below (bw_Q (dC, dI) vwCl (some (.int r)) [wMod ct a0 n0] A) args s 0 0 A) (F0 m 139 ls [.int y0]) := by
  obtain ⟨hx, hb, hr, hml, hown, hlocks, hts, hK, hN, hA, hnx⟩ := id C0
  intro x1 x2 x4 x8 y0 o0 H locs ls hP hS hl h
  rw [F_Mod_check_139] at h
  refine lv_istore (lv' := [(6, .int y0), (0, .ref (a0 0)), (1, .int x1), (2, .long x2), (4, .long x4), (8, .int x8)]) hx hb d_Mod_check_139 hl (by decide) rfl (fun ls hl => ?_)
  refine lv_iload hx hb d_Mod_check_141 (lv_at hl 0 rfl) ?_
  refine lv_iconst (v := -1) hx hb d_Mod_check_143 (by decide) ?_
  refine lv_icmp_ne (tgt := 151) hx hb d_Mod_check_144 (by decide) (fun c27 => ?_) (fun c27 => ?_)
  · have h := ite_f c27 h
    refine lv_iconst (v := 0) hx hb d_Mod_check_151 (by decide) ?_
    refine lv_istore (lv' := [(7, .int (0 : Int32)), (6, .int y0), (0, .ref (a0 0)), (1, .int x1), (2, .long x2), (4, .long x4), (8, .int x8)]) hx hb d_Mod_check_152 hl (by decide) rfl (fun ls hl => ?_)
    refine lv_iinc (v := (x8 + (1 : Int32))) (lv' := [(8, .int (x8 + (1 : Int32))), (7, .int (0 : Int32)), (6, .int y0), (0, .ref (a0 0)), (1, .int x1), (2, .long x2), (4, .long x4)]) hx hb d_Mod_check_154 hl (k := 6) rfl rfl (by decide) rfl (fun ls hl => ?_)
    refine lv_goto (tgt := 63) hx hb d_Mod_check_157 (by decide) ?_
    exact hk63 x1 x2 x4 y0 (0 : Int32) (x8 + (1 : Int32)) o0 _ _ _ hP hS (lv_sub hl [3, 4, 5, 6, 2, 1, 0] rfl) h
  · have h := ite_t c27 h
    refine lv_iconst (v := 1) hx hb d_Mod_check_147 (by decide) ?_
    refine lv_goto (tgt := 152) hx hb d_Mod_check_148 (by decide) ?_
    refine lv_istore (lv' := [(7, .int (1 : Int32)), (6, .int y0), (0, .ref (a0 0)), (1, .int x1), (2, .long x2), (4, .long x4), (8, .int x8)]) hx hb d_Mod_check_152 hl (by decide) rfl (fun ls hl => ?_)
    refine lv_iinc (v := (x8 + (1 : Int32))) (lv' := [(8, .int (x8 + (1 : Int32))), (7, .int (1 : Int32)), (6, .int y0), (0, .ref (a0 0)), (1, .int x1), (2, .long x2), (4, .long x4)]) hx hb d_Mod_check_154 hl (k := 6) rfl rfl (by decide) rfl (fun ls hl => ?_)
    refine lv_goto (tgt := 63) hx hb d_Mod_check_157 (by decide) ?_
    exact hk63 x1 x2 x4 y0 (1 : Int32) (x8 + (1 : Int32)) o0 _ _ _ hP hS (lv_sub hl [3, 4, 5, 6, 2, 1, 0] rfl) h
set_option maxHeartbeats 4000000 in
set_option maxRecDepth 100000 in
theorem k_Mod_check_107 {p : Program} {l : Launch} {e : Env} {s : State} {m : MethodId} {args : Array Value} {below : List Frame} {meth : Method} {c : Code} {A : Nat → Prop} {ct dC : Nat → ClassId} {dI : Nat → Nat → Nat} {a0 : Nat → Nat}  {r : Int32} {n0 : Ob}  {k63 : Int32 → Int64 → Int64 → Int32 → Int32 → Int32 → Ob → Option (Int32 × Ob)} (C0 : cx wsAll vwCl nx p s m args meth c (dC, dI) (tyA ct) b_Mod_check 11 (some .int) R_Mod A [adMod a0]) (hk63 : ∀ (x1 : Int32) (x2 : Int64) (x4 : Int64) (x6 : Int32) (x7 : Int32) (x8 : Int32) (o0 : Ob) (H : Heap) (locs : List Loc) (ls : Array Slot), bw_P (dC, dI) vwCl [wMod ct a0 o0] H → va_S A s.heap H locs → lv_has ls 11 [(0, .ref (a0 0)), (1, .int x1), (2, .long x2), (4, .long x4), (6, .int x6), (7, .int x7), (8, .int x8)] → k63 x1 x2 x4 x6 x7 x8 o0 = some (r, n0) → W p l e (headSpec ws_Mod_check rm_Mod_check).room s m args below meth c H locs 0 0 (MQ below (bw_Q (dC, dI) vwCl (some (.int r)) [wMod ct a0 n0] A) args s 0 0 A) (F0 m 63 ls [])) : ∀ (x1 : Int32) (x2 : Int64) (x4 : Int64) (x6 : Int32) (x8 : Int32) (x9 : Int64) (y0 : Int32) (o0 : Ob) (H : Heap) (locs : List Loc) (ls : Array Slot), bw_P (dC, dI) vwCl [wMod ct a0 o0] H → va_S A s.heap H locs → lv_has ls 11 [(0, .ref (a0 0)), (1, .int x1), (2, .long x2), (4, .long x4), (6, .int x6), (8, .int x8), (9, .long x9)] → F_Mod_check_107 k63 x1 x2 x4 x6 x8 x9 y0 o0 = some (r, n0) → W p l e (headSpec ws_Mod_check rm_Mod_check).room s m args below meth c H locs 0 0 (MQ below (bw_Q (dC, dI) vwCl (some (.int r)) [wMod ct a0 n0] A) args s 0 0 A) (F0 m 107 ls [.int y0]) := by
  obtain ⟨hx, hb, hr, hml, hown, hlocks, hts, hK, hN, hA, hnx⟩ := id C0
  intro x1 x2 x4 x6 x8 x9 y0 o0 H locs ls hP hS hl h
  rw [F_Mod_check_107] at h
  refine lv_istore (lv' := [(7, .int y0), (0, .ref (a0 0)), (1, .int x1), (2, .long x2), (4, .long x4), (6, .int x6), (8, .int x8), (9, .long x9)]) hx hb d_Mod_check_107 hl (by decide) rfl (fun ls hl => ?_)
  refine lv_iload hx hb d_Mod_check_109 (lv_at hl 0 rfl) ?_
  refine lv_if_eq (tgt := 154) hx hb d_Mod_check_111 (by decide) (fun c19 => ?_) (fun c19 => ?_)
  · have h := ite_t c19 h
    refine lv_iinc (v := (x8 + (1 : Int32))) (lv' := [(8, .int (x8 + (1 : Int32))), (7, .int y0), (0, .ref (a0 0)), (1, .int x1), (2, .long x2), (4, .long x4), (6, .int x6), (9, .long x9)]) hx hb d_Mod_check_154 hl (k := 6) rfl rfl (by decide) rfl (fun ls hl => ?_)
    refine lv_goto (tgt := 63) hx hb d_Mod_check_157 (by decide) ?_
    exact hk63 x1 x2 x4 x6 y0 (x8 + (1 : Int32)) o0 _ _ _ hP hS (lv_sub hl [2, 3, 4, 5, 6, 1, 0] rfl) h
  · have h := ite_f c19 h
    refine lv_aload_n hx hb d_Mod_check_114 rfl (lv_at hl 1 rfl) ?_
    refine va_get (D := (dC, dI)) (ci := 6) (v := .ref (a0 9)) (C := R_Mod) (T := T_Mod) (N := 36) hx hb hts in_Mod hown hK (hP 0 _ rfl) 0 rfl rfl 15 (by decide) (hts _ fl_Mod_34) (fun _ h9 => h9) rfl d_Mod_check_115 ?_
    refine lv_iconst (v := 0) hx hb d_Mod_check_118 (by decide) ?_
    refine lv_lload hx hb d_Mod_check_119 (lv_at hl 7 rfl) ?_
    obtain ⟨hi20, h⟩ := chk_some h
    refine st_Mod_15 hx hb hK hP hN hS 0 rfl (inb_in hi20) d_Mod_check_121 (fun H locs hP hS => ?_)
    have hP : bw_P (dC, dI) vwCl [wMod ct a0 (s64 o0 15 (Int32.toNatClampNeg (0 : Int32)) x9)] H := hP
    refine lv_aload_n hx hb d_Mod_check_122 rfl (lv_at hl 1 rfl) ?_
    obtain ⟨o_22, hG21, h⟩ := bind1_some h
    refine bw_call (Lc := [wMod ct a0 (s64 o0 15 (Int32.toNatClampNeg (0 : Int32)) x9)]) (Lc' := [wMod ct a0 o_22]) (L' := [wMod ct a0 o_22]) [0] (va_runV (As := []) (rest := []) ⟨hx, hb, hml, hown, hts⟩ (c_Mod_work l ct dC dI a0 _ (s64 o0 15 (Int32.toNatClampNeg (0 : Int32)) x9) o_22 hG21) (cwV 0 hts g_Mod_229 rfl rfl rfl (by decide +kernel) ⟨Nat.le_of_ble_eq_true rfl, Nat.le_of_ble_eq_true rfl⟩) ⟨bw_blind nx_call, va_recv hK (hP 0 _ rfl) (ci := 6) (q0 := 0) rfl rfl, fun U hU hW => ⟨rfl, by rw [hU], by rw [hU]; exact hP.sub [0] rfl, va_K.moved hW.alike hK, (hN.sub [0] (by decide) rfl).weaken (fun _ _ => trivial), nx_warm hW hnx⟩⟩ rfl rfl hl.1 rfl (Nat.le_of_ble_eq_true rfl) d_Mod_check_123 ⟨Nat.le_of_ble_eq_true rfl, Nat.le_of_ble_eq_true rfl⟩) hP hN hS hA rfl rfl rfl (fun H locs hP hS => ?_)
    refine lv_aload_n hx hb d_Mod_check_126 rfl (lv_at hl 1 rfl) ?_
    obtain ⟨v24, o_25, hG23, h⟩ := bind2_some h
    refine bw_call (Lc := [wMod ct a0 o_22]) (Lc' := [wMod ct a0 o_25]) (L' := [wMod ct a0 o_25]) [0] (va_runV (As := []) (rest := []) ⟨hx, hb, hml, hown, hts⟩ (c_Mod_anyBroken l ct dC dI a0 _ o_22 v24 o_25 hG23) (cwV 0 hts g_Mod_245 rfl rfl rfl (by decide +kernel) ⟨Nat.le_of_ble_eq_true rfl, Nat.le_of_ble_eq_true rfl⟩) ⟨bw_blind nx_call, va_recv hK (hP 0 _ rfl) (ci := 6) (q0 := 0) rfl rfl, fun U hU hW => ⟨rfl, by rw [hU], by rw [hU]; exact hP.sub [0] rfl, va_K.moved hW.alike hK, (hN.sub [0] (by decide) rfl).weaken (fun _ _ => trivial), nx_warm hW hnx⟩⟩ rfl rfl hl.1 rfl (Nat.le_of_ble_eq_true rfl) d_Mod_check_127 ⟨Nat.le_of_ble_eq_true rfl, Nat.le_of_ble_eq_true rfl⟩) hP hN hS hA rfl rfl rfl (fun H locs hP hS => ?_)
    refine lv_if_le (tgt := 138) hx hb d_Mod_check_130 (by decide) (fun c26 => ?_) (fun c26 => ?_)
    · have h := ite_t c26 h
      refine lv_iconst (v := -1) hx hb d_Mod_check_138 (by decide) ?_
      exact k_Mod_check_139 C0 hk63 x1 x2 x4 x8 (-1 : Int32) o_25 _ _ _ hP hS (lv_sub hl [1, 2, 3, 4, 6] rfl) h
    · have h := ite_f c26 h
      refine lv_iload hx hb d_Mod_check_133 (lv_at hl 6 rfl) ?_
      refine lv_goto (tgt := 139) hx hb d_Mod_check_135 (by decide) ?_
      exact k_Mod_check_139 C0 hk63 x1 x2 x4 x8 x8 o_25 _ _ _ hP hS (lv_sub hl [1, 2, 3, 4, 6] rfl) h
set_option maxHeartbeats 4000000 in
set_option maxRecDepth 100000 in
theorem k_Mod_check_63 {p : Program} {l : Launch} {e : Env} {s : State} {m : MethodId} {args : Array Value} {below : List Frame} {meth : Method} {c : Code} {A : Nat → Prop} {ct dC : Nat → ClassId} {dI : Nat → Nat → Nat} {a0 : Nat → Nat}  {r : Int32} {n0 : Ob}   (C0 : cx wsAll vwCl nx p s m args meth c (dC, dI) (tyA ct) b_Mod_check 11 (some .int) R_Mod A [adMod a0])  : ∀ (n : Nat) (x1 : Int32) (x2 : Int64) (x4 : Int64) (x6 : Int32) (x7 : Int32) (x8 : Int32) (o0 : Ob) (H : Heap) (locs : List Loc) (ls : Array Slot), bw_P (dC, dI) vwCl [wMod ct a0 o0] H → va_S A s.heap H locs → lv_has ls 11 [(0, .ref (a0 0)), (1, .int x1), (2, .long x2), (4, .long x4), (6, .int x6), (7, .int x7), (8, .int x8)] → F_Mod_check_63 n x1 x2 x4 x6 x7 x8 o0 = some (r, n0) → W p l e (headSpec ws_Mod_check rm_Mod_check).room s m args below meth c H locs 0 0 (MQ below (bw_Q (dC, dI) vwCl (some (.int r)) [wMod ct a0 n0] A) args s 0 0 A) (F0 m 63 ls []) := by
  obtain ⟨hx, hb, hr, hml, hown, hlocks, hts, hK, hN, hA, hnx⟩ := id C0
  intro n
  induction n with
  | zero =>
    intro x1 x2 x4 x6 x7 x8 o0 H locs ls hP hS hl h
    cases h
  | succ n ih =>
    intro x1 x2 x4 x6 x7 x8 o0 H locs ls hP hS hl h
    rw [F_Mod_check_63] at h
    refine lv_iload hx hb d_Mod_check_63 (lv_at hl 6 rfl) ?_
    refine lv_iload_n hx hb d_Mod_check_65 rfl (lv_at hl 1 rfl) ?_
    refine lv_icmp_gt (tgt := 160) hx hb d_Mod_check_66 (by decide) (fun c7 => ?_) (fun c7 => ?_)
    · have h := ite_t c7 h
      refine lv_aload_n hx hb d_Mod_check_160 rfl (lv_at hl 0 rfl) ?_
      refine va_get (D := (dC, dI)) (ci := 6) (v := .ref (a0 9)) (C := R_Mod) (T := T_Mod) (N := 36) hx hb hts in_Mod hown hK (hP 0 _ rfl) 0 rfl rfl 15 (by decide) (hts _ fl_Mod_34) (fun _ h9 => h9) rfl d_Mod_check_161 ?_
      refine lv_iconst (v := 0) hx hb d_Mod_check_164 (by decide) ?_
      refine lv_lload_n hx hb d_Mod_check_165 rfl (lv_at hl 2 rfl) ?_
      obtain ⟨hi8, h⟩ := chk_some h
      refine st_Mod_15 hx hb hK hP hN hS 0 rfl (inb_in hi8) d_Mod_check_166 (fun H locs hP hS => ?_)
      have hP : bw_P (dC, dI) vwCl [wMod ct a0 (s64 o0 15 (Int32.toNatClampNeg (0 : Int32)) x2)] H := hP
      refine lv_aload_n hx hb d_Mod_check_167 rfl (lv_at hl 0 rfl) ?_
      refine va_get (D := (dC, dI)) (ci := 6) (v := .ref (a0 10)) (C := R_Mod) (T := T_Mod) (N := 36) hx hb hts in_Mod hown hK (hP 0 _ rfl) 0 rfl rfl 16 (by decide) (hts _ fl_Mod_38) (fun _ h9 => h9) rfl d_Mod_check_168 ?_
      refine lv_iconst (v := 0) hx hb d_Mod_check_171 (by decide) ?_
      refine lv_lload hx hb d_Mod_check_172 (lv_at hl 3 rfl) ?_
      refine st_Mod_16 hx hb hK hP hN hS 0 rfl (inb_in hi8) d_Mod_check_174 (fun H locs hP hS => ?_)
      have hP : bw_P (dC, dI) vwCl [wMod ct a0 (s64 (s64 o0 15 (Int32.toNatClampNeg (0 : Int32)) x2) 16 (Int32.toNatClampNeg (0 : Int32)) x4)] H := hP
      refine lv_aload_n hx hb d_Mod_check_175 rfl (lv_at hl 0 rfl) ?_
      obtain ⟨o_11, hG10, h⟩ := bind1_some h
      refine bw_call (Lc := [wMod ct a0 (s64 (s64 o0 15 (Int32.toNatClampNeg (0 : Int32)) x2) 16 (Int32.toNatClampNeg (0 : Int32)) x4)]) (Lc' := [wMod ct a0 o_11]) (L' := [wMod ct a0 o_11]) [0] (va_runV (As := []) (rest := []) ⟨hx, hb, hml, hown, hts⟩ (c_Mod_work l ct dC dI a0 _ (s64 (s64 o0 15 (Int32.toNatClampNeg (0 : Int32)) x2) 16 (Int32.toNatClampNeg (0 : Int32)) x4) o_11 hG10) (cwV 0 hts g_Mod_229 rfl rfl rfl (by decide +kernel) ⟨Nat.le_of_ble_eq_true rfl, Nat.le_of_ble_eq_true rfl⟩) ⟨bw_blind nx_call, va_recv hK (hP 0 _ rfl) (ci := 6) (q0 := 0) rfl rfl, fun U hU hW => ⟨rfl, by rw [hU], by rw [hU]; exact hP.sub [0] rfl, va_K.moved hW.alike hK, (hN.sub [0] (by decide) rfl).weaken (fun _ _ => trivial), nx_warm hW hnx⟩⟩ rfl rfl hl.1 rfl (Nat.le_of_ble_eq_true rfl) d_Mod_check_176 ⟨Nat.le_of_ble_eq_true rfl, Nat.le_of_ble_eq_true rfl⟩) hP hN hS hA rfl rfl rfl (fun H locs hP hS => ?_)
      refine lv_iload hx hb d_Mod_check_179 (lv_at hl 4 rfl) ?_
      obtain ⟨rfl, rfl⟩ := res2 h
      exact W.iret hx hb hr (fun t ht hW => ⟨rfl, by rw [ht]; exact hP, hS.F ht⟩) hS.2.2 d_Mod_check_181
    · have h := ite_f c7 h
      refine lv_iload hx hb d_Mod_check_69 (lv_at hl 5 rfl) ?_
      refine lv_if_eq (tgt := 160) hx hb d_Mod_check_71 (by decide) (fun c12 => ?_) (fun c12 => ?_)
      · have h := ite_t c12 h
        refine lv_aload_n hx hb d_Mod_check_160 rfl (lv_at hl 0 rfl) ?_
        refine va_get (D := (dC, dI)) (ci := 6) (v := .ref (a0 9)) (C := R_Mod) (T := T_Mod) (N := 36) hx hb hts in_Mod hown hK (hP 0 _ rfl) 0 rfl rfl 15 (by decide) (hts _ fl_Mod_34) (fun _ h9 => h9) rfl d_Mod_check_161 ?_
        refine lv_iconst (v := 0) hx hb d_Mod_check_164 (by decide) ?_
        refine lv_lload_n hx hb d_Mod_check_165 rfl (lv_at hl 2 rfl) ?_
        obtain ⟨hi13, h⟩ := chk_some h
        refine st_Mod_15 hx hb hK hP hN hS 0 rfl (inb_in hi13) d_Mod_check_166 (fun H locs hP hS => ?_)
        have hP : bw_P (dC, dI) vwCl [wMod ct a0 (s64 o0 15 (Int32.toNatClampNeg (0 : Int32)) x2)] H := hP
        refine lv_aload_n hx hb d_Mod_check_167 rfl (lv_at hl 0 rfl) ?_
        refine va_get (D := (dC, dI)) (ci := 6) (v := .ref (a0 10)) (C := R_Mod) (T := T_Mod) (N := 36) hx hb hts in_Mod hown hK (hP 0 _ rfl) 0 rfl rfl 16 (by decide) (hts _ fl_Mod_38) (fun _ h9 => h9) rfl d_Mod_check_168 ?_
        refine lv_iconst (v := 0) hx hb d_Mod_check_171 (by decide) ?_
        refine lv_lload hx hb d_Mod_check_172 (lv_at hl 3 rfl) ?_
        refine st_Mod_16 hx hb hK hP hN hS 0 rfl (inb_in hi13) d_Mod_check_174 (fun H locs hP hS => ?_)
        have hP : bw_P (dC, dI) vwCl [wMod ct a0 (s64 (s64 o0 15 (Int32.toNatClampNeg (0 : Int32)) x2) 16 (Int32.toNatClampNeg (0 : Int32)) x4)] H := hP
        refine lv_aload_n hx hb d_Mod_check_175 rfl (lv_at hl 0 rfl) ?_
        obtain ⟨o_16, hG15, h⟩ := bind1_some h
        refine bw_call (Lc := [wMod ct a0 (s64 (s64 o0 15 (Int32.toNatClampNeg (0 : Int32)) x2) 16 (Int32.toNatClampNeg (0 : Int32)) x4)]) (Lc' := [wMod ct a0 o_16]) (L' := [wMod ct a0 o_16]) [0] (va_runV (As := []) (rest := []) ⟨hx, hb, hml, hown, hts⟩ (c_Mod_work l ct dC dI a0 _ (s64 (s64 o0 15 (Int32.toNatClampNeg (0 : Int32)) x2) 16 (Int32.toNatClampNeg (0 : Int32)) x4) o_16 hG15) (cwV 0 hts g_Mod_229 rfl rfl rfl (by decide +kernel) ⟨Nat.le_of_ble_eq_true rfl, Nat.le_of_ble_eq_true rfl⟩) ⟨bw_blind nx_call, va_recv hK (hP 0 _ rfl) (ci := 6) (q0 := 0) rfl rfl, fun U hU hW => ⟨rfl, by rw [hU], by rw [hU]; exact hP.sub [0] rfl, va_K.moved hW.alike hK, (hN.sub [0] (by decide) rfl).weaken (fun _ _ => trivial), nx_warm hW hnx⟩⟩ rfl rfl hl.1 rfl (Nat.le_of_ble_eq_true rfl) d_Mod_check_176 ⟨Nat.le_of_ble_eq_true rfl, Nat.le_of_ble_eq_true rfl⟩) hP hN hS hA rfl rfl rfl (fun H locs hP hS => ?_)
        refine lv_iload hx hb d_Mod_check_179 (lv_at hl 4 rfl) ?_
        obtain ⟨rfl, rfl⟩ := res2 h
        exact W.iret hx hb hr (fun t ht hW => ⟨rfl, by rw [ht]; exact hP, hS.F ht⟩) hS.2.2 d_Mod_check_181
      · have h := ite_f c12 h
        refine lv_lload_n hx hb d_Mod_check_74 rfl (lv_at hl 2 rfl) ?_
        refine lv_iload hx hb d_Mod_check_75 (lv_at hl 6 rfl) ?_
        refine lv_i2l (v := (Int32.toInt64 x8)) hx hb d_Mod_check_77 rfl ?_
        refine lv_lload hx hb d_Mod_check_78 (lv_at hl 3 rfl) ?_
        refine lv_lmul hx hb d_Mod_check_80 ?_
        refine lv_ladd hx hb d_Mod_check_81 ?_
        refine lv_lstore (lv' := [(9, .long (x2 + ((Int32.toInt64 x8) * x4))), (0, .ref (a0 0)), (1, .int x1), (2, .long x2), (4, .long x4), (6, .int x6), (7, .int x7), (8, .int x8)]) hx hb d_Mod_check_82 hl (by decide) rfl (fun ls hl => ?_)
        refine lv_lload hx hb d_Mod_check_84 (lv_at hl 0 rfl) ?_
        refine lv_ldc2 (v := 1000000000) hx hb hown (hts _ cn_Mod_191) d_Mod_check_86 ?_
        refine W.lcmp hx hb d_Mod_check_89 ?_
        refine lv_if_gt (tgt := 106) hx hb d_Mod_check_90 (by decide) (fun c17 => ?_) (fun c17 => ?_)
        · have h := ite_t c17 h
          refine lv_iconst (v := 0) hx hb d_Mod_check_106 (by decide) ?_
          exact k_Mod_check_107 C0 ih x1 x2 x4 x6 x8 (x2 + ((Int32.toInt64 x8) * x4)) (0 : Int32) o0 _ _ _ hP hS (lv_sub hl [1, 2, 3, 4, 5, 7, 0] rfl) h
        · have h := ite_f c17 h
          refine lv_lload hx hb d_Mod_check_93 (lv_at hl 0 rfl) ?_
          refine lv_ldc2 (v := -1000000000) hx hb hown (hts _ cn_Mod_193) d_Mod_check_95 ?_
          refine W.lcmp hx hb d_Mod_check_98 ?_
          refine lv_if_lt (tgt := 106) hx hb d_Mod_check_99 (by decide) (fun c18 => ?_) (fun c18 => ?_)
          · have h := ite_t c18 h
            refine lv_iconst (v := 0) hx hb d_Mod_check_106 (by decide) ?_
            exact k_Mod_check_107 C0 ih x1 x2 x4 x6 x8 (x2 + ((Int32.toInt64 x8) * x4)) (0 : Int32) o0 _ _ _ hP hS (lv_sub hl [1, 2, 3, 4, 5, 7, 0] rfl) h
          · have h := ite_f c18 h
            refine lv_iconst (v := 1) hx hb d_Mod_check_102 (by decide) ?_
            refine lv_goto (tgt := 107) hx hb d_Mod_check_103 (by decide) ?_
            exact k_Mod_check_107 C0 ih x1 x2 x4 x6 x8 (x2 + ((Int32.toInt64 x8) * x4)) (1 : Int32) o0 _ _ _ hP hS (lv_sub hl [1, 2, 3, 4, 5, 7, 0] rfl) h
set_option maxHeartbeats 4000000 in
set_option maxRecDepth 100000 in
theorem k_Mod_check_27 {p : Program} {l : Launch} {e : Env} {s : State} {m : MethodId} {args : Array Value} {below : List Frame} {meth : Method} {c : Code} {A : Nat → Prop} {ct dC : Nat → ClassId} {dI : Nat → Nat → Nat} {a0 : Nat → Nat}  {r : Int32} {n0 : Ob}   (C0 : cx wsAll vwCl nx p s m args meth c (dC, dI) (tyA ct) b_Mod_check 11 (some .int) R_Mod A [adMod a0])  : ∀ (x1 : Int32) (y1 : Int32) (o0 : Ob) (H : Heap) (locs : List Loc) (ls : Array Slot), bw_P (dC, dI) vwCl [wMod ct a0 o0] H → va_S A s.heap H locs → lv_has ls 11 [(0, .ref (a0 0)), (1, .int x1)] → F_Mod_check_27 x1 y1 o0 = some (r, n0) → W p l e (headSpec ws_Mod_check rm_Mod_check).room s m args below meth c H locs 0 0 (MQ below (bw_Q (dC, dI) vwCl (some (.int r)) [wMod ct a0 n0] A) args s 0 0 A) (F0 m 27 ls [.int y1, .ref (a0 0)]) := by
  obtain ⟨hx, hb, hr, hml, hown, hlocks, hts, hK, hN, hA, hnx⟩ := id C0
  intro x1 y1 o0 H locs ls hP hS hl h
  rw [F_Mod_check_27] at h
  refine pt_Mod_0 hx hb hts hown hK hP hN hS 0 rfl (hts _ fl_Mod_84) d_Mod_check_27 (fun H locs hP hS => ?_)
  have hP : bw_P (dC, dI) vwCl [wMod ct a0 (s32 o0 0 0 y1)] H := hP
  refine lv_aload_n hx hb d_Mod_check_30 rfl (lv_at hl 0 rfl) ?_
  refine va_get (D := (dC, dI)) (ci := 6) (v := .int y1) (C := R_Mod) (T := T_Mod) (N := 36) hx hb hts in_Mod hown hK (hP 0 _ rfl) 0 rfl rfl 0 (by decide) (hts _ fl_Mod_84) (fun _ h9 => h9) rfl d_Mod_check_31 ?_
  refine lv_if_le (tgt := 39) hx hb d_Mod_check_34 (by decide) (fun c4 => ?_) (fun c4 => ?_)
  · have h := ite_t c4 h
    refine lv_aload_n hx hb d_Mod_check_39 rfl (lv_at hl 0 rfl) ?_
    refine va_get (D := (dC, dI)) (ci := 6) (v := .ref (a0 9)) (C := R_Mod) (T := T_Mod) (N := 36) hx hb hts in_Mod hown hK (hP 0 _ rfl) 0 rfl rfl 15 (by decide) (hts _ fl_Mod_34) (fun _ h9 => h9) rfl d_Mod_check_40 ?_
    refine lv_iconst (v := 0) hx hb d_Mod_check_43 (by decide) ?_
    obtain ⟨hi5, h⟩ := chk_some h
    refine va_lald (f := g64 o0 15) hx hb hK (hP 0 _ rfl) 9 1 rfl rfl (inb_in hi5) d_Mod_check_44 ?_
    refine lv_lstore_n (lv' := [(2, .long (g64 o0 15 (Int32.toNatClampNeg (0 : Int32)))), (0, .ref (a0 0)), (1, .int x1)]) hx hb d_Mod_check_45 rfl hl (by decide) rfl (fun ls hl => ?_)
    refine lv_aload_n hx hb d_Mod_check_46 rfl (lv_at hl 1 rfl) ?_
    refine va_get (D := (dC, dI)) (ci := 6) (v := .ref (a0 10)) (C := R_Mod) (T := T_Mod) (N := 36) hx hb hts in_Mod hown hK (hP 0 _ rfl) 0 rfl rfl 16 (by decide) (hts _ fl_Mod_38) (fun _ h9 => h9) rfl d_Mod_check_47 ?_
    refine lv_iconst (v := 0) hx hb d_Mod_check_50 (by decide) ?_
    refine va_lald (f := g64 o0 16) hx hb hK (hP 0 _ rfl) 10 1 rfl rfl (inb_in hi5) d_Mod_check_51 ?_
    refine lv_lstore (lv' := [(4, .long (g64 o0 16 (Int32.toNatClampNeg (0 : Int32)))), (2, .long (g64 o0 15 (Int32.toNatClampNeg (0 : Int32)))), (0, .ref (a0 0)), (1, .int x1)]) hx hb d_Mod_check_52 hl (by decide) rfl (fun ls hl => ?_)
    refine lv_iconst (v := -1) hx hb d_Mod_check_54 (by decide) ?_
    refine lv_istore (lv' := [(6, .int (-1 : Int32)), (4, .long (g64 o0 16 (Int32.toNatClampNeg (0 : Int32)))), (2, .long (g64 o0 15 (Int32.toNatClampNeg (0 : Int32)))), (0, .ref (a0 0)), (1, .int x1)]) hx hb d_Mod_check_55 hl (by decide) rfl (fun ls hl => ?_)
    refine lv_iconst (v := 1) hx hb d_Mod_check_57 (by decide) ?_
    refine lv_istore (lv' := [(7, .int (1 : Int32)), (6, .int (-1 : Int32)), (4, .long (g64 o0 16 (Int32.toNatClampNeg (0 : Int32)))), (2, .long (g64 o0 15 (Int32.toNatClampNeg (0 : Int32)))), (0, .ref (a0 0)), (1, .int x1)]) hx hb d_Mod_check_58 hl (by decide) rfl (fun ls hl => ?_)
    refine lv_iconst (v := 0) hx hb d_Mod_check_60 (by decide) ?_
    refine lv_istore (lv' := [(8, .int (0 : Int32)), (7, .int (1 : Int32)), (6, .int (-1 : Int32)), (4, .long (g64 o0 16 (Int32.toNatClampNeg (0 : Int32)))), (2, .long (g64 o0 15 (Int32.toNatClampNeg (0 : Int32)))), (0, .ref (a0 0)), (1, .int x1)]) hx hb d_Mod_check_61 hl (by decide) rfl (fun ls hl => ?_)
    exact k_Mod_check_63 C0 fuel x1 (g64 o0 15 (Int32.toNatClampNeg (0 : Int32))) (g64 o0 16 (Int32.toNatClampNeg (0 : Int32))) (-1 : Int32) (1 : Int32) (0 : Int32) (s32 o0 0 0 y1) _ _ _ hP hS (lv_sub hl [5, 6, 4, 3, 2, 1, 0] rfl) h
  · have h := ite_f c4 h
    refine lv_iconst (v := 0) hx hb d_Mod_check_37 (by decide) ?_
    obtain ⟨rfl, rfl⟩ := res2 h
    exact W.iret hx hb hr (fun t ht hW => ⟨rfl, by rw [ht]; exact hP, hS.F ht⟩) hS.2.2 d_Mod_check_38
set_option maxHeartbeats 4000000 in
set_option maxRecDepth 100000 in
theorem c_Mod_check (l : Launch) (ct dC : Nat → ClassId) (dI : Nat → Nat → Nat) (a0 : Nat → Nat)  (sz : Nat) (x1 : Int32) (o0 : Ob) (r : Int32) (n0 : Ob) (hF : F_Mod_check x1 o0 = some (r, n0)) : Met l y_Mod_check ws_Mod_check rm_Mod_check (bw_Pc [.ref (a0 0), .int x1] (dC, dI) vwCl (tyA ct) [wMod ct a0 o0] sz nx) (bw_Q (dC, dI) vwCl (some (.int r)) [wMod ct a0 n0] (bw_A [adMod a0] sz)) 0 0 (bw_A [adMod a0] sz) := by
  refine Met.ofW (cc := b_Mod_check) (maxL := 11) (ret := (some .int)) (by decide) rfl ?_
  intro p e s m args below meth c s₁ B hml hv
  obtain ⟨rfl, hsz, hP, hK, hN0, hnx⟩ := hv
  have hx := B.exec
  have hb := B.bytes
  have hr := B.returns
  have hts : ∀ w ∈ wsAll, w.before [.ref (a0 0), .int x1].toArray s = true := fun w h9 => atoms_spec (ws := ws_Mod_check) B.pre w (List.mem_cons_of_mem _ h9)
  have hown : s.vm.findClass R_Mod = some m.cls := findClass_of_methodNamed B.named
  have hlocks := B.notSynchronized
  subst hsz
  have hN : bw_N (bw_A [adMod a0] s.heap.size) [adMod a0] := hN0.self s.heap.size
  generalize hAe : bw_A [adMod a0] s.heap.size = A at hN ⊢
  have hA : ∀ q : Nat, s.heap.size ≤ q → A q := fun q h => by rw [← hAe]; exact Or.inr h
  have hS : va_S A s.heap s.heap [] := va_S.rf
  have hl := lv_entry ([.ref (a0 0), .int x1]) (n := 11) (Nat.le_of_ble_eq_true rfl)
  rw [lg_entry_eq]
  generalize (lg_sl ([.ref (a0 0), .int x1]) ++ List.replicate (11 - (lg_sl ([.ref (a0 0), .int x1])).length) Slot.unset).toArray = ls at hl ⊢
  have hl : lv_has ls 11 [(0, .ref (a0 0)), (1, .int x1)] := hl
  have C0 : cx wsAll vwCl nx p s m [.ref (a0 0), .int x1].toArray meth c (dC, dI) (tyA ct) b_Mod_check 11 (some .int) R_Mod A [adMod a0] := ⟨hx, hb, hr, hml, hown, hlocks, hts, hK, hN, hA, hnx⟩
  have h := hF
  rw [F_Mod_check] at h
  refine lv_aload_n hx hb d_Mod_check_0 rfl (lv_at hl 0 rfl) ?_
  refine lv_aload_n hx hb d_Mod_check_1 rfl (lv_at hl 0 rfl) ?_
  refine va_get (D := (dC, dI)) (ci := 6) (v := .int (g32 o0 12 0)) (C := R_Mod) (T := T_Mod) (N := 36) hx hb hts in_Mod hown hK (hP 0 _ rfl) 0 rfl rfl 12 (by decide) (hts _ fl_Mod_170) (fun _ h9 => h9) rfl d_Mod_check_2 ?_
  refine lv_if_ne (tgt := 12) hx hb d_Mod_check_5 (by decide) (fun c1 => ?_) (fun c1 => ?_)
  · have h := ite_f c1 h
    refine lv_iload_n hx hb d_Mod_check_12 rfl (lv_at hl 1 rfl) ?_
    refine lv_if_lt (tgt := 22) hx hb d_Mod_check_13 (by decide) (fun c2 => ?_) (fun c2 => ?_)
    · have h := ite_t c2 h
      refine lv_iconst (v := 2) hx hb d_Mod_check_22 (by decide) ?_
      refine lv_goto (tgt := 27) hx hb d_Mod_check_23 (by decide) ?_
      exact k_Mod_check_27 C0 x1 (2 : Int32) o0 _ _ _ hP hS (lv_sub hl [0, 1] rfl) h
    · have h := ite_f c2 h
      refine lv_iload_n hx hb d_Mod_check_16 rfl (lv_at hl 1 rfl) ?_
      refine lv_bipush (v := 50) hx hb d_Mod_check_17 (by decide) ?_
      refine lv_icmp_le (tgt := 26) hx hb d_Mod_check_19 (by decide) (fun c3 => ?_) (fun c3 => ?_)
      · have h := ite_t c3 h
        refine lv_iconst (v := 0) hx hb d_Mod_check_26 (by decide) ?_
        exact k_Mod_check_27 C0 x1 (0 : Int32) o0 _ _ _ hP hS (lv_sub hl [0, 1] rfl) h
      · have h := ite_f c3 h
        refine lv_iconst (v := 2) hx hb d_Mod_check_22 (by decide) ?_
        refine lv_goto (tgt := 27) hx hb d_Mod_check_23 (by decide) ?_
        exact k_Mod_check_27 C0 x1 (2 : Int32) o0 _ _ _ hP hS (lv_sub hl [0, 1] rfl) h
  · have h := ite_t c1 h
    refine lv_iconst (v := 1) hx hb d_Mod_check_8 (by decide) ?_
    refine lv_goto (tgt := 27) hx hb d_Mod_check_9 (by decide) ?_
    exact k_Mod_check_27 C0 x1 (1 : Int32) o0 _ _ _ hP hS (lv_sub hl [0, 1] rfl) h
def F_Mod_version_35  : Nat → Int32 → Ob → Option (Int32 × Ob)
  | 0, _, _ => none
  | n + 1, x1, o0 =>
    if (60 : Int32) ≤ x1 then (some ((((g32 o0 24 0) + (1 : Int32)) - (1 : Int32)), (s32 o0 24 0 ((g32 o0 24 0) + (1 : Int32))))) else (chk (inb x1 60) (chk (inb (((60 : Int32) * (g32 o0 24 0)) + x1) 240) (F_Mod_version_35 n (x1 + (1 : Int32)) (s64 (s64 (s32 o0 25 (Int32.toNatClampNeg (((60 : Int32) * (g32 o0 24 0)) + x1)) (g32 o0 19 (Int32.toNatClampNeg x1))) 26 (Int32.toNatClampNeg (((60 : Int32) * (g32 o0 24 0)) + x1)) (g64 o0 20 (Int32.toNatClampNeg x1))) 27 (Int32.toNatClampNeg (((60 : Int32) * (g32 o0 24 0)) + x1)) (g64 o0 21 (Int32.toNatClampNeg x1))))))
def F_Mod_version  (o0 : Ob) : Option (Int32 × Ob) :=
  if (g32 o0 12 0) = 0 then (if (1 : Int32) ≤ 0 then (F_Mod_version_35 fuel (0 : Int32) (s32 o0 0 0 (1 : Int32))) else (some ((0 : Int32), (s32 o0 0 0 (1 : Int32))))) else (if (4 : Int32) ≤ (g32 o0 24 0) then (if (1 : Int32) ≤ 0 then (F_Mod_version_35 fuel (0 : Int32) (s32 o0 0 0 (1 : Int32))) else (some ((0 : Int32), (s32 o0 0 0 (1 : Int32))))) else (if (0 : Int32) ≤ 0 then (F_Mod_version_35 fuel (0 : Int32) (s32 o0 0 0 (0 : Int32))) else (some ((0 : Int32), (s32 o0 0 0 (0 : Int32))))))
abbrev ws_Mod_version : List Cond := Cond.code y_Mod_version b_Mod_version 2 (some .int) :: wsAll
abbrev rm_Mod_version : Room := { frames := 0, cells := 0, slots := 0, locals := 0 }
set_option maxHeartbeats 4000000 in
set_option maxRecDepth 100000 in
theorem k_Mod_version_35 {p : Program} {l : Launch} {e : Env} {s : State} {m : MethodId} {args : Array Value} {below : List Frame} {meth : Method} {c : Code} {A : Nat → Prop} {ct dC : Nat → ClassId} {dI : Nat → Nat → Nat} {a0 : Nat → Nat}  {r : Int32} {n0 : Ob}   (C0 : cx wsAll vwCl nx p s m args meth c (dC, dI) (tyA ct) b_Mod_version 2 (some .int) R_Mod A [adMod a0])  : ∀ (n : Nat) (x1 : Int32) (o0 : Ob) (H : Heap) (locs : List Loc) (ls : Array Slot), bw_P (dC, dI) vwCl [wMod ct a0 o0] H → va_S A s.heap H locs → lv_has ls 2 [(0, .ref (a0 0)), (1, .int x1)] → F_Mod_version_35 n x1 o0 = some (r, n0) → W p l e (headSpec ws_Mod_version rm_Mod_version).room s m args below meth c H locs 0 0 (MQ below (bw_Q (dC, dI) vwCl (some (.int r)) [wMod ct a0 n0] A) args s 0 0 A) (F0 m 35 ls []) := by
  obtain ⟨hx, hb, hr, hml, hown, hlocks, hts, hK, hN, hA, hnx⟩ := id C0
  intro n
  induction n with
  | zero =>
    intro x1 o0 H locs ls hP hS hl h
    cases h
  | succ n ih =>
    intro x1 o0 H locs ls hP hS hl h
    rw [F_Mod_version_35] at h
    refine lv_iload_n hx hb d_Mod_version_35 rfl (lv_at hl 1 rfl) ?_
    refine lv_bipush (v := 60) hx hb d_Mod_version_36 (by decide) ?_
    refine lv_icmp_ge (tgt := 107) hx hb d_Mod_version_38 (by decide) (fun c6 => ?_) (fun c6 => ?_)
    · have h := ite_t c6 h
      refine lv_aload_n hx hb d_Mod_version_107 rfl (lv_at hl 0 rfl) ?_
      refine lv_dup hx hb d_Mod_version_108 rfl ?_
      refine va_get (D := (dC, dI)) (ci := 6) (v := .int (g32 o0 24 0)) (C := R_Mod) (T := T_Mod) (N := 36) hx hb hts in_Mod hown hK (hP 0 _ rfl) 0 rfl rfl 24 (by decide) (hts _ fl_Mod_248) (fun _ h9 => h9) rfl d_Mod_version_109 ?_
      refine lv_iconst (v := 1) hx hb d_Mod_version_112 (by decide) ?_
      refine lv_iadd hx hb d_Mod_version_113 ?_
      refine pt_Mod_24 hx hb hts hown hK hP hN hS 0 rfl (hts _ fl_Mod_248) d_Mod_version_114 (fun H locs hP hS => ?_)
      have hP : bw_P (dC, dI) vwCl [wMod ct a0 (s32 o0 24 0 ((g32 o0 24 0) + (1 : Int32)))] H := hP
      refine lv_aload_n hx hb d_Mod_version_117 rfl (lv_at hl 0 rfl) ?_
      refine va_get (D := (dC, dI)) (ci := 6) (v := .int ((g32 o0 24 0) + (1 : Int32))) (C := R_Mod) (T := T_Mod) (N := 36) hx hb hts in_Mod hown hK (hP 0 _ rfl) 0 rfl rfl 24 (by decide) (hts _ fl_Mod_248) (fun _ h9 => h9) rfl d_Mod_version_118 ?_
      refine lv_iconst (v := 1) hx hb d_Mod_version_121 (by decide) ?_
      refine lv_isub hx hb d_Mod_version_122 ?_
      obtain ⟨rfl, rfl⟩ := res2 h
      exact W.iret hx hb hr (fun t ht hW => ⟨rfl, by rw [ht]; exact hP, hS.F ht⟩) hS.2.2 d_Mod_version_123
    · have h := ite_f c6 h
      refine lv_aload_n hx hb d_Mod_version_41 rfl (lv_at hl 0 rfl) ?_
      refine va_get (D := (dC, dI)) (ci := 6) (v := .ref (a0 17)) (C := R_Mod) (T := T_Mod) (N := 36) hx hb hts in_Mod hown hK (hP 0 _ rfl) 0 rfl rfl 25 (by decide) (hts _ fl_Mod_60) (fun _ h9 => h9) rfl d_Mod_version_42 ?_
      refine lv_bipush (v := 60) hx hb d_Mod_version_45 (by decide) ?_
      refine lv_aload_n hx hb d_Mod_version_47 rfl (lv_at hl 0 rfl) ?_
      refine va_get (D := (dC, dI)) (ci := 6) (v := .int (g32 o0 24 0)) (C := R_Mod) (T := T_Mod) (N := 36) hx hb hts in_Mod hown hK (hP 0 _ rfl) 0 rfl rfl 24 (by decide) (hts _ fl_Mod_248) (fun _ h9 => h9) rfl d_Mod_version_48 ?_
      refine lv_imul hx hb d_Mod_version_51 ?_
      refine lv_iload_n hx hb d_Mod_version_52 rfl (lv_at hl 1 rfl) ?_
      refine lv_iadd hx hb d_Mod_version_53 ?_
      refine lv_aload_n hx hb d_Mod_version_54 rfl (lv_at hl 0 rfl) ?_
      refine va_get (D := (dC, dI)) (ci := 6) (v := .ref (a0 13)) (C := R_Mod) (T := T_Mod) (N := 36) hx hb hts in_Mod hown hK (hP 0 _ rfl) 0 rfl rfl 19 (by decide) (hts _ fl_Mod_48) (fun _ h9 => h9) rfl d_Mod_version_55 ?_
      refine lv_iload_n hx hb d_Mod_version_58 rfl (lv_at hl 1 rfl) ?_
      obtain ⟨hi7, h⟩ := chk_some h
      refine va_iald (f := g32 o0 19) hx hb hK (hP 0 _ rfl) 13 0 rfl rfl (inb_in hi7) d_Mod_version_59 ?_
      obtain ⟨hi8, h⟩ := chk_some h
      refine st_Mod_25 hx hb hK hP hN hS 0 rfl (inb_in hi8) d_Mod_version_60 (fun H locs hP hS => ?_)
      have hP : bw_P (dC, dI) vwCl [wMod ct a0 (s32 o0 25 (Int32.toNatClampNeg (((60 : Int32) * (g32 o0 24 0)) + x1)) (g32 o0 19 (Int32.toNatClampNeg x1)))] H := hP
      refine lv_aload_n hx hb d_Mod_version_61 rfl (lv_at hl 0 rfl) ?_
      refine va_get (D := (dC, dI)) (ci := 6) (v := .ref (a0 18)) (C := R_Mod) (T := T_Mod) (N := 36) hx hb hts in_Mod hown hK (hP 0 _ rfl) 0 rfl rfl 26 (by decide) (hts _ fl_Mod_63) (fun _ h9 => h9) rfl d_Mod_version_62 ?_
      refine lv_bipush (v := 60) hx hb d_Mod_version_65 (by decide) ?_
      refine lv_aload_n hx hb d_Mod_version_67 rfl (lv_at hl 0 rfl) ?_
      refine va_get (D := (dC, dI)) (ci := 6) (v := .int (g32 o0 24 0)) (C := R_Mod) (T := T_Mod) (N := 36) hx hb hts in_Mod hown hK (hP 0 _ rfl) 0 rfl rfl 24 (by decide) (hts _ fl_Mod_248) (fun _ h9 => h9) rfl d_Mod_version_68 ?_
      refine lv_imul hx hb d_Mod_version_71 ?_
      refine lv_iload_n hx hb d_Mod_version_72 rfl (lv_at hl 1 rfl) ?_
      refine lv_iadd hx hb d_Mod_version_73 ?_
      refine lv_aload_n hx hb d_Mod_version_74 rfl (lv_at hl 0 rfl) ?_
      refine va_get (D := (dC, dI)) (ci := 6) (v := .ref (a0 14)) (C := R_Mod) (T := T_Mod) (N := 36) hx hb hts in_Mod hown hK (hP 0 _ rfl) 0 rfl rfl 20 (by decide) (hts _ fl_Mod_51) (fun _ h9 => h9) rfl d_Mod_version_75 ?_
      refine lv_iload_n hx hb d_Mod_version_78 rfl (lv_at hl 1 rfl) ?_
      refine va_lald (f := g64 o0 20) hx hb hK (hP 0 _ rfl) 14 1 rfl rfl (inb_in hi7) d_Mod_version_79 ?_
      refine st_Mod_26 hx hb hK hP hN hS 0 rfl (inb_in hi8) d_Mod_version_80 (fun H locs hP hS => ?_)
      have hP : bw_P (dC, dI) vwCl [wMod ct a0 (s64 (s32 o0 25 (Int32.toNatClampNeg (((60 : Int32) * (g32 o0 24 0)) + x1)) (g32 o0 19 (Int32.toNatClampNeg x1))) 26 (Int32.toNatClampNeg (((60 : Int32) * (g32 o0 24 0)) + x1)) (g64 o0 20 (Int32.toNatClampNeg x1)))] H := hP
      refine lv_aload_n hx hb d_Mod_version_81 rfl (lv_at hl 0 rfl) ?_
      refine va_get (D := (dC, dI)) (ci := 6) (v := .ref (a0 19)) (C := R_Mod) (T := T_Mod) (N := 36) hx hb hts in_Mod hown hK (hP 0 _ rfl) 0 rfl rfl 27 (by decide) (hts _ fl_Mod_66) (fun _ h9 => h9) rfl d_Mod_version_82 ?_
      refine lv_bipush (v := 60) hx hb d_Mod_version_85 (by decide) ?_
      refine lv_aload_n hx hb d_Mod_version_87 rfl (lv_at hl 0 rfl) ?_
      refine va_get (D := (dC, dI)) (ci := 6) (v := .int (g32 o0 24 0)) (C := R_Mod) (T := T_Mod) (N := 36) hx hb hts in_Mod hown hK (hP 0 _ rfl) 0 rfl rfl 24 (by decide) (hts _ fl_Mod_248) (fun _ h9 => h9) rfl d_Mod_version_88 ?_
      refine lv_imul hx hb d_Mod_version_91 ?_
      refine lv_iload_n hx hb d_Mod_version_92 rfl (lv_at hl 1 rfl) ?_
      refine lv_iadd hx hb d_Mod_version_93 ?_
      refine lv_aload_n hx hb d_Mod_version_94 rfl (lv_at hl 0 rfl) ?_
      refine va_get (D := (dC, dI)) (ci := 6) (v := .ref (a0 15)) (C := R_Mod) (T := T_Mod) (N := 36) hx hb hts in_Mod hown hK (hP 0 _ rfl) 0 rfl rfl 21 (by decide) (hts _ fl_Mod_54) (fun _ h9 => h9) rfl d_Mod_version_95 ?_
      refine lv_iload_n hx hb d_Mod_version_98 rfl (lv_at hl 1 rfl) ?_
      refine va_lald (f := g64 o0 21) hx hb hK (hP 0 _ rfl) 15 1 rfl rfl (inb_in hi7) d_Mod_version_99 ?_
      refine st_Mod_27 hx hb hK hP hN hS 0 rfl (inb_in hi8) d_Mod_version_100 (fun H locs hP hS => ?_)
      have hP : bw_P (dC, dI) vwCl [wMod ct a0 (s64 (s64 (s32 o0 25 (Int32.toNatClampNeg (((60 : Int32) * (g32 o0 24 0)) + x1)) (g32 o0 19 (Int32.toNatClampNeg x1))) 26 (Int32.toNatClampNeg (((60 : Int32) * (g32 o0 24 0)) + x1)) (g64 o0 20 (Int32.toNatClampNeg x1))) 27 (Int32.toNatClampNeg (((60 : Int32) * (g32 o0 24 0)) + x1)) (g64 o0 21 (Int32.toNatClampNeg x1)))] H := hP
      refine lv_iinc (v := (x1 + (1 : Int32))) (lv' := [(1, .int (x1 + (1 : Int32))), (0, .ref (a0 0))]) hx hb d_Mod_version_101 hl (k := 1) rfl rfl (by decide) rfl (fun ls hl => ?_)
      refine lv_goto (tgt := 35) hx hb d_Mod_version_104 (by decide) ?_
      exact ih (x1 + (1 : Int32)) (s64 (s64 (s32 o0 25 (Int32.toNatClampNeg (((60 : Int32) * (g32 o0 24 0)) + x1)) (g32 o0 19 (Int32.toNatClampNeg x1))) 26 (Int32.toNatClampNeg (((60 : Int32) * (g32 o0 24 0)) + x1)) (g64 o0 20 (Int32.toNatClampNeg x1))) 27 (Int32.toNatClampNeg (((60 : Int32) * (g32 o0 24 0)) + x1)) (g64 o0 21 (Int32.toNatClampNeg x1))) _ _ _ hP hS (lv_sub hl [1, 0] rfl) h
set_option maxHeartbeats 4000000 in
set_option maxRecDepth 100000 in
theorem c_Mod_version (l : Launch) (ct dC : Nat → ClassId) (dI : Nat → Nat → Nat) (a0 : Nat → Nat)  (sz : Nat)  (o0 : Ob) (r : Int32) (n0 : Ob) (hF : F_Mod_version o0 = some (r, n0)) : Met l y_Mod_version ws_Mod_version rm_Mod_version (bw_Pc [.ref (a0 0)] (dC, dI) vwCl (tyA ct) [wMod ct a0 o0] sz nx) (bw_Q (dC, dI) vwCl (some (.int r)) [wMod ct a0 n0] (bw_A [adMod a0] sz)) 0 0 (bw_A [adMod a0] sz) := by
  refine Met.ofW (cc := b_Mod_version) (maxL := 2) (ret := (some .int)) (by decide) rfl ?_
  intro p e s m args below meth c s₁ B hml hv
  obtain ⟨rfl, hsz, hP, hK, hN0, hnx⟩ := hv
  have hx := B.exec
  have hb := B.bytes
  have hr := B.returns
  have hts : ∀ w ∈ wsAll, w.before [.ref (a0 0)].toArray s = true := fun w h9 => atoms_spec (ws := ws_Mod_version) B.pre w (List.mem_cons_of_mem _ h9)
  have hown : s.vm.findClass R_Mod = some m.cls := findClass_of_methodNamed B.named
  have hlocks := B.notSynchronized
  subst hsz
  have hN : bw_N (bw_A [adMod a0] s.heap.size) [adMod a0] := hN0.self s.heap.size
  generalize hAe : bw_A [adMod a0] s.heap.size = A at hN ⊢
  have hA : ∀ q : Nat, s.heap.size ≤ q → A q := fun q h => by rw [← hAe]; exact Or.inr h
  have hS : va_S A s.heap s.heap [] := va_S.rf
  have hl := lv_entry ([.ref (a0 0)]) (n := 2) (Nat.le_of_ble_eq_true rfl)
  rw [lg_entry_eq]
  generalize (lg_sl ([.ref (a0 0)]) ++ List.replicate (2 - (lg_sl ([.ref (a0 0)])).length) Slot.unset).toArray = ls at hl ⊢
  have hl : lv_has ls 2 [(0, .ref (a0 0))] := hl
  have C0 : cx wsAll vwCl nx p s m [.ref (a0 0)].toArray meth c (dC, dI) (tyA ct) b_Mod_version 2 (some .int) R_Mod A [adMod a0] := ⟨hx, hb, hr, hml, hown, hlocks, hts, hK, hN, hA, hnx⟩
  have h := hF
  rw [F_Mod_version] at h
  refine lv_aload_n hx hb d_Mod_version_0 rfl (lv_at hl 0 rfl) ?_
  refine lv_aload_n hx hb d_Mod_version_1 rfl (lv_at hl 0 rfl) ?_
  refine va_get (D := (dC, dI)) (ci := 6) (v := .int (g32 o0 12 0)) (C := R_Mod) (T := T_Mod) (N := 36) hx hb hts in_Mod hown hK (hP 0 _ rfl) 0 rfl rfl 12 (by decide) (hts _ fl_Mod_170) (fun _ h9 => h9) rfl d_Mod_version_2 ?_
  refine lv_if_eq (tgt := 20) hx hb d_Mod_version_5 (by decide) (fun c1 => ?_) (fun c1 => ?_)
  · have h := ite_t c1 h
    refine lv_iconst (v := 1) hx hb d_Mod_version_20 (by decide) ?_
    refine pt_Mod_0 hx hb hts hown hK hP hN hS 0 rfl (hts _ fl_Mod_84) d_Mod_version_21 (fun H locs hP hS => ?_)
    have hP : bw_P (dC, dI) vwCl [wMod ct a0 (s32 o0 0 0 (1 : Int32))] H := hP
    refine lv_aload_n hx hb d_Mod_version_24 rfl (lv_at hl 0 rfl) ?_
    refine va_get (D := (dC, dI)) (ci := 6) (v := .int (1 : Int32)) (C := R_Mod) (T := T_Mod) (N := 36) hx hb hts in_Mod hown hK (hP 0 _ rfl) 0 rfl rfl 0 (by decide) (hts _ fl_Mod_84) (fun _ h9 => h9) rfl d_Mod_version_25 ?_
    refine lv_if_le (tgt := 33) hx hb d_Mod_version_28 (by decide) (fun c2 => ?_) (fun c2 => ?_)
    · have h := ite_t c2 h
      refine lv_iconst (v := 0) hx hb d_Mod_version_33 (by decide) ?_
      refine lv_istore_n (lv' := [(1, .int (0 : Int32)), (0, .ref (a0 0))]) hx hb d_Mod_version_34 rfl hl (by decide) rfl (fun ls hl => ?_)
      exact k_Mod_version_35 C0 fuel (0 : Int32) (s32 o0 0 0 (1 : Int32)) _ _ _ hP hS (lv_sub hl [1, 0] rfl) h
    · have h := ite_f c2 h
      refine lv_iconst (v := 0) hx hb d_Mod_version_31 (by decide) ?_
      obtain ⟨rfl, rfl⟩ := res2 h
      exact W.iret hx hb hr (fun t ht hW => ⟨rfl, by rw [ht]; exact hP, hS.F ht⟩) hS.2.2 d_Mod_version_32
  · have h := ite_f c1 h
    refine lv_aload_n hx hb d_Mod_version_8 rfl (lv_at hl 0 rfl) ?_
    refine va_get (D := (dC, dI)) (ci := 6) (v := .int (g32 o0 24 0)) (C := R_Mod) (T := T_Mod) (N := 36) hx hb hts in_Mod hown hK (hP 0 _ rfl) 0 rfl rfl 24 (by decide) (hts _ fl_Mod_248) (fun _ h9 => h9) rfl d_Mod_version_9 ?_
    refine lv_iconst (v := 4) hx hb d_Mod_version_12 (by decide) ?_
    refine lv_icmp_ge (tgt := 20) hx hb d_Mod_version_13 (by decide) (fun c3 => ?_) (fun c3 => ?_)
    · have h := ite_t c3 h
      refine lv_iconst (v := 1) hx hb d_Mod_version_20 (by decide) ?_
      refine pt_Mod_0 hx hb hts hown hK hP hN hS 0 rfl (hts _ fl_Mod_84) d_Mod_version_21 (fun H locs hP hS => ?_)
      have hP : bw_P (dC, dI) vwCl [wMod ct a0 (s32 o0 0 0 (1 : Int32))] H := hP
      refine lv_aload_n hx hb d_Mod_version_24 rfl (lv_at hl 0 rfl) ?_
      refine va_get (D := (dC, dI)) (ci := 6) (v := .int (1 : Int32)) (C := R_Mod) (T := T_Mod) (N := 36) hx hb hts in_Mod hown hK (hP 0 _ rfl) 0 rfl rfl 0 (by decide) (hts _ fl_Mod_84) (fun _ h9 => h9) rfl d_Mod_version_25 ?_
      refine lv_if_le (tgt := 33) hx hb d_Mod_version_28 (by decide) (fun c4 => ?_) (fun c4 => ?_)
      · have h := ite_t c4 h
        refine lv_iconst (v := 0) hx hb d_Mod_version_33 (by decide) ?_
        refine lv_istore_n (lv' := [(1, .int (0 : Int32)), (0, .ref (a0 0))]) hx hb d_Mod_version_34 rfl hl (by decide) rfl (fun ls hl => ?_)
        exact k_Mod_version_35 C0 fuel (0 : Int32) (s32 o0 0 0 (1 : Int32)) _ _ _ hP hS (lv_sub hl [1, 0] rfl) h
      · have h := ite_f c4 h
        refine lv_iconst (v := 0) hx hb d_Mod_version_31 (by decide) ?_
        obtain ⟨rfl, rfl⟩ := res2 h
        exact W.iret hx hb hr (fun t ht hW => ⟨rfl, by rw [ht]; exact hP, hS.F ht⟩) hS.2.2 d_Mod_version_32
    · have h := ite_f c3 h
      refine lv_iconst (v := 0) hx hb d_Mod_version_16 (by decide) ?_
      refine lv_goto (tgt := 21) hx hb d_Mod_version_17 (by decide) ?_
      refine pt_Mod_0 hx hb hts hown hK hP hN hS 0 rfl (hts _ fl_Mod_84) d_Mod_version_21 (fun H locs hP hS => ?_)
      have hP : bw_P (dC, dI) vwCl [wMod ct a0 (s32 o0 0 0 (0 : Int32))] H := hP
      refine lv_aload_n hx hb d_Mod_version_24 rfl (lv_at hl 0 rfl) ?_
      refine va_get (D := (dC, dI)) (ci := 6) (v := .int (0 : Int32)) (C := R_Mod) (T := T_Mod) (N := 36) hx hb hts in_Mod hown hK (hP 0 _ rfl) 0 rfl rfl 0 (by decide) (hts _ fl_Mod_84) (fun _ h9 => h9) rfl d_Mod_version_25 ?_
      refine lv_if_le (tgt := 33) hx hb d_Mod_version_28 (by decide) (fun c5 => ?_) (fun c5 => ?_)
      · have h := ite_t c5 h
        refine lv_iconst (v := 0) hx hb d_Mod_version_33 (by decide) ?_
        refine lv_istore_n (lv' := [(1, .int (0 : Int32)), (0, .ref (a0 0))]) hx hb d_Mod_version_34 rfl hl (by decide) rfl (fun ls hl => ?_)
        exact k_Mod_version_35 C0 fuel (0 : Int32) (s32 o0 0 0 (0 : Int32)) _ _ _ hP hS (lv_sub hl [1, 0] rfl) h
      · have h := ite_f c5 h
        refine lv_iconst (v := 0) hx hb d_Mod_version_31 (by decide) ?_
        obtain ⟨rfl, rfl⟩ := res2 h
        exact W.iret hx hb hr (fun t ht hW => ⟨rfl, by rw [ht]; exact hP, hS.F ht⟩) hS.2.2 d_Mod_version_32
def F_Mod_differs_45  : Nat → Int32 → Int32 → Int32 → Ob → Option (Int32 × Ob)
  | 0, _, _, _, _ => none
  | n + 1, x1, x3, x4, o0 =>
    if (60 : Int32) ≤ x4 then (if (g32 o0 0 0) ≤ 0 then (some ((-1 : Int32), o0)) else (some ((0 : Int32), o0))) else (if (g32 o0 0 0) = 0 then (chk (inb x4 60) (chk (inb (((60 : Int32) * x1) + x4) 240) (if (g32 o0 19 (Int32.toNatClampNeg x4)) = (g32 o0 25 (Int32.toNatClampNeg (((60 : Int32) * x1) + x4))) then (if (lg_cmp (g64 o0 20 (Int32.toNatClampNeg x4)) (g64 o0 26 (Int32.toNatClampNeg (((60 : Int32) * x1) + x4)))) = 0 then (if (lg_cmp (g64 o0 21 (Int32.toNatClampNeg x4)) (g64 o0 27 (Int32.toNatClampNeg (((60 : Int32) * x1) + x4)))) = 0 then (F_Mod_differs_45 n x1 x3 (x4 + (1 : Int32)) o0) else (if x3 = 0 then (some (x4, o0)) else (F_Mod_differs_45 n x1 (x3 + (-1 : Int32)) (x4 + (1 : Int32)) o0))) else (if x3 = 0 then (some (x4, o0)) else (F_Mod_differs_45 n x1 (x3 + (-1 : Int32)) (x4 + (1 : Int32)) o0))) else (if x3 = 0 then (some (x4, o0)) else (F_Mod_differs_45 n x1 (x3 + (-1 : Int32)) (x4 + (1 : Int32)) o0))))) else (if (g32 o0 0 0) ≤ 0 then (some ((-1 : Int32), o0)) else (some ((0 : Int32), o0))))
def F_Mod_differs (x1 : Int32) (x2 : Int32) (o0 : Ob) : Option (Int32 × Ob) :=
  if (g32 o0 12 0) = 0 then (F_Mod_differs_45 fuel x1 x2 (0 : Int32) (s32 o0 0 0 (1 : Int32))) else (if x1 < 0 then (F_Mod_differs_45 fuel x1 x2 (0 : Int32) (s32 o0 0 0 (2 : Int32))) else (if x1 < (g32 o0 24 0) then (if 0 ≤ x2 then (F_Mod_differs_45 fuel x1 x2 (0 : Int32) (s32 o0 0 0 (0 : Int32))) else (F_Mod_differs_45 fuel x1 x2 (0 : Int32) (s32 o0 0 0 (3 : Int32)))) else (F_Mod_differs_45 fuel x1 x2 (0 : Int32) (s32 o0 0 0 (2 : Int32)))))
abbrev ws_Mod_differs : List Cond := Cond.code y_Mod_differs b_Mod_differs 6 (some .int) :: wsAll
abbrev rm_Mod_differs : Room := { frames := 0, cells := 0, slots := 0, locals := 0 }
set_option maxHeartbeats 4000000 in
set_option maxRecDepth 100000 in
theorem k_Mod_differs_45 {p : Program} {l : Launch} {e : Env} {s : State} {m : MethodId} {args : Array Value} {below : List Frame} {meth : Method} {c : Code} {A : Nat → Prop} {ct dC : Nat → ClassId} {dI : Nat → Nat → Nat} {a0 : Nat → Nat}  {r : Int32} {n0 : Ob}   (C0 : cx wsAll vwCl nx p s m args meth c (dC, dI) (tyA ct) b_Mod_differs 6 (some .int) R_Mod A [adMod a0])  : ∀ (n : Nat) (x1 : Int32) (x3 : Int32) (x4 : Int32) (o0 : Ob) (H : Heap) (locs : List Loc) (ls : Array Slot), bw_P (dC, dI) vwCl [wMod ct a0 o0] H → va_S A s.heap H locs → lv_has ls 6 [(0, .ref (a0 0)), (1, .int x1), (3, .int x3), (4, .int x4)] → F_Mod_differs_45 n x1 x3 x4 o0 = some (r, n0) → W p l e (headSpec ws_Mod_differs rm_Mod_differs).room s m args below meth c H locs 0 0 (MQ below (bw_Q (dC, dI) vwCl (some (.int r)) [wMod ct a0 n0] A) args s 0 0 A) (F0 m 45 ls []) := by
  obtain ⟨hx, hb, hr, hml, hown, hlocks, hts, hK, hN, hA, hnx⟩ := id C0
  intro n
  induction n with
  | zero =>
    intro x1 x3 x4 o0 H locs ls hP hS hl h
    cases h
  | succ n ih =>
    intro x1 x3 x4 o0 H locs ls hP hS hl h
    rw [F_Mod_differs_45] at h
    refine lv_iload hx hb d_Mod_differs_45 (lv_at hl 3 rfl) ?_
    refine lv_bipush (v := 60) hx hb d_Mod_differs_47 (by decide) ?_
    refine lv_icmp_ge (tgt := 137) hx hb d_Mod_differs_49 (by decide) (fun c5 => ?_) (fun c5 => ?_)
    · have h := ite_t c5 h
      refine lv_aload_n hx hb d_Mod_differs_137 rfl (lv_at hl 0 rfl) ?_
      refine va_get (D := (dC, dI)) (ci := 6) (v := .int (g32 o0 0 0)) (C := R_Mod) (T := T_Mod) (N := 36) hx hb hts in_Mod hown hK (hP 0 _ rfl) 0 rfl rfl 0 (by decide) (hts _ fl_Mod_84) (fun _ h9 => h9) rfl d_Mod_differs_138 ?_
      refine lv_if_le (tgt := 148) hx hb d_Mod_differs_141 (by decide) (fun c6 => ?_) (fun c6 => ?_)
      · have h := ite_t c6 h
        refine lv_iconst (v := -1) hx hb d_Mod_differs_148 (by decide) ?_
        obtain ⟨rfl, rfl⟩ := res2 h
        exact W.iret hx hb hr (fun t ht hW => ⟨rfl, by rw [ht]; exact hP, hS.F ht⟩) hS.2.2 d_Mod_differs_149
      · have h := ite_f c6 h
        refine lv_iconst (v := 0) hx hb d_Mod_differs_144 (by decide) ?_
        refine lv_goto (tgt := 149) hx hb d_Mod_differs_145 (by decide) ?_
        obtain ⟨rfl, rfl⟩ := res2 h
        exact W.iret hx hb hr (fun t ht hW => ⟨rfl, by rw [ht]; exact hP, hS.F ht⟩) hS.2.2 d_Mod_differs_149
    · have h := ite_f c5 h
      refine lv_aload_n hx hb d_Mod_differs_52 rfl (lv_at hl 0 rfl) ?_
      refine va_get (D := (dC, dI)) (ci := 6) (v := .int (g32 o0 0 0)) (C := R_Mod) (T := T_Mod) (N := 36) hx hb hts in_Mod hown hK (hP 0 _ rfl) 0 rfl rfl 0 (by decide) (hts _ fl_Mod_84) (fun _ h9 => h9) rfl d_Mod_differs_53 ?_
      refine lv_if_ne (tgt := 137) hx hb d_Mod_differs_56 (by decide) (fun c7 => ?_) (fun c7 => ?_)
      · have h := ite_f c7 h
        refine lv_aload_n hx hb d_Mod_differs_137 rfl (lv_at hl 0 rfl) ?_
        refine va_get (D := (dC, dI)) (ci := 6) (v := .int (g32 o0 0 0)) (C := R_Mod) (T := T_Mod) (N := 36) hx hb hts in_Mod hown hK (hP 0 _ rfl) 0 rfl rfl 0 (by decide) (hts _ fl_Mod_84) (fun _ h9 => h9) rfl d_Mod_differs_138 ?_
        refine lv_if_le (tgt := 148) hx hb d_Mod_differs_141 (by decide) (fun c8 => ?_) (fun c8 => ?_)
        · have h := ite_t c8 h
          refine lv_iconst (v := -1) hx hb d_Mod_differs_148 (by decide) ?_
          obtain ⟨rfl, rfl⟩ := res2 h
          exact W.iret hx hb hr (fun t ht hW => ⟨rfl, by rw [ht]; exact hP, hS.F ht⟩) hS.2.2 d_Mod_differs_149
        · have h := ite_f c8 h
          refine lv_iconst (v := 0) hx hb d_Mod_differs_144 (by decide) ?_
          refine lv_goto (tgt := 149) hx hb d_Mod_differs_145 (by decide) ?_
          obtain ⟨rfl, rfl⟩ := res2 h
          exact W.iret hx hb hr (fun t ht hW => ⟨rfl, by rw [ht]; exact hP, hS.F ht⟩) hS.2.2 d_Mod_differs_149
      · have h := ite_t c7 h
        refine lv_bipush (v := 60) hx hb d_Mod_differs_59 (by decide) ?_
        refine lv_iload_n hx hb d_Mod_differs_61 rfl (lv_at hl 1 rfl) ?_
        refine lv_imul hx hb d_Mod_differs_62 ?_
        refine lv_iload hx hb d_Mod_differs_63 (lv_at hl 3 rfl) ?_
        refine lv_iadd hx hb d_Mod_differs_65 ?_
        refine lv_istore (lv' := [(5, .int (((60 : Int32) * x1) + x4)), (0, .ref (a0 0)), (1, .int x1), (3, .int x3), (4, .int x4)]) hx hb d_Mod_differs_66 hl (by decide) rfl (fun ls hl => ?_)
        refine lv_aload_n hx hb d_Mod_differs_68 rfl (lv_at hl 1 rfl) ?_
        refine va_get (D := (dC, dI)) (ci := 6) (v := .ref (a0 13)) (C := R_Mod) (T := T_Mod) (N := 36) hx hb hts in_Mod hown hK (hP 0 _ rfl) 0 rfl rfl 19 (by decide) (hts _ fl_Mod_48) (fun _ h9 => h9) rfl d_Mod_differs_69 ?_
        refine lv_iload hx hb d_Mod_differs_72 (lv_at hl 4 rfl) ?_
        obtain ⟨hi9, h⟩ := chk_some h
        refine va_iald (f := g32 o0 19) hx hb hK (hP 0 _ rfl) 13 0 rfl rfl (inb_in hi9) d_Mod_differs_74 ?_
        refine lv_aload_n hx hb d_Mod_differs_75 rfl (lv_at hl 1 rfl) ?_
        refine va_get (D := (dC, dI)) (ci := 6) (v := .ref (a0 17)) (C := R_Mod) (T := T_Mod) (N := 36) hx hb hts in_Mod hown hK (hP 0 _ rfl) 0 rfl rfl 25 (by decide) (hts _ fl_Mod_60) (fun _ h9 => h9) rfl d_Mod_differs_76 ?_
        refine lv_iload hx hb d_Mod_differs_79 (lv_at hl 0 rfl) ?_
        obtain ⟨hi10, h⟩ := chk_some h
        refine va_iald (f := g32 o0 25) hx hb hK (hP 0 _ rfl) 17 0 rfl rfl (inb_in hi10) d_Mod_differs_81 ?_
        refine lv_icmp_ne (tgt := 121) hx hb d_Mod_differs_82 (by decide) (fun c11 => ?_) (fun c11 => ?_)
        · have h := ite_f c11 h
          refine lv_iload_n hx hb d_Mod_differs_121 rfl (lv_at hl 3 rfl) ?_
          refine lv_if_ne (tgt := 128) hx hb d_Mod_differs_122 (by decide) (fun c12 => ?_) (fun c12 => ?_)
          · have h := ite_f c12 h
            refine lv_iinc (v := (x3 + (-1 : Int32))) (lv' := [(3, .int (x3 + (-1 : Int32))), (5, .int (((60 : Int32) * x1) + x4)), (0, .ref (a0 0)), (1, .int x1), (4, .int x4)]) hx hb d_Mod_differs_128 hl (k := 3) rfl rfl (by decide) rfl (fun ls hl => ?_)
            refine lv_iinc (v := (x4 + (1 : Int32))) (lv' := [(4, .int (x4 + (1 : Int32))), (3, .int (x3 + (-1 : Int32))), (5, .int (((60 : Int32) * x1) + x4)), (0, .ref (a0 0)), (1, .int x1)]) hx hb d_Mod_differs_131 hl (k := 4) rfl rfl (by decide) rfl (fun ls hl => ?_)
            refine lv_goto (tgt := 45) hx hb d_Mod_differs_134 (by decide) ?_
            exact ih x1 (x3 + (-1 : Int32)) (x4 + (1 : Int32)) o0 _ _ _ hP hS (lv_sub hl [3, 4, 1, 0] rfl) h
          · have h := ite_t c12 h
            refine lv_iload hx hb d_Mod_differs_125 (lv_at hl 4 rfl) ?_
            obtain ⟨rfl, rfl⟩ := res2 h
            exact W.iret hx hb hr (fun t ht hW => ⟨rfl, by rw [ht]; exact hP, hS.F ht⟩) hS.2.2 d_Mod_differs_127
        · have h := ite_t c11 h
          refine lv_aload_n hx hb d_Mod_differs_85 rfl (lv_at hl 1 rfl) ?_
          refine va_get (D := (dC, dI)) (ci := 6) (v := .ref (a0 14)) (C := R_Mod) (T := T_Mod) (N := 36) hx hb hts in_Mod hown hK (hP 0 _ rfl) 0 rfl rfl 20 (by decide) (hts _ fl_Mod_51) (fun _ h9 => h9) rfl d_Mod_differs_86 ?_
          refine lv_iload hx hb d_Mod_differs_89 (lv_at hl 4 rfl) ?_
          refine va_lald (f := g64 o0 20) hx hb hK (hP 0 _ rfl) 14 1 rfl rfl (inb_in hi9) d_Mod_differs_91 ?_
          refine lv_aload_n hx hb d_Mod_differs_92 rfl (lv_at hl 1 rfl) ?_
          refine va_get (D := (dC, dI)) (ci := 6) (v := .ref (a0 18)) (C := R_Mod) (T := T_Mod) (N := 36) hx hb hts in_Mod hown hK (hP 0 _ rfl) 0 rfl rfl 26 (by decide) (hts _ fl_Mod_63) (fun _ h9 => h9) rfl d_Mod_differs_93 ?_
          refine lv_iload hx hb d_Mod_differs_96 (lv_at hl 0 rfl) ?_
          refine va_lald (f := g64 o0 26) hx hb hK (hP 0 _ rfl) 18 1 rfl rfl (inb_in hi10) d_Mod_differs_98 ?_
          refine W.lcmp hx hb d_Mod_differs_99 ?_
          refine lv_if_ne (tgt := 121) hx hb d_Mod_differs_100 (by decide) (fun c15 => ?_) (fun c15 => ?_)
          · have h := ite_f c15 h
            refine lv_iload_n hx hb d_Mod_differs_121 rfl (lv_at hl 3 rfl) ?_
            refine lv_if_ne (tgt := 128) hx hb d_Mod_differs_122 (by decide) (fun c16 => ?_) (fun c16 => ?_)
            · have h := ite_f c16 h
              refine lv_iinc (v := (x3 + (-1 : Int32))) (lv' := [(3, .int (x3 + (-1 : Int32))), (5, .int (((60 : Int32) * x1) + x4)), (0, .ref (a0 0)), (1, .int x1), (4, .int x4)]) hx hb d_Mod_differs_128 hl (k := 3) rfl rfl (by decide) rfl (fun ls hl => ?_)
              refine lv_iinc (v := (x4 + (1 : Int32))) (lv' := [(4, .int (x4 + (1 : Int32))), (3, .int (x3 + (-1 : Int32))), (5, .int (((60 : Int32) * x1) + x4)), (0, .ref (a0 0)), (1, .int x1)]) hx hb d_Mod_differs_131 hl (k := 4) rfl rfl (by decide) rfl (fun ls hl => ?_)
              refine lv_goto (tgt := 45) hx hb d_Mod_differs_134 (by decide) ?_
              exact ih x1 (x3 + (-1 : Int32)) (x4 + (1 : Int32)) o0 _ _ _ hP hS (lv_sub hl [3, 4, 1, 0] rfl) h
            · have h := ite_t c16 h
              refine lv_iload hx hb d_Mod_differs_125 (lv_at hl 4 rfl) ?_
              obtain ⟨rfl, rfl⟩ := res2 h
              exact W.iret hx hb hr (fun t ht hW => ⟨rfl, by rw [ht]; exact hP, hS.F ht⟩) hS.2.2 d_Mod_differs_127
          · have h := ite_t c15 h
            refine lv_aload_n hx hb d_Mod_differs_103 rfl (lv_at hl 1 rfl) ?_
            refine va_get (D := (dC, dI)) (ci := 6) (v := .ref (a0 15)) (C := R_Mod) (T := T_Mod) (N := 36) hx hb hts in_Mod hown hK (hP 0 _ rfl) 0 rfl rfl 21 (by decide) (hts _ fl_Mod_54) (fun _ h9 => h9) rfl d_Mod_differs_104 ?_
            refine lv_iload hx hb d_Mod_differs_107 (lv_at hl 4 rfl) ?_
            refine va_lald (f := g64 o0 21) hx hb hK (hP 0 _ rfl) 15 1 rfl rfl (inb_in hi9) d_Mod_differs_109 ?_
            refine lv_aload_n hx hb d_Mod_differs_110 rfl (lv_at hl 1 rfl) ?_
            refine va_get (D := (dC, dI)) (ci := 6) (v := .ref (a0 19)) (C := R_Mod) (T := T_Mod) (N := 36) hx hb hts in_Mod hown hK (hP 0 _ rfl) 0 rfl rfl 27 (by decide) (hts _ fl_Mod_66) (fun _ h9 => h9) rfl d_Mod_differs_111 ?_
            refine lv_iload hx hb d_Mod_differs_114 (lv_at hl 0 rfl) ?_
            refine va_lald (f := g64 o0 27) hx hb hK (hP 0 _ rfl) 19 1 rfl rfl (inb_in hi10) d_Mod_differs_116 ?_
            refine W.lcmp hx hb d_Mod_differs_117 ?_
            refine lv_if_eq (tgt := 131) hx hb d_Mod_differs_118 (by decide) (fun c19 => ?_) (fun c19 => ?_)
            · have h := ite_t c19 h
              refine lv_iinc (v := (x4 + (1 : Int32))) (lv' := [(4, .int (x4 + (1 : Int32))), (5, .int (((60 : Int32) * x1) + x4)), (0, .ref (a0 0)), (1, .int x1), (3, .int x3)]) hx hb d_Mod_differs_131 hl (k := 4) rfl rfl (by decide) rfl (fun ls hl => ?_)
              refine lv_goto (tgt := 45) hx hb d_Mod_differs_134 (by decide) ?_
              exact ih x1 x3 (x4 + (1 : Int32)) o0 _ _ _ hP hS (lv_sub hl [2, 3, 4, 0] rfl) h
            · have h := ite_f c19 h
              refine lv_iload_n hx hb d_Mod_differs_121 rfl (lv_at hl 3 rfl) ?_
              refine lv_if_ne (tgt := 128) hx hb d_Mod_differs_122 (by decide) (fun c20 => ?_) (fun c20 => ?_)
              · have h := ite_f c20 h
                refine lv_iinc (v := (x3 + (-1 : Int32))) (lv' := [(3, .int (x3 + (-1 : Int32))), (5, .int (((60 : Int32) * x1) + x4)), (0, .ref (a0 0)), (1, .int x1), (4, .int x4)]) hx hb d_Mod_differs_128 hl (k := 3) rfl rfl (by decide) rfl (fun ls hl => ?_)
                refine lv_iinc (v := (x4 + (1 : Int32))) (lv' := [(4, .int (x4 + (1 : Int32))), (3, .int (x3 + (-1 : Int32))), (5, .int (((60 : Int32) * x1) + x4)), (0, .ref (a0 0)), (1, .int x1)]) hx hb d_Mod_differs_131 hl (k := 4) rfl rfl (by decide) rfl (fun ls hl => ?_)
                refine lv_goto (tgt := 45) hx hb d_Mod_differs_134 (by decide) ?_
                exact ih x1 (x3 + (-1 : Int32)) (x4 + (1 : Int32)) o0 _ _ _ hP hS (lv_sub hl [3, 4, 1, 0] rfl) h
              · have h := ite_t c20 h
                refine lv_iload hx hb d_Mod_differs_125 (lv_at hl 4 rfl) ?_
                obtain ⟨rfl, rfl⟩ := res2 h
                exact W.iret hx hb hr (fun t ht hW => ⟨rfl, by rw [ht]; exact hP, hS.F ht⟩) hS.2.2 d_Mod_differs_127
set_option maxHeartbeats 4000000 in
set_option maxRecDepth 100000 in
theorem c_Mod_differs (l : Launch) (ct dC : Nat → ClassId) (dI : Nat → Nat → Nat) (a0 : Nat → Nat)  (sz : Nat) (x1 : Int32) (x2 : Int32) (o0 : Ob) (r : Int32) (n0 : Ob) (hF : F_Mod_differs x1 x2 o0 = some (r, n0)) : Met l y_Mod_differs ws_Mod_differs rm_Mod_differs (bw_Pc [.ref (a0 0), .int x1, .int x2] (dC, dI) vwCl (tyA ct) [wMod ct a0 o0] sz nx) (bw_Q (dC, dI) vwCl (some (.int r)) [wMod ct a0 n0] (bw_A [adMod a0] sz)) 0 0 (bw_A [adMod a0] sz) := by
  refine Met.ofW (cc := b_Mod_differs) (maxL := 6) (ret := (some .int)) (by decide) rfl ?_
  intro p e s m args below meth c s₁ B hml hv
  obtain ⟨rfl, hsz, hP, hK, hN0, hnx⟩ := hv
  have hx := B.exec
  have hb := B.bytes
  have hr := B.returns
  have hts : ∀ w ∈ wsAll, w.before [.ref (a0 0), .int x1, .int x2].toArray s = true := fun w h9 => atoms_spec (ws := ws_Mod_differs) B.pre w (List.mem_cons_of_mem _ h9)
  have hown : s.vm.findClass R_Mod = some m.cls := findClass_of_methodNamed B.named
  have hlocks := B.notSynchronized
  subst hsz
  have hN : bw_N (bw_A [adMod a0] s.heap.size) [adMod a0] := hN0.self s.heap.size
  generalize hAe : bw_A [adMod a0] s.heap.size = A at hN ⊢
  have hA : ∀ q : Nat, s.heap.size ≤ q → A q := fun q h => by rw [← hAe]; exact Or.inr h
  have hS : va_S A s.heap s.heap [] := va_S.rf
  have hl := lv_entry ([.ref (a0 0), .int x1, .int x2]) (n := 6) (Nat.le_of_ble_eq_true rfl)
  rw [lg_entry_eq]
  generalize (lg_sl ([.ref (a0 0), .int x1, .int x2]) ++ List.replicate (6 - (lg_sl ([.ref (a0 0), .int x1, .int x2])).length) Slot.unset).toArray = ls at hl ⊢
  have hl : lv_has ls 6 [(0, .ref (a0 0)), (1, .int x1), (2, .int x2)] := hl
  have C0 : cx wsAll vwCl nx p s m [.ref (a0 0), .int x1, .int x2].toArray meth c (dC, dI) (tyA ct) b_Mod_differs 6 (some .int) R_Mod A [adMod a0] := ⟨hx, hb, hr, hml, hown, hlocks, hts, hK, hN, hA, hnx⟩
  have h := hF
  rw [F_Mod_differs] at h
  refine lv_aload_n hx hb d_Mod_differs_0 rfl (lv_at hl 0 rfl) ?_
  refine lv_aload_n hx hb d_Mod_differs_1 rfl (lv_at hl 0 rfl) ?_
  refine va_get (D := (dC, dI)) (ci := 6) (v := .int (g32 o0 12 0)) (C := R_Mod) (T := T_Mod) (N := 36) hx hb hts in_Mod hown hK (hP 0 _ rfl) 0 rfl rfl 12 (by decide) (hts _ fl_Mod_170) (fun _ h9 => h9) rfl d_Mod_differs_2 ?_
  refine lv_if_ne (tgt := 12) hx hb d_Mod_differs_5 (by decide) (fun c1 => ?_) (fun c1 => ?_)
  · have h := ite_f c1 h
    refine lv_iload_n hx hb d_Mod_differs_12 rfl (lv_at hl 1 rfl) ?_
    refine lv_if_lt (tgt := 24) hx hb d_Mod_differs_13 (by decide) (fun c2 => ?_) (fun c2 => ?_)
    · have h := ite_t c2 h
      refine lv_iconst (v := 2) hx hb d_Mod_differs_24 (by decide) ?_
      refine lv_goto (tgt := 37) hx hb d_Mod_differs_25 (by decide) ?_
      refine pt_Mod_0 hx hb hts hown hK hP hN hS 0 rfl (hts _ fl_Mod_84) d_Mod_differs_37 (fun H locs hP hS => ?_)
      have hP : bw_P (dC, dI) vwCl [wMod ct a0 (s32 o0 0 0 (2 : Int32))] H := hP
      refine lv_iload_n hx hb d_Mod_differs_40 rfl (lv_at hl 2 rfl) ?_
      refine lv_istore_n (lv' := [(3, .int x2), (0, .ref (a0 0)), (1, .int x1), (2, .int x2)]) hx hb d_Mod_differs_41 rfl hl (by decide) rfl (fun ls hl => ?_)
      refine lv_iconst (v := 0) hx hb d_Mod_differs_42 (by decide) ?_
      refine lv_istore (lv' := [(4, .int (0 : Int32)), (3, .int x2), (0, .ref (a0 0)), (1, .int x1), (2, .int x2)]) hx hb d_Mod_differs_43 hl (by decide) rfl (fun ls hl => ?_)
      exact k_Mod_differs_45 C0 fuel x1 x2 (0 : Int32) (s32 o0 0 0 (2 : Int32)) _ _ _ hP hS (lv_sub hl [2, 3, 1, 0] rfl) h
    · have h := ite_f c2 h
      refine lv_iload_n hx hb d_Mod_differs_16 rfl (lv_at hl 1 rfl) ?_
      refine lv_aload_n hx hb d_Mod_differs_17 rfl (lv_at hl 0 rfl) ?_
      refine va_get (D := (dC, dI)) (ci := 6) (v := .int (g32 o0 24 0)) (C := R_Mod) (T := T_Mod) (N := 36) hx hb hts in_Mod hown hK (hP 0 _ rfl) 0 rfl rfl 24 (by decide) (hts _ fl_Mod_248) (fun _ h9 => h9) rfl d_Mod_differs_18 ?_
      refine lv_icmp_lt (tgt := 28) hx hb d_Mod_differs_21 (by decide) (fun c3 => ?_) (fun c3 => ?_)
      · have h := ite_t c3 h
        refine lv_iload_n hx hb d_Mod_differs_28 rfl (lv_at hl 2 rfl) ?_
        refine lv_if_ge (tgt := 36) hx hb d_Mod_differs_29 (by decide) (fun c4 => ?_) (fun c4 => ?_)
        · have h := ite_t c4 h
          refine lv_iconst (v := 0) hx hb d_Mod_differs_36 (by decide) ?_
          refine pt_Mod_0 hx hb hts hown hK hP hN hS 0 rfl (hts _ fl_Mod_84) d_Mod_differs_37 (fun H locs hP hS => ?_)
          have hP : bw_P (dC, dI) vwCl [wMod ct a0 (s32 o0 0 0 (0 : Int32))] H := hP
          refine lv_iload_n hx hb d_Mod_differs_40 rfl (lv_at hl 2 rfl) ?_
          refine lv_istore_n (lv' := [(3, .int x2), (0, .ref (a0 0)), (1, .int x1), (2, .int x2)]) hx hb d_Mod_differs_41 rfl hl (by decide) rfl (fun ls hl => ?_)
          refine lv_iconst (v := 0) hx hb d_Mod_differs_42 (by decide) ?_
          refine lv_istore (lv' := [(4, .int (0 : Int32)), (3, .int x2), (0, .ref (a0 0)), (1, .int x1), (2, .int x2)]) hx hb d_Mod_differs_43 hl (by decide) rfl (fun ls hl => ?_)
          exact k_Mod_differs_45 C0 fuel x1 x2 (0 : Int32) (s32 o0 0 0 (0 : Int32)) _ _ _ hP hS (lv_sub hl [2, 3, 1, 0] rfl) h
        · have h := ite_f c4 h
          refine lv_iconst (v := 3) hx hb d_Mod_differs_32 (by decide) ?_
          refine lv_goto (tgt := 37) hx hb d_Mod_differs_33 (by decide) ?_
          refine pt_Mod_0 hx hb hts hown hK hP hN hS 0 rfl (hts _ fl_Mod_84) d_Mod_differs_37 (fun H locs hP hS => ?_)
          have hP : bw_P (dC, dI) vwCl [wMod ct a0 (s32 o0 0 0 (3 : Int32))] H := hP
          refine lv_iload_n hx hb d_Mod_differs_40 rfl (lv_at hl 2 rfl) ?_
          refine lv_istore_n (lv' := [(3, .int x2), (0, .ref (a0 0)), (1, .int x1), (2, .int x2)]) hx hb d_Mod_differs_41 rfl hl (by decide) rfl (fun ls hl => ?_)
          refine lv_iconst (v := 0) hx hb d_Mod_differs_42 (by decide) ?_
          refine lv_istore (lv' := [(4, .int (0 : Int32)), (3, .int x2), (0, .ref (a0 0)), (1, .int x1), (2, .int x2)]) hx hb d_Mod_differs_43 hl (by decide) rfl (fun ls hl => ?_)
          exact k_Mod_differs_45 C0 fuel x1 x2 (0 : Int32) (s32 o0 0 0 (3 : Int32)) _ _ _ hP hS (lv_sub hl [2, 3, 1, 0] rfl) h
      · have h := ite_f c3 h
        refine lv_iconst (v := 2) hx hb d_Mod_differs_24 (by decide) ?_
        refine lv_goto (tgt := 37) hx hb d_Mod_differs_25 (by decide) ?_
        refine pt_Mod_0 hx hb hts hown hK hP hN hS 0 rfl (hts _ fl_Mod_84) d_Mod_differs_37 (fun H locs hP hS => ?_)
        have hP : bw_P (dC, dI) vwCl [wMod ct a0 (s32 o0 0 0 (2 : Int32))] H := hP
        refine lv_iload_n hx hb d_Mod_differs_40 rfl (lv_at hl 2 rfl) ?_
        refine lv_istore_n (lv' := [(3, .int x2), (0, .ref (a0 0)), (1, .int x1), (2, .int x2)]) hx hb d_Mod_differs_41 rfl hl (by decide) rfl (fun ls hl => ?_)
        refine lv_iconst (v := 0) hx hb d_Mod_differs_42 (by decide) ?_
        refine lv_istore (lv' := [(4, .int (0 : Int32)), (3, .int x2), (0, .ref (a0 0)), (1, .int x1), (2, .int x2)]) hx hb d_Mod_differs_43 hl (by decide) rfl (fun ls hl => ?_)
        exact k_Mod_differs_45 C0 fuel x1 x2 (0 : Int32) (s32 o0 0 0 (2 : Int32)) _ _ _ hP hS (lv_sub hl [2, 3, 1, 0] rfl) h
  · have h := ite_t c1 h
    refine lv_iconst (v := 1) hx hb d_Mod_differs_8 (by decide) ?_
    refine lv_goto (tgt := 37) hx hb d_Mod_differs_9 (by decide) ?_
    refine pt_Mod_0 hx hb hts hown hK hP hN hS 0 rfl (hts _ fl_Mod_84) d_Mod_differs_37 (fun H locs hP hS => ?_)
    have hP : bw_P (dC, dI) vwCl [wMod ct a0 (s32 o0 0 0 (1 : Int32))] H := hP
    refine lv_iload_n hx hb d_Mod_differs_40 rfl (lv_at hl 2 rfl) ?_
    refine lv_istore_n (lv' := [(3, .int x2), (0, .ref (a0 0)), (1, .int x1), (2, .int x2)]) hx hb d_Mod_differs_41 rfl hl (by decide) rfl (fun ls hl => ?_)
    refine lv_iconst (v := 0) hx hb d_Mod_differs_42 (by decide) ?_
    refine lv_istore (lv' := [(4, .int (0 : Int32)), (3, .int x2), (0, .ref (a0 0)), (1, .int x1), (2, .int x2)]) hx hb d_Mod_differs_43 hl (by decide) rfl (fun ls hl => ?_)
    exact k_Mod_differs_45 C0 fuel x1 x2 (0 : Int32) (s32 o0 0 0 (1 : Int32)) _ _ _ hP hS (lv_sub hl [2, 3, 1, 0] rfl) h
theorem g_Mod_251 : GoodIn wsAll (wsV R_Mod 251 R_Mod y_Mod_noWork ws_Mod_noWork) := gd_V ml_Mod_251 im_Mod_noWork se_Mod_noWork ini_Mod cd_Mod_noWork
def F_Mod_same  (o0 : Ob) : Option (Bool × Ob) :=
  bind2 (F_Mod_noWork o0) (fun v2 o_3 => if (b2i v2) = 0 then (some (true, o_3)) else (some (false, o_3)))
abbrev ws_Mod_same : List Cond := Cond.code y_Mod_same b_Mod_same 1 (some .boolean) :: wsAll
abbrev rm_Mod_same : Room := { frames := 1, cells := 0, slots := 0, locals := 20 }
set_option maxHeartbeats 4000000 in
set_option maxRecDepth 100000 in
theorem c_Mod_same (l : Launch) (ct dC : Nat → ClassId) (dI : Nat → Nat → Nat) (a0 : Nat → Nat)  (sz : Nat)  (o0 : Ob) (r : Bool) (n0 : Ob) (hF : F_Mod_same o0 = some (r, n0)) : Met l y_Mod_same ws_Mod_same rm_Mod_same (bw_Pc [.ref (a0 0)] (dC, dI) vwCl (tyA ct) [wMod ct a0 o0] sz nx) (bw_Q (dC, dI) vwCl (some (.int (b2i r))) [wMod ct a0 n0] (bw_A [adMod a0] sz)) 0 0 (bw_A [adMod a0] sz) := by
  refine Met.ofW (cc := b_Mod_same) (maxL := 1) (ret := (some .boolean)) (by decide) rfl ?_
  intro p e s m args below meth c s₁ B hml hv
  obtain ⟨rfl, hsz, hP, hK, hN0, hnx⟩ := hv
  have hx := B.exec
  have hb := B.bytes
  have hr := B.returns
  have hts : ∀ w ∈ wsAll, w.before [.ref (a0 0)].toArray s = true := fun w h9 => atoms_spec (ws := ws_Mod_same) B.pre w (List.mem_cons_of_mem _ h9)
  have hown : s.vm.findClass R_Mod = some m.cls := findClass_of_methodNamed B.named
  have hlocks := B.notSynchronized
  subst hsz
  have hN : bw_N (bw_A [adMod a0] s.heap.size) [adMod a0] := hN0.self s.heap.size
  generalize hAe : bw_A [adMod a0] s.heap.size = A at hN ⊢
  have hA : ∀ q : Nat, s.heap.size ≤ q → A q := fun q h => by rw [← hAe]; exact Or.inr h
  have hS : va_S A s.heap s.heap [] := va_S.rf
  have hl := lv_entry ([.ref (a0 0)]) (n := 1) (Nat.le_of_ble_eq_true rfl)
  rw [lg_entry_eq]
  generalize (lg_sl ([.ref (a0 0)]) ++ List.replicate (1 - (lg_sl ([.ref (a0 0)])).length) Slot.unset).toArray = ls at hl ⊢
  have hl : lv_has ls 1 [(0, .ref (a0 0))] := hl
  have C0 : cx wsAll vwCl nx p s m [.ref (a0 0)].toArray meth c (dC, dI) (tyA ct) b_Mod_same 1 (some .boolean) R_Mod A [adMod a0] := ⟨hx, hb, hr, hml, hown, hlocks, hts, hK, hN, hA, hnx⟩
  have h := hF
  rw [F_Mod_same] at h
  refine lv_aload_n hx hb d_Mod_same_0 rfl (lv_at hl 0 rfl) ?_
  obtain ⟨v2, o_3, hG1, h⟩ := bind2_some h
  refine bw_call (Lc := [wMod ct a0 o0]) (Lc' := [wMod ct a0 o_3]) (L' := [wMod ct a0 o_3]) [0] (va_runV (As := []) (rest := []) ⟨hx, hb, hml, hown, hts⟩ (c_Mod_noWork l ct dC dI a0 _ o0 v2 o_3 hG1) (cwV 0 hts g_Mod_251 rfl rfl rfl (by decide +kernel) ⟨Nat.le_of_ble_eq_true rfl, Nat.le_of_ble_eq_true rfl⟩) ⟨bw_blind nx_call, va_recv hK (hP 0 _ rfl) (ci := 6) (q0 := 0) rfl rfl, fun U hU hW => ⟨rfl, by rw [hU], by rw [hU]; exact hP.sub [0] rfl, va_K.moved hW.alike hK, (hN.sub [0] (by decide) rfl).weaken (fun _ _ => trivial), nx_warm hW hnx⟩⟩ rfl rfl hl.1 rfl (Nat.le_of_ble_eq_true rfl) d_Mod_same_1 ⟨Nat.le_of_ble_eq_true rfl, Nat.le_of_ble_eq_true rfl⟩) hP hN hS hA rfl rfl rfl (fun H locs hP hS => ?_)
  refine lv_if_ne (tgt := 11) hx hb d_Mod_same_4 (by decide) (fun c4 => ?_) (fun c4 => ?_)
  · have h := ite_f c4 h
    refine lv_iconst (v := 0) hx hb d_Mod_same_11 (by decide) ?_
    obtain ⟨rfl, rfl⟩ := res2 h
    exact W.zret hx hb hr rfl (fun t ht hW => ⟨rfl, by rw [ht]; exact hP, hS.F ht⟩) hS.2.2 d_Mod_same_12
  · have h := ite_t c4 h
    refine lv_iconst (v := 1) hx hb d_Mod_same_7 (by decide) ?_
    refine lv_goto (tgt := 12) hx hb d_Mod_same_8 (by decide) ?_
    obtain ⟨rfl, rfl⟩ := res2 h
    exact W.zret hx hb hr rfl (fun t ht hW => ⟨rfl, by rw [ht]; exact hP, hS.F ht⟩) hS.2.2 d_Mod_same_12
def F_Mod_reckoned  (o0 : Ob) : Option (Int64 × Ob) :=
  some ((g64 o0 23 0), (s32 o0 0 0 (0 : Int32)))
abbrev ws_Mod_reckoned : List Cond := Cond.code y_Mod_reckoned b_Mod_reckoned 1 (some .long) :: wsAll
abbrev rm_Mod_reckoned : Room := { frames := 0, cells := 0, slots := 0, locals := 0 }
set_option maxHeartbeats 4000000 in
set_option maxRecDepth 100000 in
theorem c_Mod_reckoned (l : Launch) (ct dC : Nat → ClassId) (dI : Nat → Nat → Nat) (a0 : Nat → Nat)  (sz : Nat)  (o0 : Ob) (r : Int64) (n0 : Ob) (hF : F_Mod_reckoned o0 = some (r, n0)) : Met l y_Mod_reckoned ws_Mod_reckoned rm_Mod_reckoned (bw_Pc [.ref (a0 0)] (dC, dI) vwCl (tyA ct) [wMod ct a0 o0] sz nx) (bw_Q (dC, dI) vwCl (some (.long r)) [wMod ct a0 n0] (bw_A [adMod a0] sz)) 0 0 (bw_A [adMod a0] sz) := by
  refine Met.ofW (cc := b_Mod_reckoned) (maxL := 1) (ret := (some .long)) (by decide) rfl ?_
  intro p e s m args below meth c s₁ B hml hv
  obtain ⟨rfl, hsz, hP, hK, hN0, hnx⟩ := hv
  have hx := B.exec
  have hb := B.bytes
  have hr := B.returns
  have hts : ∀ w ∈ wsAll, w.before [.ref (a0 0)].toArray s = true := fun w h9 => atoms_spec (ws := ws_Mod_reckoned) B.pre w (List.mem_cons_of_mem _ h9)
  have hown : s.vm.findClass R_Mod = some m.cls := findClass_of_methodNamed B.named
  have hlocks := B.notSynchronized
  subst hsz
  have hN : bw_N (bw_A [adMod a0] s.heap.size) [adMod a0] := hN0.self s.heap.size
  generalize hAe : bw_A [adMod a0] s.heap.size = A at hN ⊢
  have hA : ∀ q : Nat, s.heap.size ≤ q → A q := fun q h => by rw [← hAe]; exact Or.inr h
  have hS : va_S A s.heap s.heap [] := va_S.rf
  have hl := lv_entry ([.ref (a0 0)]) (n := 1) (Nat.le_of_ble_eq_true rfl)
  rw [lg_entry_eq]
  generalize (lg_sl ([.ref (a0 0)]) ++ List.replicate (1 - (lg_sl ([.ref (a0 0)])).length) Slot.unset).toArray = ls at hl ⊢
  have hl : lv_has ls 1 [(0, .ref (a0 0))] := hl
  have C0 : cx wsAll vwCl nx p s m [.ref (a0 0)].toArray meth c (dC, dI) (tyA ct) b_Mod_reckoned 1 (some .long) R_Mod A [adMod a0] := ⟨hx, hb, hr, hml, hown, hlocks, hts, hK, hN, hA, hnx⟩
  have h := hF
  rw [F_Mod_reckoned] at h
  refine lv_aload_n hx hb d_Mod_reckoned_0 rfl (lv_at hl 0 rfl) ?_
  refine lv_iconst (v := 0) hx hb d_Mod_reckoned_1 (by decide) ?_
  refine pt_Mod_0 hx hb hts hown hK hP hN hS 0 rfl (hts _ fl_Mod_84) d_Mod_reckoned_2 (fun H locs hP hS => ?_)
  have hP : bw_P (dC, dI) vwCl [wMod ct a0 (s32 o0 0 0 (0 : Int32))] H := hP
  refine lv_aload_n hx hb d_Mod_reckoned_5 rfl (lv_at hl 0 rfl) ?_
  refine va_get (D := (dC, dI)) (ci := 6) (v := .long (g64 o0 23 0)) (C := R_Mod) (T := T_Mod) (N := 36) hx hb hts in_Mod hown hK (hP 0 _ rfl) 0 rfl rfl 23 (by decide) (hts _ fl_Mod_232) (fun _ h9 => h9) rfl d_Mod_reckoned_6 ?_
  obtain ⟨rfl, rfl⟩ := res2 h
  exact W.lret hx hb hr (fun t ht hW => ⟨rfl, by rw [ht]; exact hP, hS.F ht⟩) hS.2.2 d_Mod_reckoned_9
def F_Mod_insert_5  : Nat → Int32 → Int32 → Int32 → Ob → Option (Ob)
  | 0, _, _, _, _ => none
  | n + 1, x1, x2, x3, o0 =>
    if x3 ≤ x1 then (chk (inb x1 900) (some (s32 (s32 o0 32 (Int32.toNatClampNeg x1) x2) 33 0 ((g32 o0 33 0) + (1 : Int32))))) else (chk (inb (x3 - (1 : Int32)) 900) (chk (inb x3 900) (F_Mod_insert_5 n x1 x2 (x3 + (-1 : Int32)) (s32 o0 32 (Int32.toNatClampNeg x3) (g32 o0 32 (Int32.toNatClampNeg (x3 - (1 : Int32))))))))
def F_Mod_insert (x1 : Int32) (x2 : Int32) (o0 : Ob) : Option (Ob) :=
  F_Mod_insert_5 fuel x1 x2 (g32 o0 33 0) o0
abbrev ws_Mod_insert : List Cond := Cond.code y_Mod_insert b_Mod_insert 4 (none : Option Jvm.ClassFile.FieldType) :: wsAll
abbrev rm_Mod_insert : Room := { frames := 0, cells := 0, slots := 0, locals := 0 }
set_option maxHeartbeats 4000000 in
set_option maxRecDepth 100000 in
theorem k_Mod_insert_5 {p : Program} {l : Launch} {e : Env} {s : State} {m : MethodId} {args : Array Value} {below : List Frame} {meth : Method} {c : Code} {A : Nat → Prop} {ct dC : Nat → ClassId} {dI : Nat → Nat → Nat} {a0 : Nat → Nat}  {n0 : Ob}   (C0 : cx wsAll vwCl nx p s m args meth c (dC, dI) (tyA ct) b_Mod_insert 4 (none : Option Jvm.ClassFile.FieldType) R_Mod A [adMod a0])  : ∀ (n : Nat) (x1 : Int32) (x2 : Int32) (x3 : Int32) (o0 : Ob) (H : Heap) (locs : List Loc) (ls : Array Slot), bw_P (dC, dI) vwCl [wMod ct a0 o0] H → va_S A s.heap H locs → lv_has ls 4 [(0, .ref (a0 0)), (1, .int x1), (2, .int x2), (3, .int x3)] → F_Mod_insert_5 n x1 x2 x3 o0 = some n0 → W p l e (headSpec ws_Mod_insert rm_Mod_insert).room s m args below meth c H locs 0 0 (MQ below (bw_Q (dC, dI) vwCl none [wMod ct a0 n0] A) args s 0 0 A) (F0 m 5 ls []) := by
  obtain ⟨hx, hb, hr, hml, hown, hlocks, hts, hK, hN, hA, hnx⟩ := id C0
  intro n
  induction n with
  | zero =>
    intro x1 x2 x3 o0 H locs ls hP hS hl h
    cases h
  | succ n ih =>
    intro x1 x2 x3 o0 H locs ls hP hS hl h
    rw [F_Mod_insert_5] at h
    refine lv_iload_n hx hb d_Mod_insert_5 rfl (lv_at hl 3 rfl) ?_
    refine lv_iload_n hx hb d_Mod_insert_6 rfl (lv_at hl 1 rfl) ?_
    refine lv_icmp_le (tgt := 30) hx hb d_Mod_insert_7 (by decide) (fun c1 => ?_) (fun c1 => ?_)
    · have h := ite_t c1 h
      refine lv_aload_n hx hb d_Mod_insert_30 rfl (lv_at hl 0 rfl) ?_
      refine va_get (D := (dC, dI)) (ci := 6) (v := .ref (a0 22)) (C := R_Mod) (T := T_Mod) (N := 36) hx hb hts in_Mod hown hK (hP 0 _ rfl) 0 rfl rfl 32 (by decide) (hts _ fl_Mod_75) (fun _ h9 => h9) rfl d_Mod_insert_31 ?_
      refine lv_iload_n hx hb d_Mod_insert_34 rfl (lv_at hl 1 rfl) ?_
      refine lv_iload_n hx hb d_Mod_insert_35 rfl (lv_at hl 2 rfl) ?_
      obtain ⟨hi2, h⟩ := chk_some h
      refine st_Mod_32 hx hb hK hP hN hS 0 rfl (inb_in hi2) d_Mod_insert_36 (fun H locs hP hS => ?_)
      have hP : bw_P (dC, dI) vwCl [wMod ct a0 (s32 o0 32 (Int32.toNatClampNeg x1) x2)] H := hP
      refine lv_aload_n hx hb d_Mod_insert_37 rfl (lv_at hl 0 rfl) ?_
      refine lv_dup hx hb d_Mod_insert_38 rfl ?_
      refine va_get (D := (dC, dI)) (ci := 6) (v := .int (g32 o0 33 0)) (C := R_Mod) (T := T_Mod) (N := 36) hx hb hts in_Mod hown hK (hP 0 _ rfl) 0 rfl rfl 33 (by decide) (hts _ fl_Mod_255) (fun _ h9 => h9) rfl d_Mod_insert_39 ?_
      refine lv_iconst (v := 1) hx hb d_Mod_insert_42 (by decide) ?_
      refine lv_iadd hx hb d_Mod_insert_43 ?_
      refine pt_Mod_33 hx hb hts hown hK hP hN hS 0 rfl (hts _ fl_Mod_255) d_Mod_insert_44 (fun H locs hP hS => ?_)
      have hP : bw_P (dC, dI) vwCl [wMod ct a0 (s32 (s32 o0 32 (Int32.toNatClampNeg x1) x2) 33 0 ((g32 o0 33 0) + (1 : Int32)))] H := hP
      obtain rfl := res1 h
      exact W.vret hx hb hr (fun t ht hW => ⟨rfl, by rw [ht]; exact hP, hS.F ht⟩) hS.2.2 d_Mod_insert_47
    · have h := ite_f c1 h
      refine lv_aload_n hx hb d_Mod_insert_10 rfl (lv_at hl 0 rfl) ?_
      refine va_get (D := (dC, dI)) (ci := 6) (v := .ref (a0 22)) (C := R_Mod) (T := T_Mod) (N := 36) hx hb hts in_Mod hown hK (hP 0 _ rfl) 0 rfl rfl 32 (by decide) (hts _ fl_Mod_75) (fun _ h9 => h9) rfl d_Mod_insert_11 ?_
      refine lv_iload_n hx hb d_Mod_insert_14 rfl (lv_at hl 3 rfl) ?_
      refine lv_aload_n hx hb d_Mod_insert_15 rfl (lv_at hl 0 rfl) ?_
      refine va_get (D := (dC, dI)) (ci := 6) (v := .ref (a0 22)) (C := R_Mod) (T := T_Mod) (N := 36) hx hb hts in_Mod hown hK (hP 0 _ rfl) 0 rfl rfl 32 (by decide) (hts _ fl_Mod_75) (fun _ h9 => h9) rfl d_Mod_insert_16 ?_
      refine lv_iload_n hx hb d_Mod_insert_19 rfl (lv_at hl 3 rfl) ?_
      refine lv_iconst (v := 1) hx hb d_Mod_insert_20 (by decide) ?_
      refine lv_isub hx hb d_Mod_insert_21 ?_
      obtain ⟨hi3, h⟩ := chk_some h
      refine va_iald (f := g32 o0 32) hx hb hK (hP 0 _ rfl) 22 0 rfl rfl (inb_in hi3) d_Mod_insert_22 ?_
      obtain ⟨hi4, h⟩ := chk_some h
      refine st_Mod_32 hx hb hK hP hN hS 0 rfl (inb_in hi4) d_Mod_insert_23 (fun H locs hP hS => ?_)
      have hP : bw_P (dC, dI) vwCl [wMod ct a0 (s32 o0 32 (Int32.toNatClampNeg x3) (g32 o0 32 (Int32.toNatClampNeg (x3 - (1 : Int32)))))] H := hP
      refine lv_iinc (v := (x3 + (-1 : Int32))) (lv' := [(3, .int (x3 + (-1 : Int32))), (0, .ref (a0 0)), (1, .int x1), (2, .int x2)]) hx hb d_Mod_insert_24 hl (k := 3) rfl rfl (by decide) rfl (fun ls hl => ?_)
      refine lv_goto (tgt := 5) hx hb d_Mod_insert_27 (by decide) ?_
      exact ih x1 x2 (x3 + (-1 : Int32)) (s32 o0 32 (Int32.toNatClampNeg x3) (g32 o0 32 (Int32.toNatClampNeg (x3 - (1 : Int32))))) _ _ _ hP hS (lv_sub hl [1, 2, 3, 0] rfl) h
set_option maxHeartbeats 4000000 in
set_option maxRecDepth 100000 in
theorem c_Mod_insert (l : Launch) (ct dC : Nat → ClassId) (dI : Nat → Nat → Nat) (a0 : Nat → Nat)  (sz : Nat) (x1 : Int32) (x2 : Int32) (o0 : Ob) (n0 : Ob) (hF : F_Mod_insert x1 x2 o0 = some n0) : Met l y_Mod_insert ws_Mod_insert rm_Mod_insert (bw_Pc [.ref (a0 0), .int x1, .int x2] (dC, dI) vwCl (tyA ct) [wMod ct a0 o0] sz nx) (bw_Q (dC, dI) vwCl none [wMod ct a0 n0] (bw_A [adMod a0] sz)) 0 0 (bw_A [adMod a0] sz) := by
  refine Met.ofW (cc := b_Mod_insert) (maxL := 4) (ret := (none : Option Jvm.ClassFile.FieldType)) (by decide) rfl ?_
  intro p e s m args below meth c s₁ B hml hv
  obtain ⟨rfl, hsz, hP, hK, hN0, hnx⟩ := hv
  have hx := B.exec
  have hb := B.bytes
  have hr := B.returns
  have hts : ∀ w ∈ wsAll, w.before [.ref (a0 0), .int x1, .int x2].toArray s = true := fun w h9 => atoms_spec (ws := ws_Mod_insert) B.pre w (List.mem_cons_of_mem _ h9)
  have hown : s.vm.findClass R_Mod = some m.cls := findClass_of_methodNamed B.named
  have hlocks := B.notSynchronized
  subst hsz
  have hN : bw_N (bw_A [adMod a0] s.heap.size) [adMod a0] := hN0.self s.heap.size
  generalize hAe : bw_A [adMod a0] s.heap.size = A at hN ⊢
  have hA : ∀ q : Nat, s.heap.size ≤ q → A q := fun q h => by rw [← hAe]; exact Or.inr h
  have hS : va_S A s.heap s.heap [] := va_S.rf
  have hl := lv_entry ([.ref (a0 0), .int x1, .int x2]) (n := 4) (Nat.le_of_ble_eq_true rfl)
  rw [lg_entry_eq]
  generalize (lg_sl ([.ref (a0 0), .int x1, .int x2]) ++ List.replicate (4 - (lg_sl ([.ref (a0 0), .int x1, .int x2])).length) Slot.unset).toArray = ls at hl ⊢
  have hl : lv_has ls 4 [(0, .ref (a0 0)), (1, .int x1), (2, .int x2)] := hl
  have C0 : cx wsAll vwCl nx p s m [.ref (a0 0), .int x1, .int x2].toArray meth c (dC, dI) (tyA ct) b_Mod_insert 4 (none : Option Jvm.ClassFile.FieldType) R_Mod A [adMod a0] := ⟨hx, hb, hr, hml, hown, hlocks, hts, hK, hN, hA, hnx⟩
  have h := hF
  rw [F_Mod_insert] at h
  refine lv_aload_n hx hb d_Mod_insert_0 rfl (lv_at hl 0 rfl) ?_
  refine va_get (D := (dC, dI)) (ci := 6) (v := .int (g32 o0 33 0)) (C := R_Mod) (T := T_Mod) (N := 36) hx hb hts in_Mod hown hK (hP 0 _ rfl) 0 rfl rfl 33 (by decide) (hts _ fl_Mod_255) (fun _ h9 => h9) rfl d_Mod_insert_1 ?_
  refine lv_istore_n (lv' := [(3, .int (g32 o0 33 0)), (0, .ref (a0 0)), (1, .int x1), (2, .int x2)]) hx hb d_Mod_insert_4 rfl hl (by decide) rfl (fun ls hl => ?_)
  exact k_Mod_insert_5 C0 fuel x1 x2 (g32 o0 33 0) o0 _ _ _ hP hS (lv_sub hl [1, 2, 3, 0] rfl) h
def F_Mod_add (x1 : Int32) (o0 : Ob) : Option (Ob) :=
  chk (inb (g32 o0 33 0) 900) (some (s32 (s32 o0 32 (Int32.toNatClampNeg (g32 o0 33 0)) x1) 33 0 ((g32 o0 33 0) + (1 : Int32))))
abbrev ws_Mod_add : List Cond := Cond.code y_Mod_add b_Mod_add 2 (none : Option Jvm.ClassFile.FieldType) :: wsAll
abbrev rm_Mod_add : Room := { frames := 0, cells := 0, slots := 0, locals := 0 }
set_option maxHeartbeats 4000000 in
set_option maxRecDepth 100000 in
theorem c_Mod_add (l : Launch) (ct dC : Nat → ClassId) (dI : Nat → Nat → Nat) (a0 : Nat → Nat)  (sz : Nat) (x1 : Int32) (o0 : Ob) (n0 : Ob) (hF : F_Mod_add x1 o0 = some n0) : Met l y_Mod_add ws_Mod_add rm_Mod_add (bw_Pc [.ref (a0 0), .int x1] (dC, dI) vwCl (tyA ct) [wMod ct a0 o0] sz nx) (bw_Q (dC, dI) vwCl none [wMod ct a0 n0] (bw_A [adMod a0] sz)) 0 0 (bw_A [adMod a0] sz) := by
  refine Met.ofW (cc := b_Mod_add) (maxL := 2) (ret := (none : Option Jvm.ClassFile.FieldType)) (by decide) rfl ?_
  intro p e s m args below meth c s₁ B hml hv
  obtain ⟨rfl, hsz, hP, hK, hN0, hnx⟩ := hv
  have hx := B.exec
  have hb := B.bytes
  have hr := B.returns
  have hts : ∀ w ∈ wsAll, w.before [.ref (a0 0), .int x1].toArray s = true := fun w h9 => atoms_spec (ws := ws_Mod_add) B.pre w (List.mem_cons_of_mem _ h9)
  have hown : s.vm.findClass R_Mod = some m.cls := findClass_of_methodNamed B.named
  have hlocks := B.notSynchronized
  subst hsz
  have hN : bw_N (bw_A [adMod a0] s.heap.size) [adMod a0] := hN0.self s.heap.size
  generalize hAe : bw_A [adMod a0] s.heap.size = A at hN ⊢
  have hA : ∀ q : Nat, s.heap.size ≤ q → A q := fun q h => by rw [← hAe]; exact Or.inr h
  have hS : va_S A s.heap s.heap [] := va_S.rf
  have hl := lv_entry ([.ref (a0 0), .int x1]) (n := 2) (Nat.le_of_ble_eq_true rfl)
  rw [lg_entry_eq]
  generalize (lg_sl ([.ref (a0 0), .int x1]) ++ List.replicate (2 - (lg_sl ([.ref (a0 0), .int x1])).length) Slot.unset).toArray = ls at hl ⊢
  have hl : lv_has ls 2 [(0, .ref (a0 0)), (1, .int x1)] := hl
  have C0 : cx wsAll vwCl nx p s m [.ref (a0 0), .int x1].toArray meth c (dC, dI) (tyA ct) b_Mod_add 2 (none : Option Jvm.ClassFile.FieldType) R_Mod A [adMod a0] := ⟨hx, hb, hr, hml, hown, hlocks, hts, hK, hN, hA, hnx⟩
  have h := hF
  rw [F_Mod_add] at h
  refine lv_aload_n hx hb d_Mod_add_0 rfl (lv_at hl 0 rfl) ?_
  refine va_get (D := (dC, dI)) (ci := 6) (v := .ref (a0 22)) (C := R_Mod) (T := T_Mod) (N := 36) hx hb hts in_Mod hown hK (hP 0 _ rfl) 0 rfl rfl 32 (by decide) (hts _ fl_Mod_75) (fun _ h9 => h9) rfl d_Mod_add_1 ?_
  refine lv_aload_n hx hb d_Mod_add_4 rfl (lv_at hl 0 rfl) ?_
  refine va_get (D := (dC, dI)) (ci := 6) (v := .int (g32 o0 33 0)) (C := R_Mod) (T := T_Mod) (N := 36) hx hb hts in_Mod hown hK (hP 0 _ rfl) 0 rfl rfl 33 (by decide) (hts _ fl_Mod_255) (fun _ h9 => h9) rfl d_Mod_add_5 ?_
  refine lv_iload_n hx hb d_Mod_add_8 rfl (lv_at hl 1 rfl) ?_
  obtain ⟨hi1, h⟩ := chk_some h
  refine st_Mod_32 hx hb hK hP hN hS 0 rfl (inb_in hi1) d_Mod_add_9 (fun H locs hP hS => ?_)
  have hP : bw_P (dC, dI) vwCl [wMod ct a0 (s32 o0 32 (Int32.toNatClampNeg (g32 o0 33 0)) x1)] H := hP
  refine lv_aload_n hx hb d_Mod_add_10 rfl (lv_at hl 0 rfl) ?_
  refine lv_dup hx hb d_Mod_add_11 rfl ?_
  refine va_get (D := (dC, dI)) (ci := 6) (v := .int (g32 o0 33 0)) (C := R_Mod) (T := T_Mod) (N := 36) hx hb hts in_Mod hown hK (hP 0 _ rfl) 0 rfl rfl 33 (by decide) (hts _ fl_Mod_255) (fun _ h9 => h9) rfl d_Mod_add_12 ?_
  refine lv_iconst (v := 1) hx hb d_Mod_add_15 (by decide) ?_
  refine lv_iadd hx hb d_Mod_add_16 ?_
  refine pt_Mod_33 hx hb hts hown hK hP hN hS 0 rfl (hts _ fl_Mod_255) d_Mod_add_17 (fun H locs hP hS => ?_)
  have hP : bw_P (dC, dI) vwCl [wMod ct a0 (s32 (s32 o0 32 (Int32.toNatClampNeg (g32 o0 33 0)) x1) 33 0 ((g32 o0 33 0) + (1 : Int32)))] H := hP
  obtain rfl := res1 h
  exact W.vret hx hb hr (fun t ht hW => ⟨rfl, by rw [ht]; exact hP, hS.F ht⟩) hS.2.2 d_Mod_add_20
theorem g_Mod_258 : GoodIn wsAll (wsV R_Mod 258 R_Mod y_Mod_add ws_Mod_add) := gd_V ml_Mod_258 im_Mod_add se_Mod_add ini_Mod cd_Mod_add
def F_Mod_addWhole_20  : Nat → Int32 → Int32 → Ob → Option (Ob)
  | 0, _, _, _ => none
  | n + 1, x1, x3, o0 =>
    if x3 ≤ 0 then (some o0) else (chk (decide (¬ x3 = 0)) (chk (decide (¬ (10 : Int32) = 0)) (bind1 (F_Mod_add ((48 : Int32) + ((x1 / x3) - (x1 / x3) / (10 : Int32) * (10 : Int32))) o0) (fun o_7 => F_Mod_addWhole_20 n x1 (x3 / (10 : Int32)) o_7))))
def F_Mod_addWhole_2  : Nat → Int32 → Int32 → Ob → Option (Ob)
  | 0, _, _, _ => none
  | n + 1, x1, x2, o0 =>
    chk (decide (¬ x2 = 0)) (if (x1 / x2) ≤ (9 : Int32) then (F_Mod_addWhole_20 fuel x1 x2 o0) else (F_Mod_addWhole_2 n x1 ((10 : Int32) * x2) o0))
def F_Mod_addWhole (x1 : Int32) (o0 : Ob) : Option (Ob) :=
  F_Mod_addWhole_2 fuel x1 (1 : Int32) o0
abbrev ws_Mod_addWhole : List Cond := Cond.code y_Mod_addWhole b_Mod_addWhole 4 (none : Option Jvm.ClassFile.FieldType) :: wsAll
abbrev rm_Mod_addWhole : Room := { frames := 1, cells := 0, slots := 0, locals := 21 }
set_option maxHeartbeats 4000000 in
set_option maxRecDepth 100000 in
theorem k_Mod_addWhole_20 {p : Program} {l : Launch} {e : Env} {s : State} {m : MethodId} {args : Array Value} {below : List Frame} {meth : Method} {c : Code} {A : Nat → Prop} {ct dC : Nat → ClassId} {dI : Nat → Nat → Nat} {a0 : Nat → Nat}  {n0 : Ob}   (C0 : cx wsAll vwCl nx p s m args meth c (dC, dI) (tyA ct) b_Mod_addWhole 4 (none : Option Jvm.ClassFile.FieldType) R_Mod A [adMod a0])  : ∀ (n : Nat) (x1 : Int32) (x3 : Int32) (o0 : Ob) (H : Heap) (locs : List Loc) (ls : Array Slot), bw_P (dC, dI) vwCl [wMod ct a0 o0] H → va_S A s.heap H locs → lv_has ls 4 [(0, .ref (a0 0)), (1, .int x1), (3, .int x3)] → F_Mod_addWhole_20 n x1 x3 o0 = some n0 → W p l e (headSpec ws_Mod_addWhole rm_Mod_addWhole).room s m args below meth c H locs 0 0 (MQ below (bw_Q (dC, dI) vwCl none [wMod ct a0 n0] A) args s 0 0 A) (F0 m 20 ls []) := by
  obtain ⟨hx, hb, hr, hml, hown, hlocks, hts, hK, hN, hA, hnx⟩ := id C0
  intro n
  induction n with
  | zero =>
    intro x1 x3 o0 H locs ls hP hS hl h
    cases h
  | succ n ih =>
    intro x1 x3 o0 H locs ls hP hS hl h
    rw [F_Mod_addWhole_20] at h
    refine lv_iload_n hx hb d_Mod_addWhole_20 rfl (lv_at hl 2 rfl) ?_
    refine lv_if_le (tgt := 45) hx hb d_Mod_addWhole_21 (by decide) (fun c3 => ?_) (fun c3 => ?_)
    · have h := ite_t c3 h
      obtain rfl := res1 h
      exact W.vret hx hb hr (fun t ht hW => ⟨rfl, by rw [ht]; exact hP, hS.F ht⟩) hS.2.2 d_Mod_addWhole_45
    · have h := ite_f c3 h
      refine lv_aload_n hx hb d_Mod_addWhole_24 rfl (lv_at hl 0 rfl) ?_
      refine lv_bipush (v := 48) hx hb d_Mod_addWhole_25 (by decide) ?_
      refine lv_iload_n hx hb d_Mod_addWhole_27 rfl (lv_at hl 1 rfl) ?_
      refine lv_iload_n hx hb d_Mod_addWhole_28 rfl (lv_at hl 2 rfl) ?_
      obtain ⟨hz4, h⟩ := chk_some h
      refine lv_idiv hx hb d_Mod_addWhole_29 (of_decide_eq_true hz4) ?_
      refine lv_bipush (v := 10) hx hb d_Mod_addWhole_30 (by decide) ?_
      obtain ⟨hz5, h⟩ := chk_some h
      refine lv_irem hx hb d_Mod_addWhole_32 (of_decide_eq_true hz5) ?_
      refine lv_iadd hx hb d_Mod_addWhole_33 ?_
      obtain ⟨o_7, hG6, h⟩ := bind1_some h
      refine bw_call (Lc := [wMod ct a0 o0]) (Lc' := [wMod ct a0 o_7]) (L' := [wMod ct a0 o_7]) [0] (va_runV (As := [.int ((48 : Int32) + ((x1 / x3) - (x1 / x3) / (10 : Int32) * (10 : Int32)))]) (rest := []) ⟨hx, hb, hml, hown, hts⟩ (c_Mod_add l ct dC dI a0 _ ((48 : Int32) + ((x1 / x3) - (x1 / x3) / (10 : Int32) * (10 : Int32))) o0 o_7 hG6) (cwV 1 hts g_Mod_258 rfl rfl rfl (by decide +kernel) ⟨Nat.le_of_ble_eq_true rfl, Nat.le_of_ble_eq_true rfl⟩) ⟨bw_blind nx_call, va_recv hK (hP 0 _ rfl) (ci := 6) (q0 := 0) rfl rfl, fun U hU hW => ⟨rfl, by rw [hU], by rw [hU]; exact hP.sub [0] rfl, va_K.moved hW.alike hK, (hN.sub [0] (by decide) rfl).weaken (fun _ _ => trivial), nx_warm hW hnx⟩⟩ rfl rfl hl.1 rfl (Nat.le_of_ble_eq_true rfl) d_Mod_addWhole_34 ⟨Nat.le_of_ble_eq_true rfl, Nat.le_of_ble_eq_true rfl⟩) hP hN hS hA rfl rfl rfl (fun H locs hP hS => ?_)
      refine lv_iload_n hx hb d_Mod_addWhole_37 rfl (lv_at hl 2 rfl) ?_
      refine lv_bipush (v := 10) hx hb d_Mod_addWhole_38 (by decide) ?_
      refine lv_idiv hx hb d_Mod_addWhole_40 (of_decide_eq_true hz5) ?_
      refine lv_istore_n (lv' := [(3, .int (x3 / (10 : Int32))), (0, .ref (a0 0)), (1, .int x1)]) hx hb d_Mod_addWhole_41 rfl hl (by decide) rfl (fun ls hl => ?_)
      refine lv_goto (tgt := 20) hx hb d_Mod_addWhole_42 (by decide) ?_
      exact ih x1 (x3 / (10 : Int32)) o_7 _ _ _ hP hS (lv_sub hl [1, 2, 0] rfl) h
set_option maxHeartbeats 4000000 in
set_option maxRecDepth 100000 in
theorem k_Mod_addWhole_2 {p : Program} {l : Launch} {e : Env} {s : State} {m : MethodId} {args : Array Value} {below : List Frame} {meth : Method} {c : Code} {A : Nat → Prop} {ct dC : Nat → ClassId} {dI : Nat → Nat → Nat} {a0 : Nat → Nat}  {n0 : Ob}   (C0 : cx wsAll vwCl nx p s m args meth c (dC, dI) (tyA ct) b_Mod_addWhole 4 (none : Option Jvm.ClassFile.FieldType) R_Mod A [adMod a0])  : ∀ (n : Nat) (x1 : Int32) (x2 : Int32) (o0 : Ob) (H : Heap) (locs : List Loc) (ls : Array Slot), bw_P (dC, dI) vwCl [wMod ct a0 o0] H → va_S A s.heap H locs → lv_has ls 4 [(0, .ref (a0 0)), (1, .int x1), (2, .int x2)] → F_Mod_addWhole_2 n x1 x2 o0 = some n0 → W p l e (headSpec ws_Mod_addWhole rm_Mod_addWhole).room s m args below meth c H locs 0 0 (MQ below (bw_Q (dC, dI) vwCl none [wMod ct a0 n0] A) args s 0 0 A) (F0 m 2 ls []) := by
  obtain ⟨hx, hb, hr, hml, hown, hlocks, hts, hK, hN, hA, hnx⟩ := id C0
  intro n
  induction n with
  | zero =>
    intro x1 x2 o0 H locs ls hP hS hl h
    cases h
  | succ n ih =>
    intro x1 x2 o0 H locs ls hP hS hl h
    rw [F_Mod_addWhole_2] at h
    refine lv_iload_n hx hb d_Mod_addWhole_2 rfl (lv_at hl 1 rfl) ?_
    refine lv_iload_n hx hb d_Mod_addWhole_3 rfl (lv_at hl 2 rfl) ?_
    obtain ⟨hz1, h⟩ := chk_some h
    refine lv_idiv hx hb d_Mod_addWhole_4 (of_decide_eq_true hz1) ?_
    refine lv_bipush (v := 9) hx hb d_Mod_addWhole_5 (by decide) ?_
    refine lv_icmp_le (tgt := 18) hx hb d_Mod_addWhole_7 (by decide) (fun c2 => ?_) (fun c2 => ?_)
    · have h := ite_t c2 h
      refine lv_iload_n hx hb d_Mod_addWhole_18 rfl (lv_at hl 2 rfl) ?_
      refine lv_istore_n (lv' := [(3, .int x2), (0, .ref (a0 0)), (1, .int x1), (2, .int x2)]) hx hb d_Mod_addWhole_19 rfl hl (by decide) rfl (fun ls hl => ?_)
      exact k_Mod_addWhole_20 C0 fuel x1 x2 o0 _ _ _ hP hS (lv_sub hl [1, 2, 0] rfl) h
    · have h := ite_f c2 h
      refine lv_bipush (v := 10) hx hb d_Mod_addWhole_10 (by decide) ?_
      refine lv_iload_n hx hb d_Mod_addWhole_12 rfl (lv_at hl 2 rfl) ?_
      refine lv_imul hx hb d_Mod_addWhole_13 ?_
      refine lv_istore_n (lv' := [(2, .int ((10 : Int32) * x2)), (0, .ref (a0 0)), (1, .int x1)]) hx hb d_Mod_addWhole_14 rfl hl (by decide) rfl (fun ls hl => ?_)
      refine lv_goto (tgt := 2) hx hb d_Mod_addWhole_15 (by decide) ?_
      exact ih x1 ((10 : Int32) * x2) o0 _ _ _ hP hS (lv_sub hl [1, 2, 0] rfl) h
set_option maxHeartbeats 4000000 in
set_option maxRecDepth 100000 in
theorem c_Mod_addWhole (l : Launch) (ct dC : Nat → ClassId) (dI : Nat → Nat → Nat) (a0 : Nat → Nat)  (sz : Nat) (x1 : Int32) (o0 : Ob) (n0 : Ob) (hF : F_Mod_addWhole x1 o0 = some n0) : Met l y_Mod_addWhole ws_Mod_addWhole rm_Mod_addWhole (bw_Pc [.ref (a0 0), .int x1] (dC, dI) vwCl (tyA ct) [wMod ct a0 o0] sz nx) (bw_Q (dC, dI) vwCl none [wMod ct a0 n0] (bw_A [adMod a0] sz)) 0 0 (bw_A [adMod a0] sz) := by
  refine Met.ofW (cc := b_Mod_addWhole) (maxL := 4) (ret := (none : Option Jvm.ClassFile.FieldType)) (by decide) rfl ?_
  intro p e s m args below meth c s₁ B hml hv
  obtain ⟨rfl, hsz, hP, hK, hN0, hnx⟩ := hv
  have hx := B.exec
  have hb := B.bytes
  have hr := B.returns
  have hts : ∀ w ∈ wsAll, w.before [.ref (a0 0), .int x1].toArray s = true := fun w h9 => atoms_spec (ws := ws_Mod_addWhole) B.pre w (List.mem_cons_of_mem _ h9)
  have hown : s.vm.findClass R_Mod = some m.cls := findClass_of_methodNamed B.named
  have hlocks := B.notSynchronized
  subst hsz
  have hN : bw_N (bw_A [adMod a0] s.heap.size) [adMod a0] := hN0.self s.heap.size
  generalize hAe : bw_A [adMod a0] s.heap.size = A at hN ⊢
  have hA : ∀ q : Nat, s.heap.size ≤ q → A q := fun q h => by rw [← hAe]; exact Or.inr h
  have hS : va_S A s.heap s.heap [] := va_S.rf
  have hl := lv_entry ([.ref (a0 0), .int x1]) (n := 4) (Nat.le_of_ble_eq_true rfl)
  rw [lg_entry_eq]
  generalize (lg_sl ([.ref (a0 0), .int x1]) ++ List.replicate (4 - (lg_sl ([.ref (a0 0), .int x1])).length) Slot.unset).toArray = ls at hl ⊢
  have hl : lv_has ls 4 [(0, .ref (a0 0)), (1, .int x1)] := hl
  have C0 : cx wsAll vwCl nx p s m [.ref (a0 0), .int x1].toArray meth c (dC, dI) (tyA ct) b_Mod_addWhole 4 (none : Option Jvm.ClassFile.FieldType) R_Mod A [adMod a0] := ⟨hx, hb, hr, hml, hown, hlocks, hts, hK, hN, hA, hnx⟩
  have h := hF
  rw [F_Mod_addWhole] at h
  refine lv_iconst (v := 1) hx hb d_Mod_addWhole_0 (by decide) ?_
  refine lv_istore_n (lv' := [(2, .int (1 : Int32)), (0, .ref (a0 0)), (1, .int x1)]) hx hb d_Mod_addWhole_1 rfl hl (by decide) rfl (fun ls hl => ?_)
  exact k_Mod_addWhole_2 C0 fuel x1 (1 : Int32) o0 _ _ _ hP hS (lv_sub hl [1, 2, 0] rfl) h
theorem g_Mod_261 : GoodIn wsAll (wsV R_Mod 261 R_Mod y_Mod_addWhole ws_Mod_addWhole) := gd_V ml_Mod_261 im_Mod_addWhole se_Mod_addWhole ini_Mod cd_Mod_addWhole
def F_Mod_addNumber_28  : Nat → Int32 → Int32 → Ob → Option (Ob)
  | 0, _, _, _ => none
  | n + 1, x2, x3, o0 =>
    if x2 ≤ 0 then (some o0) else (chk (decide (¬ x3 = 0)) (bind1 (F_Mod_add ((48 : Int32) + (x2 / x3)) o0) (fun o_11 => chk (decide (¬ (10 : Int32) = 0)) (F_Mod_addNumber_28 n (x2 - x2 / x3 * x3) (x3 / (10 : Int32)) o_11))))
def F_Mod_addNumber (x1 : Int32) (o0 : Ob) : Option (Ob) :=
  chk (decide (¬ (1000 : Int32) = 0)) (bind1 (F_Mod_addWhole (x1 / (1000 : Int32)) o0) (fun o_3 => if (x1 - x1 / (1000 : Int32) * (1000 : Int32)) ≤ 0 then (F_Mod_addNumber_28 fuel (x1 - x1 / (1000 : Int32) * (1000 : Int32)) (100 : Int32) o_3) else (bind1 (F_Mod_add (46 : Int32) o_3) (fun o_7 => F_Mod_addNumber_28 fuel (x1 - x1 / (1000 : Int32) * (1000 : Int32)) (100 : Int32) o_7))))
abbrev ws_Mod_addNumber : List Cond := Cond.code y_Mod_addNumber b_Mod_addNumber 4 (none : Option Jvm.ClassFile.FieldType) :: wsAll
abbrev rm_Mod_addNumber : Room := { frames := 2, cells := 0, slots := 0, locals := 44 }
set_option maxHeartbeats 4000000 in
set_option maxRecDepth 100000 in
theorem k_Mod_addNumber_28 {p : Program} {l : Launch} {e : Env} {s : State} {m : MethodId} {args : Array Value} {below : List Frame} {meth : Method} {c : Code} {A : Nat → Prop} {ct dC : Nat → ClassId} {dI : Nat → Nat → Nat} {a0 : Nat → Nat}  {n0 : Ob}   (C0 : cx wsAll vwCl nx p s m args meth c (dC, dI) (tyA ct) b_Mod_addNumber 4 (none : Option Jvm.ClassFile.FieldType) R_Mod A [adMod a0])  : ∀ (n : Nat) (x2 : Int32) (x3 : Int32) (o0 : Ob) (H : Heap) (locs : List Loc) (ls : Array Slot), bw_P (dC, dI) vwCl [wMod ct a0 o0] H → va_S A s.heap H locs → lv_has ls 4 [(0, .ref (a0 0)), (2, .int x2), (3, .int x3)] → F_Mod_addNumber_28 n x2 x3 o0 = some n0 → W p l e (headSpec ws_Mod_addNumber rm_Mod_addNumber).room s m args below meth c H locs 0 0 (MQ below (bw_Q (dC, dI) vwCl none [wMod ct a0 n0] A) args s 0 0 A) (F0 m 28 ls []) := by
  obtain ⟨hx, hb, hr, hml, hown, hlocks, hts, hK, hN, hA, hnx⟩ := id C0
  intro n
  induction n with
  | zero =>
    intro x2 x3 o0 H locs ls hP hS hl h
    cases h
  | succ n ih =>
    intro x2 x3 o0 H locs ls hP hS hl h
    rw [F_Mod_addNumber_28] at h
    refine lv_iload_n hx hb d_Mod_addNumber_28 rfl (lv_at hl 1 rfl) ?_
    refine lv_if_le (tgt := 54) hx hb d_Mod_addNumber_29 (by decide) (fun c8 => ?_) (fun c8 => ?_)
    · have h := ite_t c8 h
      obtain rfl := res1 h
      exact W.vret hx hb hr (fun t ht hW => ⟨rfl, by rw [ht]; exact hP, hS.F ht⟩) hS.2.2 d_Mod_addNumber_54
    · have h := ite_f c8 h
      refine lv_aload_n hx hb d_Mod_addNumber_32 rfl (lv_at hl 0 rfl) ?_
      refine lv_bipush (v := 48) hx hb d_Mod_addNumber_33 (by decide) ?_
      refine lv_iload_n hx hb d_Mod_addNumber_35 rfl (lv_at hl 1 rfl) ?_
      refine lv_iload_n hx hb d_Mod_addNumber_36 rfl (lv_at hl 2 rfl) ?_
      obtain ⟨hz9, h⟩ := chk_some h
      refine lv_idiv hx hb d_Mod_addNumber_37 (of_decide_eq_true hz9) ?_
      refine lv_iadd hx hb d_Mod_addNumber_38 ?_
      obtain ⟨o_11, hG10, h⟩ := bind1_some h
      refine bw_call (Lc := [wMod ct a0 o0]) (Lc' := [wMod ct a0 o_11]) (L' := [wMod ct a0 o_11]) [0] (va_runV (As := [.int ((48 : Int32) + (x2 / x3))]) (rest := []) ⟨hx, hb, hml, hown, hts⟩ (c_Mod_add l ct dC dI a0 _ ((48 : Int32) + (x2 / x3)) o0 o_11 hG10) (cwV 1 hts g_Mod_258 rfl rfl rfl (by decide +kernel) ⟨Nat.le_of_ble_eq_true rfl, Nat.le_of_ble_eq_true rfl⟩) ⟨bw_blind nx_call, va_recv hK (hP 0 _ rfl) (ci := 6) (q0 := 0) rfl rfl, fun U hU hW => ⟨rfl, by rw [hU], by rw [hU]; exact hP.sub [0] rfl, va_K.moved hW.alike hK, (hN.sub [0] (by decide) rfl).weaken (fun _ _ => trivial), nx_warm hW hnx⟩⟩ rfl rfl hl.1 rfl (Nat.le_of_ble_eq_true rfl) d_Mod_addNumber_39 ⟨Nat.le_of_ble_eq_true rfl, Nat.le_of_ble_eq_true rfl⟩) hP hN hS hA rfl rfl rfl (fun H locs hP hS => ?_)
      refine lv_iload_n hx hb d_Mod_addNumber_42 rfl (lv_at hl 1 rfl) ?_
      refine lv_iload_n hx hb d_Mod_addNumber_43 rfl (lv_at hl 2 rfl) ?_
      refine lv_irem hx hb d_Mod_addNumber_44 (of_decide_eq_true hz9) ?_
      refine lv_istore_n (lv' := [(2, .int (x2 - x2 / x3 * x3)), (0, .ref (a0 0)), (3, .int x3)]) hx hb d_Mod_addNumber_45 rfl hl (by decide) rfl (fun ls hl => ?_)
      refine lv_iload_n hx hb d_Mod_addNumber_46 rfl (lv_at hl 2 rfl) ?_
      refine lv_bipush (v := 10) hx hb d_Mod_addNumber_47 (by decide) ?_
      obtain ⟨hz13, h⟩ := chk_some h
      refine lv_idiv hx hb d_Mod_addNumber_49 (of_decide_eq_true hz13) ?_
      refine lv_istore_n (lv' := [(3, .int (x3 / (10 : Int32))), (2, .int (x2 - x2 / x3 * x3)), (0, .ref (a0 0))]) hx hb d_Mod_addNumber_50 rfl hl (by decide) rfl (fun ls hl => ?_)
      refine lv_goto (tgt := 28) hx hb d_Mod_addNumber_51 (by decide) ?_
      exact ih (x2 - x2 / x3 * x3) (x3 / (10 : Int32)) o_11 _ _ _ hP hS (lv_sub hl [2, 1, 0] rfl) h
set_option maxHeartbeats 4000000 in
set_option maxRecDepth 100000 in
theorem c_Mod_addNumber (l : Launch) (ct dC : Nat → ClassId) (dI : Nat → Nat → Nat) (a0 : Nat → Nat)  (sz : Nat) (x1 : Int32) (o0 : Ob) (n0 : Ob) (hF : F_Mod_addNumber x1 o0 = some n0) : Met l y_Mod_addNumber ws_Mod_addNumber rm_Mod_addNumber (bw_Pc [.ref (a0 0), .int x1] (dC, dI) vwCl (tyA ct) [wMod ct a0 o0] sz nx) (bw_Q (dC, dI) vwCl none [wMod ct a0 n0] (bw_A [adMod a0] sz)) 0 0 (bw_A [adMod a0] sz) := by
  refine Met.ofW (cc := b_Mod_addNumber) (maxL := 4) (ret := (none : Option Jvm.ClassFile.FieldType)) (by decide) rfl ?_
  intro p e s m args below meth c s₁ B hml hv
  obtain ⟨rfl, hsz, hP, hK, hN0, hnx⟩ := hv
  have hx := B.exec
  have hb := B.bytes
  have hr := B.returns
  have hts : ∀ w ∈ wsAll, w.before [.ref (a0 0), .int x1].toArray s = true := fun w h9 => atoms_spec (ws := ws_Mod_addNumber) B.pre w (List.mem_cons_of_mem _ h9)
  have hown : s.vm.findClass R_Mod = some m.cls := findClass_of_methodNamed B.named
  have hlocks := B.notSynchronized
  subst hsz
  have hN : bw_N (bw_A [adMod a0] s.heap.size) [adMod a0] := hN0.self s.heap.size
  generalize hAe : bw_A [adMod a0] s.heap.size = A at hN ⊢
  have hA : ∀ q : Nat, s.heap.size ≤ q → A q := fun q h => by rw [← hAe]; exact Or.inr h
  have hS : va_S A s.heap s.heap [] := va_S.rf
  have hl := lv_entry ([.ref (a0 0), .int x1]) (n := 4) (Nat.le_of_ble_eq_true rfl)
  rw [lg_entry_eq]
  generalize (lg_sl ([.ref (a0 0), .int x1]) ++ List.replicate (4 - (lg_sl ([.ref (a0 0), .int x1])).length) Slot.unset).toArray = ls at hl ⊢
  have hl : lv_has ls 4 [(0, .ref (a0 0)), (1, .int x1)] := hl
  have C0 : cx wsAll vwCl nx p s m [.ref (a0 0), .int x1].toArray meth c (dC, dI) (tyA ct) b_Mod_addNumber 4 (none : Option Jvm.ClassFile.FieldType) R_Mod A [adMod a0] := ⟨hx, hb, hr, hml, hown, hlocks, hts, hK, hN, hA, hnx⟩
  have h := hF
  rw [F_Mod_addNumber] at h
  refine lv_aload_n hx hb d_Mod_addNumber_0 rfl (lv_at hl 0 rfl) ?_
  refine lv_iload_n hx hb d_Mod_addNumber_1 rfl (lv_at hl 1 rfl) ?_
  refine lv_sipush (v := 1000) hx hb d_Mod_addNumber_2 (by decide) ?_
  obtain ⟨hz1, h⟩ := chk_some h
  refine lv_idiv hx hb d_Mod_addNumber_5 (of_decide_eq_true hz1) ?_
  obtain ⟨o_3, hG2, h⟩ := bind1_some h
  refine bw_call (Lc := [wMod ct a0 o0]) (Lc' := [wMod ct a0 o_3]) (L' := [wMod ct a0 o_3]) [0] (va_runV (As := [.int (x1 / (1000 : Int32))]) (rest := []) ⟨hx, hb, hml, hown, hts⟩ (c_Mod_addWhole l ct dC dI a0 _ (x1 / (1000 : Int32)) o0 o_3 hG2) (cwV 1 hts g_Mod_261 rfl rfl rfl (by decide +kernel) ⟨Nat.le_of_ble_eq_true rfl, Nat.le_of_ble_eq_true rfl⟩) ⟨bw_blind nx_call, va_recv hK (hP 0 _ rfl) (ci := 6) (q0 := 0) rfl rfl, fun U hU hW => ⟨rfl, by rw [hU], by rw [hU]; exact hP.sub [0] rfl, va_K.moved hW.alike hK, (hN.sub [0] (by decide) rfl).weaken (fun _ _ => trivial), nx_warm hW hnx⟩⟩ rfl rfl hl.1 rfl (Nat.le_of_ble_eq_true rfl) d_Mod_addNumber_6 ⟨Nat.le_of_ble_eq_true rfl, Nat.le_of_ble_eq_true rfl⟩) hP hN hS hA rfl rfl rfl (fun H locs hP hS => ?_)
  refine lv_iload_n hx hb d_Mod_addNumber_9 rfl (lv_at hl 1 rfl) ?_
  refine lv_sipush (v := 1000) hx hb d_Mod_addNumber_10 (by decide) ?_
  refine lv_irem hx hb d_Mod_addNumber_13 (of_decide_eq_true hz1) ?_
  refine lv_istore_n (lv' := [(2, .int (x1 - x1 / (1000 : Int32) * (1000 : Int32))), (0, .ref (a0 0)), (1, .int x1)]) hx hb d_Mod_addNumber_14 rfl hl (by decide) rfl (fun ls hl => ?_)
  refine lv_iload_n hx hb d_Mod_addNumber_15 rfl (lv_at hl 0 rfl) ?_
  refine lv_if_le (tgt := 25) hx hb d_Mod_addNumber_16 (by decide) (fun c5 => ?_) (fun c5 => ?_)
  · have h := ite_t c5 h
    refine lv_bipush (v := 100) hx hb d_Mod_addNumber_25 (by decide) ?_
    refine lv_istore_n (lv' := [(3, .int (100 : Int32)), (2, .int (x1 - x1 / (1000 : Int32) * (1000 : Int32))), (0, .ref (a0 0)), (1, .int x1)]) hx hb d_Mod_addNumber_27 rfl hl (by decide) rfl (fun ls hl => ?_)
    exact k_Mod_addNumber_28 C0 fuel (x1 - x1 / (1000 : Int32) * (1000 : Int32)) (100 : Int32) o_3 _ _ _ hP hS (lv_sub hl [2, 1, 0] rfl) h
  · have h := ite_f c5 h
    refine lv_aload_n hx hb d_Mod_addNumber_19 rfl (lv_at hl 1 rfl) ?_
    refine lv_bipush (v := 46) hx hb d_Mod_addNumber_20 (by decide) ?_
    obtain ⟨o_7, hG6, h⟩ := bind1_some h
    refine bw_call (Lc := [wMod ct a0 o_3]) (Lc' := [wMod ct a0 o_7]) (L' := [wMod ct a0 o_7]) [0] (va_runV (As := [.int (46 : Int32)]) (rest := []) ⟨hx, hb, hml, hown, hts⟩ (c_Mod_add l ct dC dI a0 _ (46 : Int32) o_3 o_7 hG6) (cwV 1 hts g_Mod_258 rfl rfl rfl (by decide +kernel) ⟨Nat.le_of_ble_eq_true rfl, Nat.le_of_ble_eq_true rfl⟩) ⟨bw_blind nx_call, va_recv hK (hP 0 _ rfl) (ci := 6) (q0 := 0) rfl rfl, fun U hU hW => ⟨rfl, by rw [hU], by rw [hU]; exact hP.sub [0] rfl, va_K.moved hW.alike hK, (hN.sub [0] (by decide) rfl).weaken (fun _ _ => trivial), nx_warm hW hnx⟩⟩ rfl rfl hl.1 rfl (Nat.le_of_ble_eq_true rfl) d_Mod_addNumber_22 ⟨Nat.le_of_ble_eq_true rfl, Nat.le_of_ble_eq_true rfl⟩) hP hN hS hA rfl rfl rfl (fun H locs hP hS => ?_)
    refine lv_bipush (v := 100) hx hb d_Mod_addNumber_25 (by decide) ?_
    refine lv_istore_n (lv' := [(3, .int (100 : Int32)), (2, .int (x1 - x1 / (1000 : Int32) * (1000 : Int32))), (0, .ref (a0 0)), (1, .int x1)]) hx hb d_Mod_addNumber_27 rfl hl (by decide) rfl (fun ls hl => ?_)
    exact k_Mod_addNumber_28 C0 fuel (x1 - x1 / (1000 : Int32) * (1000 : Int32)) (100 : Int32) o_7 _ _ _ hP hS (lv_sub hl [2, 1, 0] rfl) h
def F_Mod_letterOf (x0 : Int32)  : Option (Int32) :=
  if x0 = 0 then (some (119 : Int32)) else (if x0 = (1 : Int32) then (some (104 : Int32)) else (if x0 = (2 : Int32) then (some (100 : Int32)) else (some (((120 : Int32) + x0) - (3 : Int32)))))
abbrev ws_Mod_letterOf : List Cond := Cond.code y_Mod_letterOf b_Mod_letterOf 1 (some .int) :: wsAll
abbrev rm_Mod_letterOf : Room := { frames := 0, cells := 0, slots := 0, locals := 0 }
set_option maxHeartbeats 4000000 in
set_option maxRecDepth 100000 in
theorem c_Mod_letterOf (l : Launch) (ct dC : Nat → ClassId) (dI : Nat → Nat → Nat)   (sz : Nat) (x0 : Int32)  (r : Int32) (hF : F_Mod_letterOf x0 = some r) : Met l y_Mod_letterOf ws_Mod_letterOf rm_Mod_letterOf (bw_Pc [.int x0] (dC, dI) vwCl (tyA ct) [] sz nx) (bw_QR (some (.int r))) 0 0 (fun _ => False) := by
  refine Met.ofW (cc := b_Mod_letterOf) (maxL := 1) (ret := (some .int)) (by decide) rfl ?_
  intro p e s m args below meth c s₁ B hml hv
  obtain ⟨rfl, hsz, hP, hK, hN0, hnx⟩ := hv
  have hx := B.exec
  have hb := B.bytes
  have hr := B.returns
  have hts : ∀ w ∈ wsAll, w.before [.int x0].toArray s = true := fun w h9 => atoms_spec (ws := ws_Mod_letterOf) B.pre w (List.mem_cons_of_mem _ h9)
  have hown : s.vm.findClass R_Mod = some m.cls := findClass_of_methodNamed B.named
  have hlocks := B.notSynchronized
  subst hsz
  have hN : bw_N (fun _ => True) [] := hN0
  generalize hAe : (fun _ : Nat => True) = A at hN
  have hA : ∀ q : Nat, s.heap.size ≤ q → A q := fun q _ => by rw [← hAe]; trivial
  have hS : s.heap = s.heap ∧ ([] : List Loc) = [] := ⟨rfl, rfl⟩
  have hl := lv_entry ([.int x0]) (n := 1) (Nat.le_of_ble_eq_true rfl)
  rw [lg_entry_eq]
  generalize (lg_sl ([.int x0]) ++ List.replicate (1 - (lg_sl ([.int x0])).length) Slot.unset).toArray = ls at hl ⊢
  have hl : lv_has ls 1 [(0, .int x0)] := hl
  have C0 : cx wsAll vwCl nx p s m [.int x0].toArray meth c (dC, dI) (tyA ct) b_Mod_letterOf 1 (some .int) R_Mod A [] := ⟨hx, hb, hr, hml, hown, hlocks, hts, hK, hN, hA, hnx⟩
  have h := hF
  rw [F_Mod_letterOf] at h
  refine lv_iload_n hx hb d_Mod_letterOf_0 rfl (lv_at hl 0 rfl) ?_
  refine lv_if_ne (tgt := 9) hx hb d_Mod_letterOf_1 (by decide) (fun c1 => ?_) (fun c1 => ?_)
  · have h := ite_f c1 h
    refine lv_iload_n hx hb d_Mod_letterOf_9 rfl (lv_at hl 0 rfl) ?_
    refine lv_iconst (v := 1) hx hb d_Mod_letterOf_10 (by decide) ?_
    refine lv_icmp_ne (tgt := 19) hx hb d_Mod_letterOf_11 (by decide) (fun c2 => ?_) (fun c2 => ?_)
    · have h := ite_f c2 h
      refine lv_iload_n hx hb d_Mod_letterOf_19 rfl (lv_at hl 0 rfl) ?_
      refine lv_iconst (v := 2) hx hb d_Mod_letterOf_20 (by decide) ?_
      refine lv_icmp_ne (tgt := 29) hx hb d_Mod_letterOf_21 (by decide) (fun c3 => ?_) (fun c3 => ?_)
      · have h := ite_f c3 h
        refine lv_bipush (v := 120) hx hb d_Mod_letterOf_29 (by decide) ?_
        refine lv_iload_n hx hb d_Mod_letterOf_31 rfl (lv_at hl 0 rfl) ?_
        refine lv_iadd hx hb d_Mod_letterOf_32 ?_
        refine lv_iconst (v := 3) hx hb d_Mod_letterOf_33 (by decide) ?_
        refine lv_isub hx hb d_Mod_letterOf_34 ?_
        obtain rfl := res1 h
        exact W.iret hx hb hr (fun t ht hW => ⟨rfl, ht.trans hS.1⟩) (bw_nil hS.2) d_Mod_letterOf_35
      · have h := ite_t c3 h
        refine lv_bipush (v := 100) hx hb d_Mod_letterOf_24 (by decide) ?_
        refine lv_goto (tgt := 35) hx hb d_Mod_letterOf_26 (by decide) ?_
        obtain rfl := res1 h
        exact W.iret hx hb hr (fun t ht hW => ⟨rfl, ht.trans hS.1⟩) (bw_nil hS.2) d_Mod_letterOf_35
    · have h := ite_t c2 h
      refine lv_bipush (v := 104) hx hb d_Mod_letterOf_14 (by decide) ?_
      refine lv_goto (tgt := 35) hx hb d_Mod_letterOf_16 (by decide) ?_
      obtain rfl := res1 h
      exact W.iret hx hb hr (fun t ht hW => ⟨rfl, ht.trans hS.1⟩) (bw_nil hS.2) d_Mod_letterOf_35
  · have h := ite_t c1 h
    refine lv_bipush (v := 119) hx hb d_Mod_letterOf_4 (by decide) ?_
    refine lv_goto (tgt := 35) hx hb d_Mod_letterOf_6 (by decide) ?_
    obtain rfl := res1 h
    exact W.iret hx hb hr (fun t ht hW => ⟨rfl, ht.trans hS.1⟩) (bw_nil hS.2) d_Mod_letterOf_35
