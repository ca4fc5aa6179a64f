/-! 23.mod3 -/
abbrev b_Mod_work : ByteArray := prog_8_method_39_code
def y_Mod_work : MethodName := ⟨R_Mod, "work", "()V"⟩
abbrev b_Mod_run : ByteArray := prog_8_method_40_code
def y_Mod_run : MethodName := ⟨R_Mod, "run", "()I"⟩
abbrev b_Mod_set : ByteArray := prog_8_method_41_code
def y_Mod_set : MethodName := ⟨R_Mod, "set", "(IJJ)Z"⟩
abbrev b_Mod_noWork : ByteArray := prog_8_method_42_code
def y_Mod_noWork : MethodName := ⟨R_Mod, "noWork", "()Z"⟩
abbrev b_Mod_isCell : ByteArray := prog_8_method_43_code
def y_Mod_isCell : MethodName := ⟨R_Mod, "isCell", "(II)Z"⟩
abbrev b_Mod_state : ByteArray := prog_8_method_44_code
def y_Mod_state : MethodName := ⟨R_Mod, "state", "(II)I"⟩
abbrev b_Mod_size : ByteArray := prog_8_method_45_code
def y_Mod_size : MethodName := ⟨R_Mod, "size", "(III)J"⟩
abbrev b_Mod_ring : ByteArray := prog_8_method_46_code
def y_Mod_ring : MethodName := ⟨R_Mod, "ring", "(I)I"⟩
abbrev b_Mod_condition : ByteArray := prog_8_method_47_code
def y_Mod_condition : MethodName := ⟨R_Mod, "condition", "(II)I"⟩
abbrev b_Mod_line : ByteArray := prog_8_method_48_code
def y_Mod_line : MethodName := ⟨R_Mod, "line", "(II)I"⟩
abbrev b_Mod_needs : ByteArray := prog_8_method_49_code
def y_Mod_needs : MethodName := ⟨R_Mod, "needs", "(II)Z"⟩
abbrev b_Mod_broken : ByteArray := prog_8_method_50_code
def y_Mod_broken : MethodName := ⟨R_Mod, "broken", "(I)I"⟩
theorem cd_Mod_isReady : Cond.code ⟨"PartFormulasModel", "isReady", "(I)Z"⟩ prog_8_method_38_code 4 (some .boolean) ∈ wsAll := wa_of 1136 (by decide +kernel) (by decide +kernel)
theorem ml_Mod_223 : Cond.methodLink "PartFormulasModel" 223 ⟨"PartFormulasModel", "isReady", "(I)Z"⟩ ∈ wsAll := wa_of 1133 (by decide +kernel) (by decide +kernel)
theorem im_Mod_isReady : Cond.instanceMethod ⟨"PartFormulasModel", "isReady", "(I)Z"⟩ ∈ wsAll := wa_of 1135 (by decide +kernel) (by decide +kernel)
theorem se_Mod_isReady : Cond.selects "PartFormulasModel" ⟨"PartFormulasModel", "isReady", "(I)Z"⟩ ⟨"PartFormulasModel", "isReady", "(I)Z"⟩ ∈ wsAll := wa_of 53 (by decide +kernel) (by decide +kernel)
theorem cd_Mod_reckonCell : Cond.code ⟨"PartFormulasModel", "reckonCell", "(I)V"⟩ prog_8_method_37_code 7 (none : Option Jvm.ClassFile.FieldType) ∈ wsAll := wa_of 1140 (by decide +kernel) (by decide +kernel)
theorem ml_Mod_226 : Cond.methodLink "PartFormulasModel" 226 ⟨"PartFormulasModel", "reckonCell", "(I)V"⟩ ∈ wsAll := wa_of 1137 (by decide +kernel) (by decide +kernel)
theorem im_Mod_reckonCell : Cond.instanceMethod ⟨"PartFormulasModel", "reckonCell", "(I)V"⟩ ∈ wsAll := wa_of 1139 (by decide +kernel) (by decide +kernel)
theorem se_Mod_reckonCell : Cond.selects "PartFormulasModel" ⟨"PartFormulasModel", "reckonCell", "(I)V"⟩ ⟨"PartFormulasModel", "reckonCell", "(I)V"⟩ ∈ wsAll := wa_of 54 (by decide +kernel) (by decide +kernel)
theorem cd_Mod_work : Cond.code ⟨"PartFormulasModel", "work", "()V"⟩ prog_8_method_39_code 3 (none : Option Jvm.ClassFile.FieldType) ∈ wsAll := wa_of 1128 (by decide +kernel) (by decide +kernel)
theorem ml_Mod_229 : Cond.methodLink "PartFormulasModel" 229 ⟨"PartFormulasModel", "work", "()V"⟩ ∈ wsAll := wa_of 1125 (by decide +kernel) (by decide +kernel)
theorem im_Mod_work : Cond.instanceMethod ⟨"PartFormulasModel", "work", "()V"⟩ ∈ wsAll := wa_of 1127 (by decide +kernel) (by decide +kernel)
theorem se_Mod_work : Cond.selects "PartFormulasModel" ⟨"PartFormulasModel", "work", "()V"⟩ ⟨"PartFormulasModel", "work", "()V"⟩ ∈ wsAll := wa_of 51 (by decide +kernel) (by decide +kernel)
theorem fl_Mod_232 : Cond.fieldLink "PartFormulasModel" 232 "PartFormulasModel" "reckoned" "J" ∈ wsAll := wa_of 938 (by decide +kernel) (by decide +kernel)
theorem cd_Mod_hangs : Cond.code ⟨"PartFormulasModel", "hangs", "(II)Z"⟩ prog_8_method_29_code 5 (some .boolean) ∈ wsAll := wa_of 1175 (by decide +kernel) (by decide +kernel)
theorem ml_Mod_236 : Cond.methodLink "PartFormulasModel" 236 ⟨"PartFormulasModel", "hangs", "(II)Z"⟩ ∈ wsAll := wa_of 1172 (by decide +kernel) (by decide +kernel)
theorem im_Mod_hangs : Cond.instanceMethod ⟨"PartFormulasModel", "hangs", "(II)Z"⟩ ∈ wsAll := wa_of 1174 (by decide +kernel) (by decide +kernel)
theorem se_Mod_hangs : Cond.selects "PartFormulasModel" ⟨"PartFormulasModel", "hangs", "(II)Z"⟩ ⟨"PartFormulasModel", "hangs", "(II)Z"⟩ ∈ wsAll := wa_of 60 (by decide +kernel) (by decide +kernel)
theorem cd_Mod_isCell : Cond.code ⟨"PartFormulasModel", "isCell", "(II)Z"⟩ prog_8_method_43_code 2 (some .boolean) ∈ wsAll := wa_of 1186 (by decide +kernel) (by decide +kernel)
theorem ml_Mod_239 : Cond.methodLink "PartFormulasModel" 239 ⟨"PartFormulasModel", "isCell", "(II)Z"⟩ ∈ wsAll := wa_of 1184 (by decide +kernel) (by decide +kernel)
theorem st_Mod_isCell : Cond.static ⟨"PartFormulasModel", "isCell", "(II)Z"⟩ ∈ wsAll := wa_of 1185 (by decide +kernel) (by decide +kernel)
theorem d_Mod_broken_0 : decode b_Mod_broken 0 = .ok (.aload_n 0, 1) := by decide +kernel
theorem d_Mod_broken_1 : decode b_Mod_broken 1 = .ok (.aload_n 0, 1) := by decide +kernel
theorem d_Mod_broken_2 : decode b_Mod_broken 2 = .ok (.getfield 25, 3) := by decide +kernel
theorem d_Mod_broken_5 : decode b_Mod_broken 5 = .ok (.iload_n 1, 1) := by decide +kernel
theorem d_Mod_broken_6 : decode b_Mod_broken 6 = .ok (.iaload, 1) := by decide +kernel
theorem d_Mod_broken_7 : decode b_Mod_broken 7 = .ok (.aload_n 0, 1) := by decide +kernel
theorem d_Mod_broken_8 : decode b_Mod_broken 8 = .ok (.getfield 25, 3) := by decide +kernel
theorem d_Mod_broken_11 : decode b_Mod_broken 11 = .ok (.iload_n 1, 1) := by decide +kernel
theorem d_Mod_broken_12 : decode b_Mod_broken 12 = .ok (.iconst 1, 1) := by decide +kernel
theorem d_Mod_broken_13 : decode b_Mod_broken 13 = .ok (.iadd, 1) := by decide +kernel
theorem d_Mod_broken_14 : decode b_Mod_broken 14 = .ok (.iaload, 1) := by decide +kernel
theorem d_Mod_broken_15 : decode b_Mod_broken 15 = .ok (.invokevirtual 213, 3) := by decide +kernel
theorem d_Mod_broken_18 : decode b_Mod_broken 18 = .ok (.istore_n 2, 1) := by decide +kernel
theorem d_Mod_broken_19 : decode b_Mod_broken 19 = .ok (.aload_n 0, 1) := by decide +kernel
theorem d_Mod_broken_20 : decode b_Mod_broken 20 = .ok (.getfield 195, 3) := by decide +kernel
theorem d_Mod_broken_23 : decode b_Mod_broken 23 = .ok (.ifCond .le 10, 3) := by decide +kernel
theorem d_Mod_broken_26 : decode b_Mod_broken 26 = .ok (.aload_n 0, 1) := by decide +kernel
theorem d_Mod_broken_27 : decode b_Mod_broken 27 = .ok (.getfield 195, 3) := by decide +kernel
theorem d_Mod_broken_30 : decode b_Mod_broken 30 = .ok (.goto 21, 3) := by decide +kernel
theorem d_Mod_broken_33 : decode b_Mod_broken 33 = .ok (.aload_n 0, 1) := by decide +kernel
theorem d_Mod_broken_34 : decode b_Mod_broken 34 = .ok (.aload_n 0, 1) := by decide +kernel
theorem d_Mod_broken_35 : decode b_Mod_broken 35 = .ok (.getfield 16, 3) := by decide +kernel
theorem d_Mod_broken_38 : decode b_Mod_broken 38 = .ok (.iload_n 2, 1) := by decide +kernel
theorem d_Mod_broken_39 : decode b_Mod_broken 39 = .ok (.iaload, 1) := by decide +kernel
theorem d_Mod_broken_40 : decode b_Mod_broken 40 = .ok (.invokevirtual 217, 3) := by decide +kernel
theorem d_Mod_broken_43 : decode b_Mod_broken 43 = .ok (.ifCond .eq 7, 3) := by decide +kernel
theorem d_Mod_broken_46 : decode b_Mod_broken 46 = .ok (.iconst 0, 1) := by decide +kernel
theorem d_Mod_broken_47 : decode b_Mod_broken 47 = .ok (.goto 4, 3) := by decide +kernel
theorem d_Mod_broken_50 : decode b_Mod_broken 50 = .ok (.iconst 1, 1) := by decide +kernel
theorem d_Mod_broken_51 : decode b_Mod_broken 51 = .ok (.ireturn, 1) := by decide +kernel
theorem d_Mod_condition_0 : decode b_Mod_condition 0 = .ok (.aload_n 0, 1) := by decide +kernel
theorem d_Mod_condition_1 : decode b_Mod_condition 1 = .ok (.aload_n 0, 1) := by decide +kernel
theorem d_Mod_condition_2 : decode b_Mod_condition 2 = .ok (.getfield 170, 3) := by decide +kernel
theorem d_Mod_condition_5 : decode b_Mod_condition 5 = .ok (.ifCond .ne 7, 3) := by decide +kernel
theorem d_Mod_condition_8 : decode b_Mod_condition 8 = .ok (.iconst 1, 1) := by decide +kernel
theorem d_Mod_condition_9 : decode b_Mod_condition 9 = .ok (.goto 16, 3) := by decide +kernel
theorem d_Mod_condition_12 : decode b_Mod_condition 12 = .ok (.iload_n 1, 1) := by decide +kernel
theorem d_Mod_condition_13 : decode b_Mod_condition 13 = .ok (.iload_n 2, 1) := by decide +kernel
theorem d_Mod_condition_14 : decode b_Mod_condition 14 = .ok (.invokestatic 239, 3) := by decide +kernel
theorem d_Mod_condition_17 : decode b_Mod_condition 17 = .ok (.ifCond .eq 7, 3) := by decide +kernel
theorem d_Mod_condition_20 : decode b_Mod_condition 20 = .ok (.iconst 0, 1) := by decide +kernel
theorem d_Mod_condition_21 : decode b_Mod_condition 21 = .ok (.goto 4, 3) := by decide +kernel
theorem d_Mod_condition_24 : decode b_Mod_condition 24 = .ok (.iconst 2, 1) := by decide +kernel
theorem d_Mod_condition_25 : decode b_Mod_condition 25 = .ok (.putfield 84, 3) := by decide +kernel
theorem d_Mod_condition_28 : decode b_Mod_condition 28 = .ok (.aload_n 0, 1) := by decide +kernel
theorem d_Mod_condition_29 : decode b_Mod_condition 29 = .ok (.getfield 84, 3) := by decide +kernel
theorem d_Mod_condition_32 : decode b_Mod_condition 32 = .ok (.ifCond .le 7, 3) := by decide +kernel
theorem d_Mod_condition_35 : decode b_Mod_condition 35 = .ok (.iconst 0, 1) := by decide +kernel
theorem d_Mod_condition_36 : decode b_Mod_condition 36 = .ok (.goto 33, 3) := by decide +kernel
theorem d_Mod_condition_39 : decode b_Mod_condition 39 = .ok (.aload_n 0, 1) := by decide +kernel
theorem d_Mod_condition_40 : decode b_Mod_condition 40 = .ok (.getfield 48, 3) := by decide +kernel
theorem d_Mod_condition_43 : decode b_Mod_condition 43 = .ok (.bipush 6, 2) := by decide +kernel
theorem d_Mod_condition_45 : decode b_Mod_condition 45 = .ok (.iload_n 1, 1) := by decide +kernel
theorem d_Mod_condition_46 : decode b_Mod_condition 46 = .ok (.imul, 1) := by decide +kernel
theorem d_Mod_condition_47 : decode b_Mod_condition 47 = .ok (.iload_n 2, 1) := by decide +kernel
theorem d_Mod_condition_48 : decode b_Mod_condition 48 = .ok (.iadd, 1) := by decide +kernel
theorem d_Mod_condition_49 : decode b_Mod_condition 49 = .ok (.iaload, 1) := by decide +kernel
theorem d_Mod_condition_50 : decode b_Mod_condition 50 = .ok (.iconst 1, 1) := by decide +kernel
theorem d_Mod_condition_51 : decode b_Mod_condition 51 = .ok (.if_icmp .ne 17, 3) := by decide +kernel
theorem d_Mod_condition_54 : decode b_Mod_condition 54 = .ok (.aload_n 0, 1) := by decide +kernel
theorem d_Mod_condition_55 : decode b_Mod_condition 55 = .ok (.getfield 57, 3) := by decide +kernel
theorem d_Mod_condition_58 : decode b_Mod_condition 58 = .ok (.bipush 6, 2) := by decide +kernel
theorem d_Mod_condition_60 : decode b_Mod_condition 60 = .ok (.iload_n 1, 1) := by decide +kernel
theorem d_Mod_condition_61 : decode b_Mod_condition 61 = .ok (.imul, 1) := by decide +kernel
theorem d_Mod_condition_62 : decode b_Mod_condition 62 = .ok (.iload_n 2, 1) := by decide +kernel
theorem d_Mod_condition_63 : decode b_Mod_condition 63 = .ok (.iadd, 1) := by decide +kernel
theorem d_Mod_condition_64 : decode b_Mod_condition 64 = .ok (.iaload, 1) := by decide +kernel
theorem d_Mod_condition_65 : decode b_Mod_condition 65 = .ok (.goto 4, 3) := by decide +kernel
theorem d_Mod_condition_68 : decode b_Mod_condition 68 = .ok (.iconst (-1), 1) := by decide +kernel
theorem d_Mod_condition_69 : decode b_Mod_condition 69 = .ok (.ireturn, 1) := by decide +kernel
theorem d_Mod_isCell_0 : decode b_Mod_isCell 0 = .ok (.iload_n 0, 1) := by decide +kernel
theorem d_Mod_isCell_1 : decode b_Mod_isCell 1 = .ok (.ifCond .lt 23, 3) := by decide +kernel
theorem d_Mod_isCell_4 : decode b_Mod_isCell 4 = .ok (.iload_n 0, 1) := by decide +kernel
theorem d_Mod_isCell_5 : decode b_Mod_isCell 5 = .ok (.bipush 10, 2) := by decide +kernel
theorem d_Mod_isCell_7 : decode b_Mod_isCell 7 = .ok (.if_icmp .ge 17, 3) := by decide +kernel
theorem d_Mod_isCell_10 : decode b_Mod_isCell 10 = .ok (.iload_n 1, 1) := by decide +kernel
theorem d_Mod_isCell_11 : decode b_Mod_isCell 11 = .ok (.ifCond .lt 13, 3) := by decide +kernel
theorem d_Mod_isCell_14 : decode b_Mod_isCell 14 = .ok (.iload_n 1, 1) := by decide +kernel
theorem d_Mod_isCell_15 : decode b_Mod_isCell 15 = .ok (.bipush 6, 2) := by decide +kernel
theorem d_Mod_isCell_17 : decode b_Mod_isCell 17 = .ok (.if_icmp .ge 7, 3) := by decide +kernel
theorem d_Mod_isCell_20 : decode b_Mod_isCell 20 = .ok (.iconst 1, 1) := by decide +kernel
theorem d_Mod_isCell_21 : decode b_Mod_isCell 21 = .ok (.goto 4, 3) := by decide +kernel
theorem d_Mod_isCell_24 : decode b_Mod_isCell 24 = .ok (.iconst 0, 1) := by decide +kernel
theorem d_Mod_isCell_25 : decode b_Mod_isCell 25 = .ok (.ireturn, 1) := by decide +kernel
theorem d_Mod_line_0 : decode b_Mod_line 0 = .ok (.aload_n 0, 1) := by decide +kernel
theorem d_Mod_line_1 : decode b_Mod_line 1 = .ok (.aload_n 0, 1) := by decide +kernel
theorem d_Mod_line_2 : decode b_Mod_line 2 = .ok (.getfield 166, 3) := by decide +kernel
theorem d_Mod_line_5 : decode b_Mod_line 5 = .ok (.ifCond .ne 7, 3) := by decide +kernel
theorem d_Mod_line_8 : decode b_Mod_line 8 = .ok (.iconst 1, 1) := by decide +kernel
theorem d_Mod_line_9 : decode b_Mod_line 9 = .ok (.goto 16, 3) := by decide +kernel
theorem d_Mod_line_12 : decode b_Mod_line 12 = .ok (.iload_n 1, 1) := by decide +kernel
theorem d_Mod_line_13 : decode b_Mod_line 13 = .ok (.iload_n 2, 1) := by decide +kernel
theorem d_Mod_line_14 : decode b_Mod_line 14 = .ok (.invokestatic 239, 3) := by decide +kernel
theorem d_Mod_line_17 : decode b_Mod_line 17 = .ok (.ifCond .eq 7, 3) := by decide +kernel
theorem d_Mod_line_20 : decode b_Mod_line 20 = .ok (.iconst 0, 1) := by decide +kernel
theorem d_Mod_line_21 : decode b_Mod_line 21 = .ok (.goto 4, 3) := by decide +kernel
theorem d_Mod_line_24 : decode b_Mod_line 24 = .ok (.iconst 2, 1) := by decide +kernel
theorem d_Mod_line_25 : decode b_Mod_line 25 = .ok (.putfield 84, 3) := by decide +kernel
theorem d_Mod_line_28 : decode b_Mod_line 28 = .ok (.aload_n 0, 1) := by decide +kernel
theorem d_Mod_line_29 : decode b_Mod_line 29 = .ok (.getfield 84, 3) := by decide +kernel
theorem d_Mod_line_32 : decode b_Mod_line 32 = .ok (.ifCond .le 7, 3) := by decide +kernel
theorem d_Mod_line_35 : decode b_Mod_line 35 = .ok (.iconst 0, 1) := by decide +kernel
theorem d_Mod_line_36 : decode b_Mod_line 36 = .ok (.goto 14, 3) := by decide +kernel
theorem d_Mod_line_39 : decode b_Mod_line 39 = .ok (.aload_n 0, 1) := by decide +kernel
theorem d_Mod_line_40 : decode b_Mod_line 40 = .ok (.getfield 41, 3) := by decide +kernel
theorem d_Mod_line_43 : decode b_Mod_line 43 = .ok (.bipush 6, 2) := by decide +kernel
theorem d_Mod_line_45 : decode b_Mod_line 45 = .ok (.iload_n 1, 1) := by decide +kernel
theorem d_Mod_line_46 : decode b_Mod_line 46 = .ok (.imul, 1) := by decide +kernel
theorem d_Mod_line_47 : decode b_Mod_line 47 = .ok (.iload_n 2, 1) := by decide +kernel
theorem d_Mod_line_48 : decode b_Mod_line 48 = .ok (.iadd, 1) := by decide +kernel
theorem d_Mod_line_49 : decode b_Mod_line 49 = .ok (.iaload, 1) := by decide +kernel
theorem d_Mod_line_50 : decode b_Mod_line 50 = .ok (.ireturn, 1) := by decide +kernel
theorem d_Mod_needs_0 : decode b_Mod_needs 0 = .ok (.iload_n 1, 1) := by decide +kernel
theorem d_Mod_needs_1 : decode b_Mod_needs 1 = .ok (.ifCond .lt 23, 3) := by decide +kernel
theorem d_Mod_needs_4 : decode b_Mod_needs 4 = .ok (.iload_n 1, 1) := by decide +kernel
theorem d_Mod_needs_5 : decode b_Mod_needs 5 = .ok (.bipush 60, 2) := by decide +kernel
theorem d_Mod_needs_7 : decode b_Mod_needs 7 = .ok (.if_icmp .ge 17, 3) := by decide +kernel
theorem d_Mod_needs_10 : decode b_Mod_needs 10 = .ok (.iload_n 2, 1) := by decide +kernel
theorem d_Mod_needs_11 : decode b_Mod_needs 11 = .ok (.ifCond .lt 13, 3) := by decide +kernel
theorem d_Mod_needs_14 : decode b_Mod_needs 14 = .ok (.iload_n 2, 1) := by decide +kernel
theorem d_Mod_needs_15 : decode b_Mod_needs 15 = .ok (.bipush 60, 2) := by decide +kernel
theorem d_Mod_needs_17 : decode b_Mod_needs 17 = .ok (.if_icmp .ge 7, 3) := by decide +kernel
theorem d_Mod_needs_20 : decode b_Mod_needs 20 = .ok (.iconst 1, 1) := by decide +kernel
theorem d_Mod_needs_21 : decode b_Mod_needs 21 = .ok (.goto 4, 3) := by decide +kernel
theorem d_Mod_needs_24 : decode b_Mod_needs 24 = .ok (.iconst 0, 1) := by decide +kernel
theorem d_Mod_needs_25 : decode b_Mod_needs 25 = .ok (.istore_n 3, 1) := by decide +kernel
theorem d_Mod_needs_26 : decode b_Mod_needs 26 = .ok (.aload_n 0, 1) := by decide +kernel
theorem d_Mod_needs_27 : decode b_Mod_needs 27 = .ok (.aload_n 0, 1) := by decide +kernel
theorem d_Mod_needs_28 : decode b_Mod_needs 28 = .ok (.getfield 166, 3) := by decide +kernel
theorem d_Mod_needs_31 : decode b_Mod_needs 31 = .ok (.ifCond .ne 7, 3) := by decide +kernel
theorem d_Mod_needs_34 : decode b_Mod_needs 34 = .ok (.iconst 1, 1) := by decide +kernel
theorem d_Mod_needs_35 : decode b_Mod_needs 35 = .ok (.goto 12, 3) := by decide +kernel
theorem d_Mod_needs_38 : decode b_Mod_needs 38 = .ok (.iload_n 3, 1) := by decide +kernel
theorem d_Mod_needs_39 : decode b_Mod_needs 39 = .ok (.ifCond .eq 7, 3) := by decide +kernel
theorem d_Mod_needs_42 : decode b_Mod_needs 42 = .ok (.iconst 0, 1) := by decide +kernel
theorem d_Mod_needs_43 : decode b_Mod_needs 43 = .ok (.goto 4, 3) := by decide +kernel
theorem d_Mod_needs_46 : decode b_Mod_needs 46 = .ok (.iconst 2, 1) := by decide +kernel
theorem d_Mod_needs_47 : decode b_Mod_needs 47 = .ok (.putfield 84, 3) := by decide +kernel
theorem d_Mod_needs_50 : decode b_Mod_needs 50 = .ok (.aload_n 0, 1) := by decide +kernel
theorem d_Mod_needs_51 : decode b_Mod_needs 51 = .ok (.getfield 84, 3) := by decide +kernel
theorem d_Mod_needs_54 : decode b_Mod_needs 54 = .ok (.ifCond .ne 21, 3) := by decide +kernel
theorem d_Mod_needs_57 : decode b_Mod_needs 57 = .ok (.aload_n 0, 1) := by decide +kernel
theorem d_Mod_needs_58 : decode b_Mod_needs 58 = .ok (.getfield 44, 3) := by decide +kernel
theorem d_Mod_needs_61 : decode b_Mod_needs 61 = .ok (.bipush 60, 2) := by decide +kernel
theorem d_Mod_needs_63 : decode b_Mod_needs 63 = .ok (.iload_n 1, 1) := by decide +kernel
theorem d_Mod_needs_64 : decode b_Mod_needs 64 = .ok (.imul, 1) := by decide +kernel
theorem d_Mod_needs_65 : decode b_Mod_needs 65 = .ok (.iload_n 2, 1) := by decide +kernel
theorem d_Mod_needs_66 : decode b_Mod_needs 66 = .ok (.iadd, 1) := by decide +kernel
theorem d_Mod_needs_67 : decode b_Mod_needs 67 = .ok (.baload, 1) := by decide +kernel
theorem d_Mod_needs_68 : decode b_Mod_needs 68 = .ok (.ifCond .eq 7, 3) := by decide +kernel
theorem d_Mod_needs_71 : decode b_Mod_needs 71 = .ok (.iconst 1, 1) := by decide +kernel
theorem d_Mod_needs_72 : decode b_Mod_needs 72 = .ok (.goto 4, 3) := by decide +kernel
theorem d_Mod_needs_75 : decode b_Mod_needs 75 = .ok (.iconst 0, 1) := by decide +kernel
theorem d_Mod_needs_76 : decode b_Mod_needs 76 = .ok (.ireturn, 1) := by decide +kernel
theorem d_Mod_noWork_0 : decode b_Mod_noWork 0 = .ok (.aload_n 0, 1) := by decide +kernel
theorem d_Mod_noWork_1 : decode b_Mod_noWork 1 = .ok (.aload_n 0, 1) := by decide +kernel
theorem d_Mod_noWork_2 : decode b_Mod_noWork 2 = .ok (.getfield 170, 3) := by decide +kernel
theorem d_Mod_noWork_5 : decode b_Mod_noWork 5 = .ok (.ifCond .eq 7, 3) := by decide +kernel
theorem d_Mod_noWork_8 : decode b_Mod_noWork 8 = .ok (.iconst 0, 1) := by decide +kernel
theorem d_Mod_noWork_9 : decode b_Mod_noWork 9 = .ok (.goto 4, 3) := by decide +kernel
theorem d_Mod_noWork_12 : decode b_Mod_noWork 12 = .ok (.iconst 1, 1) := by decide +kernel
theorem d_Mod_noWork_13 : decode b_Mod_noWork 13 = .ok (.putfield 84, 3) := by decide +kernel
theorem d_Mod_noWork_16 : decode b_Mod_noWork 16 = .ok (.aload_n 0, 1) := by decide +kernel
theorem d_Mod_noWork_17 : decode b_Mod_noWork 17 = .ok (.getfield 84, 3) := by decide +kernel
theorem d_Mod_noWork_20 : decode b_Mod_noWork 20 = .ok (.ifCond .le 7, 3) := by decide +kernel
theorem d_Mod_noWork_23 : decode b_Mod_noWork 23 = .ok (.iconst 1, 1) := by decide +kernel
theorem d_Mod_noWork_24 : decode b_Mod_noWork 24 = .ok (.goto 4, 3) := by decide +kernel
theorem d_Mod_noWork_27 : decode b_Mod_noWork 27 = .ok (.iconst 0, 1) := by decide +kernel
theorem d_Mod_noWork_28 : decode b_Mod_noWork 28 = .ok (.ireturn, 1) := by decide +kernel
theorem d_Mod_ring_0 : decode b_Mod_ring 0 = .ok (.aload_n 0, 1) := by decide +kernel
theorem d_Mod_ring_1 : decode b_Mod_ring 1 = .ok (.aload_n 0, 1) := by decide +kernel
theorem d_Mod_ring_2 : decode b_Mod_ring 2 = .ok (.getfield 166, 3) := by decide +kernel
theorem d_Mod_ring_5 : decode b_Mod_ring 5 = .ok (.ifCond .ne 7, 3) := by decide +kernel
theorem d_Mod_ring_8 : decode b_Mod_ring 8 = .ok (.iconst 1, 1) := by decide +kernel
theorem d_Mod_ring_9 : decode b_Mod_ring 9 = .ok (.goto 12, 3) := by decide +kernel
theorem d_Mod_ring_12 : decode b_Mod_ring 12 = .ok (.iload_n 1, 1) := by decide +kernel
theorem d_Mod_ring_13 : decode b_Mod_ring 13 = .ok (.ifCond .ge 7, 3) := by decide +kernel
theorem d_Mod_ring_16 : decode b_Mod_ring 16 = .ok (.iconst 2, 1) := by decide +kernel
theorem d_Mod_ring_17 : decode b_Mod_ring 17 = .ok (.goto 4, 3) := by decide +kernel
theorem d_Mod_ring_20 : decode b_Mod_ring 20 = .ok (.iconst 0, 1) := by decide +kernel
theorem d_Mod_ring_21 : decode b_Mod_ring 21 = .ok (.putfield 84, 3) := by decide +kernel
theorem d_Mod_ring_24 : decode b_Mod_ring 24 = .ok (.iload_n 1, 1) := by decide +kernel
theorem d_Mod_ring_25 : decode b_Mod_ring 25 = .ok (.istore_n 2, 1) := by decide +kernel
theorem d_Mod_ring_26 : decode b_Mod_ring 26 = .ok (.iconst 0, 1) := by decide +kernel
theorem d_Mod_ring_27 : decode b_Mod_ring 27 = .ok (.istore_n 3, 1) := by decide +kernel
theorem d_Mod_ring_28 : decode b_Mod_ring 28 = .ok (.iload_n 3, 1) := by decide +kernel
theorem d_Mod_ring_29 : decode b_Mod_ring 29 = .ok (.bipush 60, 2) := by decide +kernel
theorem d_Mod_ring_31 : decode b_Mod_ring 31 = .ok (.if_icmp .ge 33, 3) := by decide +kernel
theorem d_Mod_ring_34 : decode b_Mod_ring 34 = .ok (.aload_n 0, 1) := by decide +kernel
theorem d_Mod_ring_35 : decode b_Mod_ring 35 = .ok (.getfield 84, 3) := by decide +kernel
theorem d_Mod_ring_38 : decode b_Mod_ring 38 = .ok (.ifCond .ne 26, 3) := by decide +kernel
theorem d_Mod_ring_41 : decode b_Mod_ring 41 = .ok (.aload_n 0, 1) := by decide +kernel
theorem d_Mod_ring_42 : decode b_Mod_ring 42 = .ok (.iload_n 3, 1) := by decide +kernel
theorem d_Mod_ring_43 : decode b_Mod_ring 43 = .ok (.invokevirtual 220, 3) := by decide +kernel
theorem d_Mod_ring_46 : decode b_Mod_ring 46 = .ok (.ifCond .eq 12, 3) := by decide +kernel
theorem d_Mod_ring_49 : decode b_Mod_ring 49 = .ok (.iload_n 2, 1) := by decide +kernel
theorem d_Mod_ring_50 : decode b_Mod_ring 50 = .ok (.ifCond .ne 5, 3) := by decide +kernel
theorem d_Mod_ring_53 : decode b_Mod_ring 53 = .ok (.iload_n 3, 1) := by decide +kernel
theorem d_Mod_ring_54 : decode b_Mod_ring 54 = .ok (.ireturn, 1) := by decide +kernel
theorem d_Mod_ring_55 : decode b_Mod_ring 55 = .ok (.iinc 2 (-1), 3) := by decide +kernel
theorem d_Mod_ring_58 : decode b_Mod_ring 58 = .ok (.iinc 3 1, 3) := by decide +kernel
theorem d_Mod_ring_61 : decode b_Mod_ring 61 = .ok (.goto (-33), 3) := by decide +kernel
theorem d_Mod_ring_64 : decode b_Mod_ring 64 = .ok (.aload_n 0, 1) := by decide +kernel
theorem d_Mod_ring_65 : decode b_Mod_ring 65 = .ok (.getfield 84, 3) := by decide +kernel
theorem d_Mod_ring_68 : decode b_Mod_ring 68 = .ok (.ifCond .le 7, 3) := by decide +kernel
theorem d_Mod_ring_71 : decode b_Mod_ring 71 = .ok (.iconst 0, 1) := by decide +kernel
theorem d_Mod_ring_72 : decode b_Mod_ring 72 = .ok (.goto 4, 3) := by decide +kernel
theorem d_Mod_ring_75 : decode b_Mod_ring 75 = .ok (.iconst (-1), 1) := by decide +kernel
theorem d_Mod_ring_76 : decode b_Mod_ring 76 = .ok (.ireturn, 1) := by decide +kernel
theorem d_Mod_run_0 : decode b_Mod_run 0 = .ok (.aload_n 0, 1) := by decide +kernel
theorem d_Mod_run_1 : decode b_Mod_run 1 = .ok (.aload_n 0, 1) := by decide +kernel
theorem d_Mod_run_2 : decode b_Mod_run 2 = .ok (.getfield 166, 3) := by decide +kernel
theorem d_Mod_run_5 : decode b_Mod_run 5 = .ok (.ifCond .eq 7, 3) := by decide +kernel
theorem d_Mod_run_8 : decode b_Mod_run 8 = .ok (.iconst 0, 1) := by decide +kernel
theorem d_Mod_run_9 : decode b_Mod_run 9 = .ok (.goto 4, 3) := by decide +kernel
theorem d_Mod_run_12 : decode b_Mod_run 12 = .ok (.iconst 1, 1) := by decide +kernel
theorem d_Mod_run_13 : decode b_Mod_run 13 = .ok (.putfield 84, 3) := by decide +kernel
theorem d_Mod_run_16 : decode b_Mod_run 16 = .ok (.aload_n 0, 1) := by decide +kernel
theorem d_Mod_run_17 : decode b_Mod_run 17 = .ok (.getfield 84, 3) := by decide +kernel
theorem d_Mod_run_20 : decode b_Mod_run 20 = .ok (.ifCond .le 5, 3) := by decide +kernel
theorem d_Mod_run_23 : decode b_Mod_run 23 = .ok (.iconst 0, 1) := by decide +kernel
theorem d_Mod_run_24 : decode b_Mod_run 24 = .ok (.ireturn, 1) := by decide +kernel
theorem d_Mod_run_25 : decode b_Mod_run 25 = .ok (.aload_n 0, 1) := by decide +kernel
theorem d_Mod_run_26 : decode b_Mod_run 26 = .ok (.invokevirtual 229, 3) := by decide +kernel
theorem d_Mod_run_29 : decode b_Mod_run 29 = .ok (.aload_n 0, 1) := by decide +kernel
theorem d_Mod_run_30 : decode b_Mod_run 30 = .ok (.iconst 1, 1) := by decide +kernel
theorem d_Mod_run_31 : decode b_Mod_run 31 = .ok (.putfield 170, 3) := by decide +kernel
theorem d_Mod_run_34 : decode b_Mod_run 34 = .ok (.iconst 0, 1) := by decide +kernel
theorem d_Mod_run_35 : decode b_Mod_run 35 = .ok (.istore_n 1, 1) := by decide +kernel
theorem d_Mod_run_36 : decode b_Mod_run 36 = .ok (.aload_n 0, 1) := by decide +kernel
theorem d_Mod_run_37 : decode b_Mod_run 37 = .ok (.getfield 22, 3) := by decide +kernel
theorem d_Mod_run_40 : decode b_Mod_run 40 = .ok (.iconst 0, 1) := by decide +kernel
theorem d_Mod_run_41 : decode b_Mod_run 41 = .ok (.iaload, 1) := by decide +kernel
theorem d_Mod_run_42 : decode b_Mod_run 42 = .ok (.iconst 1, 1) := by decide +kernel
theorem d_Mod_run_43 : decode b_Mod_run 43 = .ok (.isub, 1) := by decide +kernel
theorem d_Mod_run_44 : decode b_Mod_run 44 = .ok (.istore_n 2, 1) := by decide +kernel
theorem d_Mod_run_45 : decode b_Mod_run 45 = .ok (.iload_n 2, 1) := by decide +kernel
theorem d_Mod_run_46 : decode b_Mod_run 46 = .ok (.ifCond .lt 71, 3) := by decide +kernel
theorem d_Mod_run_49 : decode b_Mod_run 49 = .ok (.aload_n 0, 1) := by decide +kernel
theorem d_Mod_run_50 : decode b_Mod_run 50 = .ok (.getfield 28, 3) := by decide +kernel
theorem d_Mod_run_53 : decode b_Mod_run 53 = .ok (.iload_n 2, 1) := by decide +kernel
theorem d_Mod_run_54 : decode b_Mod_run 54 = .ok (.iaload, 1) := by decide +kernel
theorem d_Mod_run_55 : decode b_Mod_run 55 = .ok (.ifCond .lt 56, 3) := by decide +kernel
theorem d_Mod_run_58 : decode b_Mod_run 58 = .ok (.aload_n 0, 1) := by decide +kernel
theorem d_Mod_run_59 : decode b_Mod_run 59 = .ok (.aload_n 0, 1) := by decide +kernel
theorem d_Mod_run_60 : decode b_Mod_run 60 = .ok (.aload_n 0, 1) := by decide +kernel
theorem d_Mod_run_61 : decode b_Mod_run 61 = .ok (.getfield 28, 3) := by decide +kernel
theorem d_Mod_run_64 : decode b_Mod_run 64 = .ok (.iload_n 2, 1) := by decide +kernel
theorem d_Mod_run_65 : decode b_Mod_run 65 = .ok (.iaload, 1) := by decide +kernel
theorem d_Mod_run_66 : decode b_Mod_run 66 = .ok (.invokevirtual 220, 3) := by decide +kernel
theorem d_Mod_run_69 : decode b_Mod_run 69 = .ok (.ifCond .eq 10, 3) := by decide +kernel
theorem d_Mod_run_72 : decode b_Mod_run 72 = .ok (.aload_n 0, 1) := by decide +kernel
theorem d_Mod_run_73 : decode b_Mod_run 73 = .ok (.getfield 232, 3) := by decide +kernel
theorem d_Mod_run_76 : decode b_Mod_run 76 = .ok (.goto 9, 3) := by decide +kernel
theorem d_Mod_run_79 : decode b_Mod_run 79 = .ok (.aload_n 0, 1) := by decide +kernel
theorem d_Mod_run_80 : decode b_Mod_run 80 = .ok (.getfield 232, 3) := by decide +kernel
theorem d_Mod_run_83 : decode b_Mod_run 83 = .ok (.lconst 1, 1) := by decide +kernel
theorem d_Mod_run_84 : decode b_Mod_run 84 = .ok (.ladd, 1) := by decide +kernel
theorem d_Mod_run_85 : decode b_Mod_run 85 = .ok (.putfield 232, 3) := by decide +kernel
theorem d_Mod_run_88 : decode b_Mod_run 88 = .ok (.aload_n 0, 1) := by decide +kernel
theorem d_Mod_run_89 : decode b_Mod_run 89 = .ok (.getfield 48, 3) := by decide +kernel
theorem d_Mod_run_92 : decode b_Mod_run 92 = .ok (.aload_n 0, 1) := by decide +kernel
theorem d_Mod_run_93 : decode b_Mod_run 93 = .ok (.getfield 28, 3) := by decide +kernel
theorem d_Mod_run_96 : decode b_Mod_run 96 = .ok (.iload_n 2, 1) := by decide +kernel
theorem d_Mod_run_97 : decode b_Mod_run 97 = .ok (.iaload, 1) := by decide +kernel
theorem d_Mod_run_98 : decode b_Mod_run 98 = .ok (.iaload, 1) := by decide +kernel
theorem d_Mod_run_99 : decode b_Mod_run 99 = .ok (.iconst 1, 1) := by decide +kernel
theorem d_Mod_run_100 : decode b_Mod_run 100 = .ok (.if_icmp .ne 7, 3) := by decide +kernel
theorem d_Mod_run_103 : decode b_Mod_run 103 = .ok (.iload_n 1, 1) := by decide +kernel
theorem d_Mod_run_104 : decode b_Mod_run 104 = .ok (.goto 6, 3) := by decide +kernel
theorem d_Mod_run_107 : decode b_Mod_run 107 = .ok (.iload_n 2, 1) := by decide +kernel
theorem d_Mod_run_108 : decode b_Mod_run 108 = .ok (.iconst 1, 1) := by decide +kernel
theorem d_Mod_run_109 : decode b_Mod_run 109 = .ok (.iadd, 1) := by decide +kernel
theorem d_Mod_run_110 : decode b_Mod_run 110 = .ok (.istore_n 1, 1) := by decide +kernel
theorem d_Mod_run_111 : decode b_Mod_run 111 = .ok (.iinc 2 (-1), 3) := by decide +kernel
theorem d_Mod_run_114 : decode b_Mod_run 114 = .ok (.goto (-69), 3) := by decide +kernel
theorem d_Mod_run_117 : decode b_Mod_run 117 = .ok (.iload_n 1, 1) := by decide +kernel
theorem d_Mod_run_118 : decode b_Mod_run 118 = .ok (.ireturn, 1) := by decide +kernel
theorem d_Mod_set_0 : decode b_Mod_set 0 = .ok (.aload_n 0, 1) := by decide +kernel
theorem d_Mod_set_1 : decode b_Mod_set 1 = .ok (.iload_n 1, 1) := by decide +kernel
theorem d_Mod_set_2 : decode b_Mod_set 2 = .ok (.ifCond .lt 9, 3) := by decide +kernel
theorem d_Mod_set_5 : decode b_Mod_set 5 = .ok (.iload_n 1, 1) := by decide +kernel
theorem d_Mod_set_6 : decode b_Mod_set 6 = .ok (.bipush 7, 2) := by decide +kernel
theorem d_Mod_set_8 : decode b_Mod_set 8 = .ok (.if_icmp .le 7, 3) := by decide +kernel
theorem d_Mod_set_11 : decode b_Mod_set 11 = .ok (.iconst 1, 1) := by decide +kernel
theorem d_Mod_set_12 : decode b_Mod_set 12 = .ok (.goto 40, 3) := by decide +kernel
theorem d_Mod_set_15 : decode b_Mod_set 15 = .ok (.lload 4, 2) := by decide +kernel
theorem d_Mod_set_17 : decode b_Mod_set 17 = .ok (.lconst 1, 1) := by decide +kernel
theorem d_Mod_set_18 : decode b_Mod_set 18 = .ok (.lcmp, 1) := by decide +kernel
theorem d_Mod_set_19 : decode b_Mod_set 19 = .ok (.ifCond .lt 28, 3) := by decide +kernel
theorem d_Mod_set_22 : decode b_Mod_set 22 = .ok (.lload 4, 2) := by decide +kernel
theorem d_Mod_set_24 : decode b_Mod_set 24 = .ok (.ldc2_w 191, 3) := by decide +kernel
theorem d_Mod_set_27 : decode b_Mod_set 27 = .ok (.lcmp, 1) := by decide +kernel
theorem d_Mod_set_28 : decode b_Mod_set 28 = .ok (.ifCond .gt 19, 3) := by decide +kernel
theorem d_Mod_set_31 : decode b_Mod_set 31 = .ok (.lload_n 2, 1) := by decide +kernel
theorem d_Mod_set_32 : decode b_Mod_set 32 = .ok (.ldc2_w 191, 3) := by decide +kernel
theorem d_Mod_set_35 : decode b_Mod_set 35 = .ok (.lcmp, 1) := by decide +kernel
theorem d_Mod_set_36 : decode b_Mod_set 36 = .ok (.ifCond .gt 11, 3) := by decide +kernel
theorem d_Mod_set_39 : decode b_Mod_set 39 = .ok (.lload_n 2, 1) := by decide +kernel
theorem d_Mod_set_40 : decode b_Mod_set 40 = .ok (.ldc2_w 193, 3) := by decide +kernel
theorem d_Mod_set_43 : decode b_Mod_set 43 = .ok (.lcmp, 1) := by decide +kernel
theorem d_Mod_set_44 : decode b_Mod_set 44 = .ok (.ifCond .ge 7, 3) := by decide +kernel
theorem d_Mod_set_47 : decode b_Mod_set 47 = .ok (.iconst 2, 1) := by decide +kernel
theorem d_Mod_set_48 : decode b_Mod_set 48 = .ok (.goto 4, 3) := by decide +kernel
theorem d_Mod_set_51 : decode b_Mod_set 51 = .ok (.iconst 0, 1) := by decide +kernel
theorem d_Mod_set_52 : decode b_Mod_set 52 = .ok (.putfield 84, 3) := by decide +kernel
theorem d_Mod_set_55 : decode b_Mod_set 55 = .ok (.aload_n 0, 1) := by decide +kernel
theorem d_Mod_set_56 : decode b_Mod_set 56 = .ok (.getfield 84, 3) := by decide +kernel
theorem d_Mod_set_59 : decode b_Mod_set 59 = .ok (.ifCond .le 5, 3) := by decide +kernel
theorem d_Mod_set_62 : decode b_Mod_set 62 = .ok (.iconst 0, 1) := by decide +kernel
theorem d_Mod_set_63 : decode b_Mod_set 63 = .ok (.ireturn, 1) := by decide +kernel
theorem d_Mod_set_64 : decode b_Mod_set 64 = .ok (.lload_n 2, 1) := by decide +kernel
theorem d_Mod_set_65 : decode b_Mod_set 65 = .ok (.lload 4, 2) := by decide +kernel
theorem d_Mod_set_67 : decode b_Mod_set 67 = .ok (.invokestatic 187, 3) := by decide +kernel
theorem d_Mod_set_70 : decode b_Mod_set 70 = .ok (.lstore 6, 2) := by decide +kernel
theorem d_Mod_set_72 : decode b_Mod_set 72 = .ok (.lload_n 2, 1) := by decide +kernel
theorem d_Mod_set_73 : decode b_Mod_set 73 = .ok (.lload 6, 2) := by decide +kernel
theorem d_Mod_set_75 : decode b_Mod_set 75 = .ok (.ldiv, 1) := by decide +kernel
theorem d_Mod_set_76 : decode b_Mod_set 76 = .ok (.lstore 8, 2) := by decide +kernel
theorem d_Mod_set_78 : decode b_Mod_set 78 = .ok (.lload 4, 2) := by decide +kernel
theorem d_Mod_set_80 : decode b_Mod_set 80 = .ok (.lload 6, 2) := by decide +kernel
theorem d_Mod_set_82 : decode b_Mod_set 82 = .ok (.ldiv, 1) := by decide +kernel
theorem d_Mod_set_83 : decode b_Mod_set 83 = .ok (.lstore 10, 2) := by decide +kernel
theorem d_Mod_set_85 : decode b_Mod_set 85 = .ok (.lload 8, 2) := by decide +kernel
theorem d_Mod_set_87 : decode b_Mod_set 87 = .ok (.aload_n 0, 1) := by decide +kernel
theorem d_Mod_set_88 : decode b_Mod_set 88 = .ok (.getfield 34, 3) := by decide +kernel
theorem d_Mod_set_91 : decode b_Mod_set 91 = .ok (.iload_n 1, 1) := by decide +kernel
theorem d_Mod_set_92 : decode b_Mod_set 92 = .ok (.laload, 1) := by decide +kernel
theorem d_Mod_set_93 : decode b_Mod_set 93 = .ok (.lcmp, 1) := by decide +kernel
theorem d_Mod_set_94 : decode b_Mod_set 94 = .ok (.ifCond .ne 17, 3) := by decide +kernel
theorem d_Mod_set_97 : decode b_Mod_set 97 = .ok (.lload 10, 2) := by decide +kernel
theorem d_Mod_set_99 : decode b_Mod_set 99 = .ok (.aload_n 0, 1) := by decide +kernel
theorem d_Mod_set_100 : decode b_Mod_set 100 = .ok (.getfield 38, 3) := by decide +kernel
theorem d_Mod_set_103 : decode b_Mod_set 103 = .ok (.iload_n 1, 1) := by decide +kernel
theorem d_Mod_set_104 : decode b_Mod_set 104 = .ok (.laload, 1) := by decide +kernel
theorem d_Mod_set_105 : decode b_Mod_set 105 = .ok (.lcmp, 1) := by decide +kernel
theorem d_Mod_set_106 : decode b_Mod_set 106 = .ok (.ifCond .ne 5, 3) := by decide +kernel
theorem d_Mod_set_109 : decode b_Mod_set 109 = .ok (.iconst 0, 1) := by decide +kernel
theorem d_Mod_set_110 : decode b_Mod_set 110 = .ok (.ireturn, 1) := by decide +kernel
theorem d_Mod_set_111 : decode b_Mod_set 111 = .ok (.aload_n 0, 1) := by decide +kernel
theorem d_Mod_set_112 : decode b_Mod_set 112 = .ok (.getfield 34, 3) := by decide +kernel
theorem d_Mod_set_115 : decode b_Mod_set 115 = .ok (.iload_n 1, 1) := by decide +kernel
theorem d_Mod_set_116 : decode b_Mod_set 116 = .ok (.lload 8, 2) := by decide +kernel
theorem d_Mod_set_118 : decode b_Mod_set 118 = .ok (.lastore, 1) := by decide +kernel
theorem d_Mod_set_119 : decode b_Mod_set 119 = .ok (.aload_n 0, 1) := by decide +kernel
theorem d_Mod_set_120 : decode b_Mod_set 120 = .ok (.getfield 38, 3) := by decide +kernel
theorem d_Mod_set_123 : decode b_Mod_set 123 = .ok (.iload_n 1, 1) := by decide +kernel
theorem d_Mod_set_124 : decode b_Mod_set 124 = .ok (.lload 10, 2) := by decide +kernel
theorem d_Mod_set_126 : decode b_Mod_set 126 = .ok (.lastore, 1) := by decide +kernel
theorem d_Mod_set_127 : decode b_Mod_set 127 = .ok (.aload_n 0, 1) := by decide +kernel
theorem d_Mod_set_128 : decode b_Mod_set 128 = .ok (.getfield 170, 3) := by decide +kernel
theorem d_Mod_set_131 : decode b_Mod_set 131 = .ok (.ifCond .eq 69, 3) := by decide +kernel
theorem d_Mod_set_134 : decode b_Mod_set 134 = .ok (.iconst 0, 1) := by decide +kernel
theorem d_Mod_set_135 : decode b_Mod_set 135 = .ok (.istore 12, 2) := by decide +kernel
theorem d_Mod_set_137 : decode b_Mod_set 137 = .ok (.iload 12, 2) := by decide +kernel
theorem d_Mod_set_139 : decode b_Mod_set 139 = .ok (.bipush 60, 2) := by decide +kernel
theorem d_Mod_set_141 : decode b_Mod_set 141 = .ok (.if_icmp .ge 55, 3) := by decide +kernel
theorem d_Mod_set_144 : decode b_Mod_set 144 = .ok (.aload_n 0, 1) := by decide +kernel
theorem d_Mod_set_145 : decode b_Mod_set 145 = .ok (.aload_n 0, 1) := by decide +kernel
theorem d_Mod_set_146 : decode b_Mod_set 146 = .ok (.getfield 41, 3) := by decide +kernel
theorem d_Mod_set_149 : decode b_Mod_set 149 = .ok (.iload 12, 2) := by decide +kernel
theorem d_Mod_set_151 : decode b_Mod_set 151 = .ok (.iaload, 1) := by decide +kernel
theorem d_Mod_set_152 : decode b_Mod_set 152 = .ok (.ifCond .lt 31, 3) := by decide +kernel
theorem d_Mod_set_155 : decode b_Mod_set 155 = .ok (.aload_n 0, 1) := by decide +kernel
theorem d_Mod_set_156 : decode b_Mod_set 156 = .ok (.iload 12, 2) := by decide +kernel
theorem d_Mod_set_158 : decode b_Mod_set 158 = .ok (.invokevirtual 220, 3) := by decide +kernel
theorem d_Mod_set_161 : decode b_Mod_set 161 = .ok (.ifCond .ne 22, 3) := by decide +kernel
theorem d_Mod_set_164 : decode b_Mod_set 164 = .ok (.aload_n 0, 1) := by decide +kernel
theorem d_Mod_set_165 : decode b_Mod_set 165 = .ok (.iload 12, 2) := by decide +kernel
theorem d_Mod_set_167 : decode b_Mod_set 167 = .ok (.iload_n 1, 1) := by decide +kernel
theorem d_Mod_set_168 : decode b_Mod_set 168 = .ok (.invokevirtual 236, 3) := by decide +kernel
theorem d_Mod_set_171 : decode b_Mod_set 171 = .ok (.ifCond .eq 12, 3) := by decide +kernel
theorem d_Mod_set_174 : decode b_Mod_set 174 = .ok (.aload_n 0, 1) := by decide +kernel
theorem d_Mod_set_175 : decode b_Mod_set 175 = .ok (.getfield 232, 3) := by decide +kernel
theorem d_Mod_set_178 : decode b_Mod_set 178 = .ok (.lconst 1, 1) := by decide +kernel
theorem d_Mod_set_179 : decode b_Mod_set 179 = .ok (.ladd, 1) := by decide +kernel
theorem d_Mod_set_180 : decode b_Mod_set 180 = .ok (.goto 7, 3) := by decide +kernel
theorem d_Mod_set_183 : decode b_Mod_set 183 = .ok (.aload_n 0, 1) := by decide +kernel
theorem d_Mod_set_184 : decode b_Mod_set 184 = .ok (.getfield 232, 3) := by decide +kernel
theorem d_Mod_set_187 : decode b_Mod_set 187 = .ok (.putfield 232, 3) := by decide +kernel
theorem d_Mod_set_190 : decode b_Mod_set 190 = .ok (.iinc 12 1, 3) := by decide +kernel
theorem d_Mod_set_193 : decode b_Mod_set 193 = .ok (.goto (-56), 3) := by decide +kernel
theorem d_Mod_set_196 : decode b_Mod_set 196 = .ok (.aload_n 0, 1) := by decide +kernel
theorem d_Mod_set_197 : decode b_Mod_set 197 = .ok (.invokevirtual 229, 3) := by decide +kernel
theorem d_Mod_set_200 : decode b_Mod_set 200 = .ok (.iconst 1, 1) := by decide +kernel
theorem d_Mod_set_201 : decode b_Mod_set 201 = .ok (.ireturn, 1) := by decide +kernel
theorem d_Mod_size_0 : decode b_Mod_size 0 = .ok (.aload_n 0, 1) := by decide +kernel
theorem d_Mod_size_1 : decode b_Mod_size 1 = .ok (.iload_n 1, 1) := by decide +kernel
theorem d_Mod_size_2 : decode b_Mod_size 2 = .ok (.iload_n 2, 1) := by decide +kernel
theorem d_Mod_size_3 : decode b_Mod_size 3 = .ok (.invokestatic 239, 3) := by decide +kernel
theorem d_Mod_size_6 : decode b_Mod_size 6 = .ok (.ifCond .ne 7, 3) := by decide +kernel
theorem d_Mod_size_9 : decode b_Mod_size 9 = .ok (.iconst 1, 1) := by decide +kernel
theorem d_Mod_size_10 : decode b_Mod_size 10 = .ok (.goto 43, 3) := by decide +kernel
theorem d_Mod_size_13 : decode b_Mod_size 13 = .ok (.iload_n 3, 1) := by decide +kernel
theorem d_Mod_size_14 : decode b_Mod_size 14 = .ok (.ifCond .lt 8, 3) := by decide +kernel
theorem d_Mod_size_17 : decode b_Mod_size 17 = .ok (.iload_n 3, 1) := by decide +kernel
theorem d_Mod_size_18 : decode b_Mod_size 18 = .ok (.iconst 1, 1) := by decide +kernel
theorem d_Mod_size_19 : decode b_Mod_size 19 = .ok (.if_icmp .le 7, 3) := by decide +kernel
theorem d_Mod_size_22 : decode b_Mod_size 22 = .ok (.iconst 2, 1) := by decide +kernel
theorem d_Mod_size_23 : decode b_Mod_size 23 = .ok (.goto 30, 3) := by decide +kernel
theorem d_Mod_size_26 : decode b_Mod_size 26 = .ok (.aload_n 0, 1) := by decide +kernel
theorem d_Mod_size_27 : decode b_Mod_size 27 = .ok (.getfield 170, 3) := by decide +kernel
theorem d_Mod_size_30 : decode b_Mod_size 30 = .ok (.ifCond .eq 18, 3) := by decide +kernel
theorem d_Mod_size_33 : decode b_Mod_size 33 = .ok (.aload_n 0, 1) := by decide +kernel
theorem d_Mod_size_34 : decode b_Mod_size 34 = .ok (.getfield 48, 3) := by decide +kernel
theorem d_Mod_size_37 : decode b_Mod_size 37 = .ok (.bipush 6, 2) := by decide +kernel
theorem d_Mod_size_39 : decode b_Mod_size 39 = .ok (.iload_n 1, 1) := by decide +kernel
theorem d_Mod_size_40 : decode b_Mod_size 40 = .ok (.imul, 1) := by decide +kernel
theorem d_Mod_size_41 : decode b_Mod_size 41 = .ok (.iload_n 2, 1) := by decide +kernel
theorem d_Mod_size_42 : decode b_Mod_size 42 = .ok (.iadd, 1) := by decide +kernel
theorem d_Mod_size_43 : decode b_Mod_size 43 = .ok (.iaload, 1) := by decide +kernel
theorem d_Mod_size_44 : decode b_Mod_size 44 = .ok (.iconst 1, 1) := by decide +kernel
theorem d_Mod_size_45 : decode b_Mod_size 45 = .ok (.if_icmp .eq 7, 3) := by decide +kernel
theorem d_Mod_size_48 : decode b_Mod_size 48 = .ok (.iconst 3, 1) := by decide +kernel
theorem d_Mod_size_49 : decode b_Mod_size 49 = .ok (.goto 4, 3) := by decide +kernel
theorem d_Mod_size_52 : decode b_Mod_size 52 = .ok (.iconst 0, 1) := by decide +kernel
theorem d_Mod_size_53 : decode b_Mod_size 53 = .ok (.putfield 84, 3) := by decide +kernel
theorem d_Mod_size_56 : decode b_Mod_size 56 = .ok (.aload_n 0, 1) := by decide +kernel
theorem d_Mod_size_57 : decode b_Mod_size 57 = .ok (.getfield 84, 3) := by decide +kernel
theorem d_Mod_size_60 : decode b_Mod_size 60 = .ok (.ifCond .le 7, 3) := by decide +kernel
theorem d_Mod_size_63 : decode b_Mod_size 63 = .ok (.lconst 0, 1) := by decide +kernel
theorem d_Mod_size_64 : decode b_Mod_size 64 = .ok (.goto 32, 3) := by decide +kernel
theorem d_Mod_size_67 : decode b_Mod_size 67 = .ok (.iload_n 3, 1) := by decide +kernel
theorem d_Mod_size_68 : decode b_Mod_size 68 = .ok (.ifCond .ne 17, 3) := by decide +kernel
theorem d_Mod_size_71 : decode b_Mod_size 71 = .ok (.aload_n 0, 1) := by decide +kernel
theorem d_Mod_size_72 : decode b_Mod_size 72 = .ok (.getfield 51, 3) := by decide +kernel
theorem d_Mod_size_75 : decode b_Mod_size 75 = .ok (.bipush 6, 2) := by decide +kernel
theorem d_Mod_size_77 : decode b_Mod_size 77 = .ok (.iload_n 1, 1) := by decide +kernel
theorem d_Mod_size_78 : decode b_Mod_size 78 = .ok (.imul, 1) := by decide +kernel
theorem d_Mod_size_79 : decode b_Mod_size 79 = .ok (.iload_n 2, 1) := by decide +kernel
theorem d_Mod_size_80 : decode b_Mod_size 80 = .ok (.iadd, 1) := by decide +kernel
theorem d_Mod_size_81 : decode b_Mod_size 81 = .ok (.laload, 1) := by decide +kernel
theorem d_Mod_size_82 : decode b_Mod_size 82 = .ok (.goto 14, 3) := by decide +kernel
theorem d_Mod_size_85 : decode b_Mod_size 85 = .ok (.aload_n 0, 1) := by decide +kernel
theorem d_Mod_size_86 : decode b_Mod_size 86 = .ok (.getfield 54, 3) := by decide +kernel
theorem d_Mod_size_89 : decode b_Mod_size 89 = .ok (.bipush 6, 2) := by decide +kernel
theorem d_Mod_size_91 : decode b_Mod_size 91 = .ok (.iload_n 1, 1) := by decide +kernel
theorem d_Mod_size_92 : decode b_Mod_size 92 = .ok (.imul, 1) := by decide +kernel
theorem d_Mod_size_93 : decode b_Mod_size 93 = .ok (.iload_n 2, 1) := by decide +kernel
theorem d_Mod_size_94 : decode b_Mod_size 94 = .ok (.iadd, 1) := by decide +kernel
theorem d_Mod_size_95 : decode b_Mod_size 95 = .ok (.laload, 1) := by decide +kernel
theorem d_Mod_size_96 : decode b_Mod_size 96 = .ok (.lreturn, 1) := by decide +kernel
theorem d_Mod_state_0 : decode b_Mod_state 0 = .ok (.aload_n 0, 1) := by decide +kernel
theorem d_Mod_state_1 : decode b_Mod_state 1 = .ok (.aload_n 0, 1) := by decide +kernel
theorem d_Mod_state_2 : decode b_Mod_state 2 = .ok (.getfield 170, 3) := by decide +kernel
theorem d_Mod_state_5 : decode b_Mod_state 5 = .ok (.ifCond .ne 7, 3) := by decide +kernel
theorem d_Mod_state_8 : decode b_Mod_state 8 = .ok (.iconst 1, 1) := by decide +kernel
theorem d_Mod_state_9 : decode b_Mod_state 9 = .ok (.goto 16, 3) := by decide +kernel
theorem d_Mod_state_12 : decode b_Mod_state 12 = .ok (.iload_n 1, 1) := by decide +kernel
theorem d_Mod_state_13 : decode b_Mod_state 13 = .ok (.iload_n 2, 1) := by decide +kernel
theorem d_Mod_state_14 : decode b_Mod_state 14 = .ok (.invokestatic 239, 3) := by decide +kernel
theorem d_Mod_state_17 : decode b_Mod_state 17 = .ok (.ifCond .eq 7, 3) := by decide +kernel
theorem d_Mod_state_20 : decode b_Mod_state 20 = .ok (.iconst 0, 1) := by decide +kernel
theorem d_Mod_state_21 : decode b_Mod_state 21 = .ok (.goto 4, 3) := by decide +kernel
theorem d_Mod_state_24 : decode b_Mod_state 24 = .ok (.iconst 2, 1) := by decide +kernel
theorem d_Mod_state_25 : decode b_Mod_state 25 = .ok (.putfield 84, 3) := by decide +kernel
theorem d_Mod_state_28 : decode b_Mod_state 28 = .ok (.aload_n 0, 1) := by decide +kernel
theorem d_Mod_state_29 : decode b_Mod_state 29 = .ok (.getfield 84, 3) := by decide +kernel
theorem d_Mod_state_32 : decode b_Mod_state 32 = .ok (.ifCond .le 7, 3) := by decide +kernel
theorem d_Mod_state_35 : decode b_Mod_state 35 = .ok (.iconst 0, 1) := by decide +kernel
theorem d_Mod_state_36 : decode b_Mod_state 36 = .ok (.goto 14, 3) := by decide +kernel
theorem d_Mod_state_39 : decode b_Mod_state 39 = .ok (.aload_n 0, 1) := by decide +kernel
theorem d_Mod_state_40 : decode b_Mod_state 40 = .ok (.getfield 48, 3) := by decide +kernel
theorem d_Mod_state_43 : decode b_Mod_state 43 = .ok (.bipush 6, 2) := by decide +kernel
theorem d_Mod_state_45 : decode b_Mod_state 45 = .ok (.iload_n 1, 1) := by decide +kernel
theorem d_Mod_state_46 : decode b_Mod_state 46 = .ok (.imul, 1) := by decide +kernel
theorem d_Mod_state_47 : decode b_Mod_state 47 = .ok (.iload_n 2, 1) := by decide +kernel
theorem d_Mod_state_48 : decode b_Mod_state 48 = .ok (.iadd, 1) := by decide +kernel
theorem d_Mod_state_49 : decode b_Mod_state 49 = .ok (.iaload, 1) := by decide +kernel
theorem d_Mod_state_50 : decode b_Mod_state 50 = .ok (.ireturn, 1) := by decide +kernel
theorem d_Mod_work_0 : decode b_Mod_work 0 = .ok (.iconst 0, 1) := by decide +kernel
theorem d_Mod_work_1 : decode b_Mod_work 1 = .ok (.istore_n 1, 1) := by decide +kernel
theorem d_Mod_work_2 : decode b_Mod_work 2 = .ok (.iload_n 1, 1) := by decide +kernel
theorem d_Mod_work_3 : decode b_Mod_work 3 = .ok (.bipush 60, 2) := by decide +kernel
theorem d_Mod_work_5 : decode b_Mod_work 5 = .ok (.if_icmp .ge 62, 3) := by decide +kernel
theorem d_Mod_work_8 : decode b_Mod_work 8 = .ok (.aload_n 0, 1) := by decide +kernel
theorem d_Mod_work_9 : decode b_Mod_work 9 = .ok (.getfield 48, 3) := by decide +kernel
theorem d_Mod_work_12 : decode b_Mod_work 12 = .ok (.iload_n 1, 1) := by decide +kernel
theorem d_Mod_work_13 : decode b_Mod_work 13 = .ok (.aload_n 0, 1) := by decide +kernel
theorem d_Mod_work_14 : decode b_Mod_work 14 = .ok (.getfield 41, 3) := by decide +kernel
theorem d_Mod_work_17 : decode b_Mod_work 17 = .ok (.iload_n 1, 1) := by decide +kernel
theorem d_Mod_work_18 : decode b_Mod_work 18 = .ok (.iaload, 1) := by decide +kernel
theorem d_Mod_work_19 : decode b_Mod_work 19 = .ok (.ifCond .ge 7, 3) := by decide +kernel
theorem d_Mod_work_22 : decode b_Mod_work 22 = .ok (.iconst 0, 1) := by decide +kernel
theorem d_Mod_work_23 : decode b_Mod_work 23 = .ok (.goto 16, 3) := by decide +kernel
theorem d_Mod_work_26 : decode b_Mod_work 26 = .ok (.aload_n 0, 1) := by decide +kernel
theorem d_Mod_work_27 : decode b_Mod_work 27 = .ok (.iload_n 1, 1) := by decide +kernel
theorem d_Mod_work_28 : decode b_Mod_work 28 = .ok (.invokevirtual 220, 3) := by decide +kernel
theorem d_Mod_work_31 : decode b_Mod_work 31 = .ok (.ifCond .eq 7, 3) := by decide +kernel
theorem d_Mod_work_34 : decode b_Mod_work 34 = .ok (.iconst 4, 1) := by decide +kernel
theorem d_Mod_work_35 : decode b_Mod_work 35 = .ok (.goto 4, 3) := by decide +kernel
theorem d_Mod_work_38 : decode b_Mod_work 38 = .ok (.iconst (-1), 1) := by decide +kernel
theorem d_Mod_work_39 : decode b_Mod_work 39 = .ok (.iastore, 1) := by decide +kernel
theorem d_Mod_work_40 : decode b_Mod_work 40 = .ok (.aload_n 0, 1) := by decide +kernel
theorem d_Mod_work_41 : decode b_Mod_work 41 = .ok (.getfield 51, 3) := by decide +kernel
theorem d_Mod_work_44 : decode b_Mod_work 44 = .ok (.iload_n 1, 1) := by decide +kernel
theorem d_Mod_work_45 : decode b_Mod_work 45 = .ok (.lconst 0, 1) := by decide +kernel
theorem d_Mod_work_46 : decode b_Mod_work 46 = .ok (.lastore, 1) := by decide +kernel
theorem d_Mod_work_47 : decode b_Mod_work 47 = .ok (.aload_n 0, 1) := by decide +kernel
theorem d_Mod_work_48 : decode b_Mod_work 48 = .ok (.getfield 54, 3) := by decide +kernel
theorem d_Mod_work_51 : decode b_Mod_work 51 = .ok (.iload_n 1, 1) := by decide +kernel
theorem d_Mod_work_52 : decode b_Mod_work 52 = .ok (.lconst 1, 1) := by decide +kernel
theorem d_Mod_work_53 : decode b_Mod_work 53 = .ok (.lastore, 1) := by decide +kernel
theorem d_Mod_work_54 : decode b_Mod_work 54 = .ok (.aload_n 0, 1) := by decide +kernel
theorem d_Mod_work_55 : decode b_Mod_work 55 = .ok (.getfield 57, 3) := by decide +kernel
theorem d_Mod_work_58 : decode b_Mod_work 58 = .ok (.iload_n 1, 1) := by decide +kernel
theorem d_Mod_work_59 : decode b_Mod_work 59 = .ok (.iconst (-1), 1) := by decide +kernel
theorem d_Mod_work_60 : decode b_Mod_work 60 = .ok (.iastore, 1) := by decide +kernel
theorem d_Mod_work_61 : decode b_Mod_work 61 = .ok (.iinc 1 1, 3) := by decide +kernel
theorem d_Mod_work_64 : decode b_Mod_work 64 = .ok (.goto (-62), 3) := by decide +kernel
theorem d_Mod_work_67 : decode b_Mod_work 67 = .ok (.iconst 1, 1) := by decide +kernel
theorem d_Mod_work_68 : decode b_Mod_work 68 = .ok (.istore_n 1, 1) := by decide +kernel
theorem d_Mod_work_69 : decode b_Mod_work 69 = .ok (.iload_n 1, 1) := by decide +kernel
theorem d_Mod_work_70 : decode b_Mod_work 70 = .ok (.ifCond .eq 37, 3) := by decide +kernel
theorem d_Mod_work_73 : decode b_Mod_work 73 = .ok (.iconst 0, 1) := by decide +kernel
theorem d_Mod_work_74 : decode b_Mod_work 74 = .ok (.istore_n 1, 1) := by decide +kernel
theorem d_Mod_work_75 : decode b_Mod_work 75 = .ok (.iconst 0, 1) := by decide +kernel
theorem d_Mod_work_76 : decode b_Mod_work 76 = .ok (.istore_n 2, 1) := by decide +kernel
theorem d_Mod_work_77 : decode b_Mod_work 77 = .ok (.iload_n 2, 1) := by decide +kernel
theorem d_Mod_work_78 : decode b_Mod_work 78 = .ok (.bipush 60, 2) := by decide +kernel
theorem d_Mod_work_80 : decode b_Mod_work 80 = .ok (.if_icmp .ge 24, 3) := by decide +kernel
theorem d_Mod_work_83 : decode b_Mod_work 83 = .ok (.aload_n 0, 1) := by decide +kernel
theorem d_Mod_work_84 : decode b_Mod_work 84 = .ok (.iload_n 2, 1) := by decide +kernel
theorem d_Mod_work_85 : decode b_Mod_work 85 = .ok (.invokevirtual 223, 3) := by decide +kernel
theorem d_Mod_work_88 : decode b_Mod_work 88 = .ok (.ifCond .eq 10, 3) := by decide +kernel
theorem d_Mod_work_91 : decode b_Mod_work 91 = .ok (.aload_n 0, 1) := by decide +kernel
theorem d_Mod_work_92 : decode b_Mod_work 92 = .ok (.iload_n 2, 1) := by decide +kernel
theorem d_Mod_work_93 : decode b_Mod_work 93 = .ok (.invokevirtual 226, 3) := by decide +kernel
theorem d_Mod_work_96 : decode b_Mod_work 96 = .ok (.iconst 1, 1) := by decide +kernel
theorem d_Mod_work_97 : decode b_Mod_work 97 = .ok (.istore_n 1, 1) := by decide +kernel
theorem d_Mod_work_98 : decode b_Mod_work 98 = .ok (.iinc 2 1, 3) := by decide +kernel
theorem d_Mod_work_101 : decode b_Mod_work 101 = .ok (.goto (-24), 3) := by decide +kernel
theorem d_Mod_work_104 : decode b_Mod_work 104 = .ok (.goto (-35), 3) := by decide +kernel
theorem d_Mod_work_107 : decode b_Mod_work 107 = .ok (.return_, 1) := by decide +kernel
theorem g_Mod_223 : GoodIn wsAll (wsV R_Mod 223 R_Mod y_Mod_isReady ws_Mod_isReady) := gd_V ml_Mod_223 im_Mod_isReady se_Mod_isReady ini_Mod cd_Mod_isReady
theorem g_Mod_226 : GoodIn wsAll (wsV R_Mod 226 R_Mod y_Mod_reckonCell ws_Mod_reckonCell) := gd_V ml_Mod_226 im_Mod_reckonCell se_Mod_reckonCell ini_Mod cd_Mod_reckonCell
def F_Mod_work_77 (k69 : Int32 → Ob → Option (Ob)) : Nat → Int32 → Int32 → Ob → Option (Ob)
  | 0, _, _, _ => none
  | n + 1, x1, x2, o0 =>
    if (60 : Int32) ≤ x2 then (k69 x1 o0) else (bind1 (F_Mod_isReady x2 o0) (fun v14 => if (b2i v14) = 0 then (F_Mod_work_77 k69 n x1 (x2 + (1 : Int32)) o0) else (bind1 (F_Mod_reckonCell x2 o0) (fun o_17 => F_Mod_work_77 k69 n (1 : Int32) (x2 + (1 : Int32)) o_17))))
def F_Mod_work_69  : Nat → Int32 → Ob → Option (Ob)
  | 0, _, _ => none
  | n + 1, x1, o0 =>
    if x1 = 0 then (some o0) else (F_Mod_work_77 (F_Mod_work_69 n) fuel (0 : Int32) (0 : Int32) o0)
def F_Mod_work_39 (k2 : Int32 → Ob → Option (Ob)) (x1 : Int32) (y1 : Int32) (y2 : Int32) (o0 : Ob) : Option (Ob) :=
  chk (inb y1 60) (chk (inb x1 60) (k2 (x1 + (1 : Int32)) (s32 (s64 (s64 (s32 o0 19 (Int32.toNatClampNeg y1) y2) 20 (Int32.toNatClampNeg x1) (0 : Int64)) 21 (Int32.toNatClampNeg x1) (1 : Int64)) 22 (Int32.toNatClampNeg x1) (-1 : Int32))))
def F_Mod_work_2  : Nat → Int32 → Ob → Option (Ob)
  | 0, _, _ => none
  | n + 1, x1, o0 =>
    if (60 : Int32) ≤ x1 then (F_Mod_work_69 fuel (1 : Int32) o0) else (chk (inb x1 60) (if 0 ≤ (g32 o0 17 (Int32.toNatClampNeg x1)) then (bind1 (F_Mod_isRing x1 o0) (fun v5 => if (b2i v5) = 0 then (F_Mod_work_39 (F_Mod_work_2 n) x1 x1 (-1 : Int32) o0) else (F_Mod_work_39 (F_Mod_work_2 n) x1 x1 (4 : Int32) o0))) else (F_Mod_work_39 (F_Mod_work_2 n) x1 x1 (0 : Int32) o0)))
def F_Mod_work  (o0 : Ob) : Option (Ob) :=
  F_Mod_work_2 fuel (0 : Int32) o0
abbrev ws_Mod_work : List Cond := Cond.code y_Mod_work b_Mod_work 3 (none : Option Jvm.ClassFile.FieldType) :: wsAll
abbrev rm_Mod_work : Room := { frames := 5, cells := 0, slots := 0, locals := 140 }
set_option maxHeartbeats 4000000 in
set_option maxRecDepth 100000 in
theorem k_Mod_work_77 {p : Program} {l : Launch} {e : Env} {s : State} {m : MethodId} {args : Array Value} {below : List Frame} {meth : Method} {c : Code} {A : Nat → Prop} {ct dC : Nat → ClassId} {dI : Nat → Nat → Nat} {a0 : Nat → Nat}  {n0 : Ob}  {k69 : Int32 → Ob → Option (Ob)} (C0 : cx wsAll vwCl nx p s m args meth c (dC, dI) (tyA ct) b_Mod_work 3 (none : Option Jvm.ClassFile.FieldType) R_Mod A [adMod a0]) (hk69 : ∀ (x1 : Int32) (o0 : Ob) (H : Heap) (locs : List Loc) (ls : Array Slot), bw_P (dC, dI) vwCl [wMod ct a0 o0] H → va_S A s.heap H locs → lv_has ls 3 [(0, .ref (a0 0)), (1, .int x1)] → k69 x1 o0 = some n0 → W p l e (headSpec ws_Mod_work rm_Mod_work).room s m args below meth c H locs 0 0 (MQ below (bw_Q (dC, dI) vwCl none [wMod ct a0 n0] A) args s 0 0 A) (F0 m 69 ls [])) : ∀ (n : Nat) (x1 : Int32) (x2 : Int32) (o0 : Ob) (H : Heap) (locs : List Loc) (ls : Array Slot), bw_P (dC, dI) vwCl [wMod ct a0 o0] H → va_S A s.heap H locs → lv_has ls 3 [(0, .ref (a0 0)), (1, .int x1), (2, .int x2)] → F_Mod_work_77 k69 n x1 x2 o0 = some n0 → W p l e (headSpec ws_Mod_work rm_Mod_work).room s m args below meth c H locs 0 0 (MQ below (bw_Q (dC, dI) vwCl none [wMod ct a0 n0] A) args s 0 0 A) (F0 m 77 ls []) := by
  obtain ⟨hx, hb, hr, hml, hown, hlocks, hts, hK, hN, hA, hnx⟩ := id C0
  intro n
  induction n with
  | zero =>
    intro x1 x2 o0 H locs ls hP hS hl h
    cases h
  | succ n ih =>
    intro x1 x2 o0 H locs ls hP hS hl h
    rw [F_Mod_work_77] at h
    refine lv_iload_n hx hb d_Mod_work_77 rfl (lv_at hl 2 rfl) ?_
    refine lv_bipush (v := 60) hx hb d_Mod_work_78 (by decide) ?_
    refine lv_icmp_ge (tgt := 104) hx hb d_Mod_work_80 (by decide) (fun c12 => ?_) (fun c12 => ?_)
    · have h := ite_t c12 h
      refine lv_goto (tgt := 69) hx hb d_Mod_work_104 (by decide) ?_
      exact hk69 x1 o0 _ _ _ hP hS (lv_sub hl [0, 1] rfl) h
    · have h := ite_f c12 h
      refine lv_aload_n hx hb d_Mod_work_83 rfl (lv_at hl 0 rfl) ?_
      refine lv_iload_n hx hb d_Mod_work_84 rfl (lv_at hl 2 rfl) ?_
      obtain ⟨v14, hG13, h⟩ := bind1_some h
      refine bw_callR (va_runV (As := [.int x2]) (rest := []) ⟨hx, hb, hml, hown, hts⟩ (c_Mod_isReady l ct dC dI a0 _ x2 o0 v14 hG13) (cwV 1 hts g_Mod_223 rfl rfl rfl (by decide +kernel) ⟨Nat.le_of_ble_eq_true rfl, Nat.le_of_ble_eq_true rfl⟩) ⟨bw_blind nx_call, va_recv hK (hP 0 _ rfl) (ci := 6) (q0 := 0) rfl rfl, fun U hU hW => ⟨rfl, by rw [hU], by rw [hU]; exact hP.sub [0] rfl, va_K.moved hW.alike hK, (hN.sub [0] (by decide) rfl).weaken (fun _ _ => trivial), nx_warm hW hnx⟩⟩ rfl rfl hl.1 rfl (Nat.le_of_ble_eq_true rfl) d_Mod_work_85 ⟨Nat.le_of_ble_eq_true rfl, Nat.le_of_ble_eq_true rfl⟩) ?_
      refine lv_if_eq (tgt := 98) hx hb d_Mod_work_88 (by decide) (fun c15 => ?_) (fun c15 => ?_)
      · have h := ite_t c15 h
        refine lv_iinc (v := (x2 + (1 : Int32))) (lv' := [(2, .int (x2 + (1 : Int32))), (0, .ref (a0 0)), (1, .int x1)]) hx hb d_Mod_work_98 hl (k := 2) rfl rfl (by decide) rfl (fun ls hl => ?_)
        refine lv_goto (tgt := 77) hx hb d_Mod_work_101 (by decide) ?_
        exact ih x1 (x2 + (1 : Int32)) o0 _ _ _ hP hS (lv_sub hl [1, 2, 0] rfl) h
      · have h := ite_f c15 h
        refine lv_aload_n hx hb d_Mod_work_91 rfl (lv_at hl 0 rfl) ?_
        refine lv_iload_n hx hb d_Mod_work_92 rfl (lv_at hl 2 rfl) ?_
        obtain ⟨o_17, hG16, h⟩ := bind1_some h
        refine bw_call (Lc := [wMod ct a0 o0]) (Lc' := [wMod ct a0 o_17]) (L' := [wMod ct a0 o_17]) [0] (va_runV (As := [.int x2]) (rest := []) ⟨hx, hb, hml, hown, hts⟩ (c_Mod_reckonCell l ct dC dI a0 _ x2 o0 o_17 hG16) (cwV 1 hts g_Mod_226 rfl rfl rfl (by decide +kernel) ⟨Nat.le_of_ble_eq_true rfl, Nat.le_of_ble_eq_true rfl⟩) ⟨bw_blind nx_call, va_recv hK (hP 0 _ rfl) (ci := 6) (q0 := 0) rfl rfl, fun U hU hW => ⟨rfl, by rw [hU], by rw [hU]; exact hP.sub [0] rfl, va_K.moved hW.alike hK, (hN.sub [0] (by decide) rfl).weaken (fun _ _ => trivial), nx_warm hW hnx⟩⟩ rfl rfl hl.1 rfl (Nat.le_of_ble_eq_true rfl) d_Mod_work_93 ⟨Nat.le_of_ble_eq_true rfl, Nat.le_of_ble_eq_true rfl⟩) hP hN hS hA rfl rfl rfl (fun H locs hP hS => ?_)
        refine lv_iconst (v := 1) hx hb d_Mod_work_96 (by decide) ?_
        refine lv_istore_n (lv' := [(1, .int (1 : Int32)), (0, .ref (a0 0)), (2, .int x2)]) hx hb d_Mod_work_97 rfl hl (by decide) rfl (fun ls hl => ?_)
        refine lv_iinc (v := (x2 + (1 : Int32))) (lv' := [(2, .int (x2 + (1 : Int32))), (1, .int (1 : Int32)), (0, .ref (a0 0))]) hx hb d_Mod_work_98 hl (k := 2) rfl rfl (by decide) rfl (fun ls hl => ?_)
        refine lv_goto (tgt := 77) hx hb d_Mod_work_101 (by decide) ?_
        exact ih (1 : Int32) (x2 + (1 : Int32)) o_17 _ _ _ hP hS (lv_sub hl [2, 1, 0] rfl) h
set_option maxHeartbeats 4000000 in
set_option maxRecDepth 100000 in
theorem k_Mod_work_69 {p : Program} {l : Launch} {e : Env} {s : State} {m : MethodId} {args : Array Value} {below : List Frame} {meth : Method} {c : Code} {A : Nat → Prop} {ct dC : Nat → ClassId} {dI : Nat → Nat → Nat} {a0 : Nat → Nat}  {n0 : Ob}   (C0 : cx wsAll vwCl nx p s m args meth c (dC, dI) (tyA ct) b_Mod_work 3 (none : Option Jvm.ClassFile.FieldType) R_Mod A [adMod a0])  : ∀ (n : Nat) (x1 : Int32) (o0 : Ob) (H : Heap) (locs : List Loc) (ls : Array Slot), bw_P (dC, dI) vwCl [wMod ct a0 o0] H → va_S A s.heap H locs → lv_has ls 3 [(0, .ref (a0 0)), (1, .int x1)] → F_Mod_work_69 n x1 o0 = some n0 → W p l e (headSpec ws_Mod_work rm_Mod_work).room s m args below meth c H locs 0 0 (MQ below (bw_Q (dC, dI) vwCl none [wMod ct a0 n0] A) args s 0 0 A) (F0 m 69 ls []) := by
  obtain ⟨hx, hb, hr, hml, hown, hlocks, hts, hK, hN, hA, hnx⟩ := id C0
  intro n
  induction n with
  | zero =>
    intro x1 o0 H locs ls hP hS hl h
    cases h
  | succ n ih =>
    intro x1 o0 H locs ls hP hS hl h
    rw [F_Mod_work_69] at h
    refine lv_iload_n hx hb d_Mod_work_69 rfl (lv_at hl 1 rfl) ?_
    refine lv_if_eq (tgt := 107) hx hb d_Mod_work_70 (by decide) (fun c7 => ?_) (fun c7 => ?_)
    · have h := ite_t c7 h
      obtain rfl := res1 h
      exact W.vret hx hb hr (fun t ht hW => ⟨rfl, by rw [ht]; exact hP, hS.F ht⟩) hS.2.2 d_Mod_work_107
    · have h := ite_f c7 h
      refine lv_iconst (v := 0) hx hb d_Mod_work_73 (by decide) ?_
      refine lv_istore_n (lv' := [(1, .int (0 : Int32)), (0, .ref (a0 0))]) hx hb d_Mod_work_74 rfl hl (by decide) rfl (fun ls hl => ?_)
      refine lv_iconst (v := 0) hx hb d_Mod_work_75 (by decide) ?_
      refine lv_istore_n (lv' := [(2, .int (0 : Int32)), (1, .int (0 : Int32)), (0, .ref (a0 0))]) hx hb d_Mod_work_76 rfl hl (by decide) rfl (fun ls hl => ?_)
      exact k_Mod_work_77 C0 ih fuel (0 : Int32) (0 : Int32) o0 _ _ _ hP hS (lv_sub hl [2, 1, 0] rfl) h
set_option maxHeartbeats 4000000 in
set_option maxRecDepth 100000 in
theorem k_Mod_work_39 {p : Program} {l : Launch} {e : Env} {s : State} {m : MethodId} {args : Array Value} {below : List Frame} {meth : Method} {c : Code} {A : Nat → Prop} {ct dC : Nat → ClassId} {dI : Nat → Nat → Nat} {a0 : Nat → Nat}  {n0 : Ob}  {k2 : Int32 → Ob → Option (Ob)} (C0 : cx wsAll vwCl nx p s m args meth c (dC, dI) (tyA ct) b_Mod_work 3 (none : Option Jvm.ClassFile.FieldType) R_Mod A [adMod a0]) (hk2 : ∀ (x1 : Int32) (o0 : Ob) (H : Heap) (locs : List Loc) (ls : Array Slot), bw_P (dC, dI) vwCl [wMod ct a0 o0] H → va_S A s.heap H locs → lv_has ls 3 [(0, .ref (a0 0)), (1, .int x1)] → k2 x1 o0 = some n0 → W p l e (headSpec ws_Mod_work rm_Mod_work).room s m args below meth c H locs 0 0 (MQ below (bw_Q (dC, dI) vwCl none [wMod ct a0 n0] A) args s 0 0 A) (F0 m 2 ls [])) : ∀ (x1 : Int32) (y1 : Int32) (y2 : Int32) (o0 : Ob) (H : Heap) (locs : List Loc) (ls : Array Slot), bw_P (dC, dI) vwCl [wMod ct a0 o0] H → va_S A s.heap H locs → lv_has ls 3 [(0, .ref (a0 0)), (1, .int x1)] → F_Mod_work_39 k2 x1 y1 y2 o0 = some n0 → W p l e (headSpec ws_Mod_work rm_Mod_work).room s m args below meth c H locs 0 0 (MQ below (bw_Q (dC, dI) vwCl none [wMod ct a0 n0] A) args s 0 0 A) (F0 m 39 ls [.int y2, .int y1, .ref (a0 13)]) := by
  obtain ⟨hx, hb, hr, hml, hown, hlocks, hts, hK, hN, hA, hnx⟩ := id C0
  intro x1 y1 y2 o0 H locs ls hP hS hl h
  rw [F_Mod_work_39] at h
  obtain ⟨hi8, h⟩ := chk_some h
  refine st_Mod_19 hx hb hK hP hN hS 0 rfl (inb_in hi8) d_Mod_work_39 (fun H locs hP hS => ?_)
  have hP : bw_P (dC, dI) vwCl [wMod ct a0 (s32 o0 19 (Int32.toNatClampNeg y1) y2)] H := hP
  refine lv_aload_n hx hb d_Mod_work_40 rfl (lv_at hl 0 rfl) ?_
  refine va_get (D := (dC, dI)) (ci := 6) (v := .ref (a0 14)) (C := R_Mod) (T := T_Mod) (N := 36) hx hb hts in_Mod hown hK (hP 0 _ rfl) 0 rfl rfl 20 (by decide) (hts _ fl_Mod_51) (fun _ h9 => h9) rfl d_Mod_work_41 ?_
  refine lv_iload_n hx hb d_Mod_work_44 rfl (lv_at hl 1 rfl) ?_
  refine lv_lconst (v := 0) hx hb d_Mod_work_45 (by decide) ?_
  obtain ⟨hi9, h⟩ := chk_some h
  refine st_Mod_20 hx hb hK hP hN hS 0 rfl (inb_in hi9) d_Mod_work_46 (fun H locs hP hS => ?_)
  have hP : bw_P (dC, dI) vwCl [wMod ct a0 (s64 (s32 o0 19 (Int32.toNatClampNeg y1) y2) 20 (Int32.toNatClampNeg x1) (0 : Int64))] H := hP
  refine lv_aload_n hx hb d_Mod_work_47 rfl (lv_at hl 0 rfl) ?_
  refine va_get (D := (dC, dI)) (ci := 6) (v := .ref (a0 15)) (C := R_Mod) (T := T_Mod) (N := 36) hx hb hts in_Mod hown hK (hP 0 _ rfl) 0 rfl rfl 21 (by decide) (hts _ fl_Mod_54) (fun _ h9 => h9) rfl d_Mod_work_48 ?_
  refine lv_iload_n hx hb d_Mod_work_51 rfl (lv_at hl 1 rfl) ?_
  refine lv_lconst (v := 1) hx hb d_Mod_work_52 (by decide) ?_
  refine st_Mod_21 hx hb hK hP hN hS 0 rfl (inb_in hi9) d_Mod_work_53 (fun H locs hP hS => ?_)
  have hP : bw_P (dC, dI) vwCl [wMod ct a0 (s64 (s64 (s32 o0 19 (Int32.toNatClampNeg y1) y2) 20 (Int32.toNatClampNeg x1) (0 : Int64)) 21 (Int32.toNatClampNeg x1) (1 : Int64))] H := hP
  refine lv_aload_n hx hb d_Mod_work_54 rfl (lv_at hl 0 rfl) ?_
  refine va_get (D := (dC, dI)) (ci := 6) (v := .ref (a0 16)) (C := R_Mod) (T := T_Mod) (N := 36) hx hb hts in_Mod hown hK (hP 0 _ rfl) 0 rfl rfl 22 (by decide) (hts _ fl_Mod_57) (fun _ h9 => h9) rfl d_Mod_work_55 ?_
  refine lv_iload_n hx hb d_Mod_work_58 rfl (lv_at hl 1 rfl) ?_
  refine lv_iconst (v := -1) hx hb d_Mod_work_59 (by decide) ?_
  refine st_Mod_22 hx hb hK hP hN hS 0 rfl (inb_in hi9) d_Mod_work_60 (fun H locs hP hS => ?_)
  have hP : bw_P (dC, dI) vwCl [wMod ct a0 (s32 (s64 (s64 (s32 o0 19 (Int32.toNatClampNeg y1) y2) 20 (Int32.toNatClampNeg x1) (0 : Int64)) 21 (Int32.toNatClampNeg x1) (1 : Int64)) 22 (Int32.toNatClampNeg x1) (-1 : Int32))] H := hP
  refine lv_iinc (v := (x1 + (1 : Int32))) (lv' := [(1, .int (x1 + (1 : Int32))), (0, .ref (a0 0))]) hx hb d_Mod_work_61 hl (k := 1) rfl rfl (by decide) rfl (fun ls hl => ?_)
  refine lv_goto (tgt := 2) hx hb d_Mod_work_64 (by decide) ?_
  exact hk2 (x1 + (1 : Int32)) (s32 (s64 (s64 (s32 o0 19 (Int32.toNatClampNeg y1) y2) 20 (Int32.toNatClampNeg x1) (0 : Int64)) 21 (Int32.toNatClampNeg x1) (1 : Int64)) 22 (Int32.toNatClampNeg x1) (-1 : Int32)) _ _ _ hP hS (lv_sub hl [1, 0] rfl) h
set_option maxHeartbeats 4000000 in
set_option maxRecDepth 100000 in
theorem k_Mod_work_2 {p : Program} {l : Launch} {e : Env} {s : State} {m : MethodId} {args : Array Value} {below : List Frame} {meth : Method} {c : Code} {A : Nat → Prop} {ct dC : Nat → ClassId} {dI : Nat → Nat → Nat} {a0 : Nat → Nat}  {n0 : Ob}   (C0 : cx wsAll vwCl nx p s m args meth c (dC, dI) (tyA ct) b_Mod_work 3 (none : Option Jvm.ClassFile.FieldType) R_Mod A [adMod a0])  : ∀ (n : Nat) (x1 : Int32) (o0 : Ob) (H : Heap) (locs : List Loc) (ls : Array Slot), bw_P (dC, dI) vwCl [wMod ct a0 o0] H → va_S A s.heap H locs → lv_has ls 3 [(0, .ref (a0 0)), (1, .int x1)] → F_Mod_work_2 n x1 o0 = some n0 → W p l e (headSpec ws_Mod_work rm_Mod_work).room s m args below meth c H locs 0 0 (MQ below (bw_Q (dC, dI) vwCl none [wMod ct a0 n0] A) args s 0 0 A) (F0 m 2 ls []) := by
  obtain ⟨hx, hb, hr, hml, hown, hlocks, hts, hK, hN, hA, hnx⟩ := id C0
  intro n
  induction n with
  | zero =>
    intro x1 o0 H locs ls hP hS hl h
    cases h
  | succ n ih =>
    intro x1 o0 H locs ls hP hS hl h
    rw [F_Mod_work_2] at h
    refine lv_iload_n hx hb d_Mod_work_2 rfl (lv_at hl 1 rfl) ?_
    refine lv_bipush (v := 60) hx hb d_Mod_work_3 (by decide) ?_
    refine lv_icmp_ge (tgt := 67) hx hb d_Mod_work_5 (by decide) (fun c1 => ?_) (fun c1 => ?_)
    · have h := ite_t c1 h
      refine lv_iconst (v := 1) hx hb d_Mod_work_67 (by decide) ?_
      refine lv_istore_n (lv' := [(1, .int (1 : Int32)), (0, .ref (a0 0))]) hx hb d_Mod_work_68 rfl hl (by decide) rfl (fun ls hl => ?_)
      exact k_Mod_work_69 C0 fuel (1 : Int32) o0 _ _ _ hP hS (lv_sub hl [1, 0] rfl) h
    · have h := ite_f c1 h
      refine lv_aload_n hx hb d_Mod_work_8 rfl (lv_at hl 0 rfl) ?_
      refine va_get (D := (dC, dI)) (ci := 6) (v := .ref (a0 13)) (C := R_Mod) (T := T_Mod) (N := 36) hx hb hts in_Mod hown hK (hP 0 _ rfl) 0 rfl rfl 19 (by decide) (hts _ fl_Mod_48) (fun _ h9 => h9) rfl d_Mod_work_9 ?_
      refine lv_iload_n hx hb d_Mod_work_12 rfl (lv_at hl 1 rfl) ?_
      refine lv_aload_n hx hb d_Mod_work_13 rfl (lv_at hl 0 rfl) ?_
      refine va_get (D := (dC, dI)) (ci := 6) (v := .ref (a0 11)) (C := R_Mod) (T := T_Mod) (N := 36) hx hb hts in_Mod hown hK (hP 0 _ rfl) 0 rfl rfl 17 (by decide) (hts _ fl_Mod_41) (fun _ h9 => h9) rfl d_Mod_work_14 ?_
      refine lv_iload_n hx hb d_Mod_work_17 rfl (lv_at hl 1 rfl) ?_
      obtain ⟨hi2, h⟩ := chk_some h
      refine va_iald (f := g32 o0 17) hx hb hK (hP 0 _ rfl) 11 0 rfl rfl (inb_in hi2) d_Mod_work_18 ?_
      refine lv_if_ge (tgt := 26) hx hb d_Mod_work_19 (by decide) (fun c3 => ?_) (fun c3 => ?_)
      · have h := ite_t c3 h
        refine lv_aload_n hx hb d_Mod_work_26 rfl (lv_at hl 0 rfl) ?_
        refine lv_iload_n hx hb d_Mod_work_27 rfl (lv_at hl 1 rfl) ?_
        obtain ⟨v5, hG4, h⟩ := bind1_some h
        refine bw_callR (va_runV (As := [.int x1]) (rest := [.int x1, .ref (a0 13)]) ⟨hx, hb, hml, hown, hts⟩ (c_Mod_isRing l ct dC dI a0 _ x1 o0 v5 hG4) (cwV 1 hts g_Mod_220 rfl rfl rfl (by decide +kernel) ⟨Nat.le_of_ble_eq_true rfl, Nat.le_of_ble_eq_true rfl⟩) ⟨bw_blind nx_call, va_recv hK (hP 0 _ rfl) (ci := 6) (q0 := 0) rfl rfl, fun U hU hW => ⟨rfl, by rw [hU], by rw [hU]; exact hP.sub [0] rfl, va_K.moved hW.alike hK, (hN.sub [0] (by decide) rfl).weaken (fun _ _ => trivial), nx_warm hW hnx⟩⟩ rfl rfl hl.1 rfl (Nat.le_of_ble_eq_true rfl) d_Mod_work_28 ⟨Nat.le_of_ble_eq_true rfl, Nat.le_of_ble_eq_true rfl⟩) ?_
        refine lv_if_eq (tgt := 38) hx hb d_Mod_work_31 (by decide) (fun c6 => ?_) (fun c6 => ?_)
        · have h := ite_t c6 h
          refine lv_iconst (v := -1) hx hb d_Mod_work_38 (by decide) ?_
          exact k_Mod_work_39 C0 ih x1 x1 (-1 : Int32) o0 _ _ _ hP hS (lv_sub hl [0, 1] rfl) h
        · have h := ite_f c6 h
          refine lv_iconst (v := 4) hx hb d_Mod_work_34 (by decide) ?_
          refine lv_goto (tgt := 39) hx hb d_Mod_work_35 (by decide) ?_
          exact k_Mod_work_39 C0 ih x1 x1 (4 : Int32) o0 _ _ _ hP hS (lv_sub hl [0, 1] rfl) h
      · have h := ite_f c3 h
        refine lv_iconst (v := 0) hx hb d_Mod_work_22 (by decide) ?_
        refine lv_goto (tgt := 39) hx hb d_Mod_work_23 (by decide) ?_
        exact k_Mod_work_39 C0 ih x1 x1 (0 : Int32) o0 _ _ _ hP hS (lv_sub hl [0, 1] rfl) h
set_option maxHeartbeats 4000000 in
set_option maxRecDepth 100000 in
theorem c_Mod_work (l : Launch) (ct dC : Nat → ClassId) (dI : Nat → Nat → Nat) (a0 : Nat → Nat)  (sz : Nat)  (o0 : Ob) (n0 : Ob) (hF : F_Mod_work o0 = some n0) : Met l y_Mod_work ws_Mod_work rm_Mod_work (bw_Pc [.ref (a0 0)] (dC, dI) vwCl (tyA ct) [wMod ct a0 o0] sz nx) (bw_Q (dC, dI) vwCl none [wMod ct a0 n0] (bw_A [adMod a0] sz)) 0 0 (bw_A [adMod a0] sz) := by
  refine Met.ofW (cc := b_Mod_work) (maxL := 3) (ret := (none : Option Jvm.ClassFile.FieldType)) (by decide) rfl ?_
  intro p e s m args below meth c s₁ B hml hv
  obtain ⟨rfl, hsz, hP, hK, hN0, hnx⟩ := hv
  have hx := B.exec
  have hb := B.bytes
  have hr := B.returns
  have hts : ∀ w ∈ wsAll, w.before [.ref (a0 0)].toArray s = true := fun w h9 => atoms_spec (ws := ws_Mod_work) B.pre w (List.mem_cons_of_mem _ h9)
  have hown : s.vm.findClass R_Mod = some m.cls := findClass_of_methodNamed B.named
  have hlocks := B.notSynchronized
  subst hsz
  have hN : bw_N (bw_A [adMod a0] s.heap.size) [adMod a0] := hN0.self s.heap.size
  generalize hAe : bw_A [adMod a0] s.heap.size = A at hN ⊢
  have hA : ∀ q : Nat, s.heap.size ≤ q → A q := fun q h => by rw [← hAe]; exact Or.inr h
  have hS : va_S A s.heap s.heap [] := va_S.rf
  have hl := lv_entry ([.ref (a0 0)]) (n := 3) (Nat.le_of_ble_eq_true rfl)
  rw [lg_entry_eq]
  generalize (lg_sl ([.ref (a0 0)]) ++ List.replicate (3 - (lg_sl ([.ref (a0 0)])).length) Slot.unset).toArray = ls at hl ⊢
  have hl : lv_has ls 3 [(0, .ref (a0 0))] := hl
  have C0 : cx wsAll vwCl nx p s m [.ref (a0 0)].toArray meth c (dC, dI) (tyA ct) b_Mod_work 3 (none : Option Jvm.ClassFile.FieldType) R_Mod A [adMod a0] := ⟨hx, hb, hr, hml, hown, hlocks, hts, hK, hN, hA, hnx⟩
  have h := hF
  rw [F_Mod_work] at h
  refine lv_iconst (v := 0) hx hb d_Mod_work_0 (by decide) ?_
  refine lv_istore_n (lv' := [(1, .int (0 : Int32)), (0, .ref (a0 0))]) hx hb d_Mod_work_1 rfl hl (by decide) rfl (fun ls hl => ?_)
  exact k_Mod_work_2 C0 fuel (0 : Int32) o0 _ _ _ hP hS (lv_sub hl [1, 0] rfl) h
theorem g_Mod_229 : GoodIn wsAll (wsV R_Mod 229 R_Mod y_Mod_work ws_Mod_work) := gd_V ml_Mod_229 im_Mod_work se_Mod_work ini_Mod cd_Mod_work
def F_Mod_run_85 (k45 : Int32 → Int32 → Ob → Option (Int32 × Ob)) (x1 : Int32) (x2 : Int32) (y1 : Int64) (o0 : Ob) : Option (Int32 × Ob) :=
  chk (inb x2 50) (chk (inb (g32 o0 10 (Int32.toNatClampNeg x2)) 60) (if (g32 o0 19 (Int32.toNatClampNeg (g32 o0 10 (Int32.toNatClampNeg x2)))) = (1 : Int32) then (k45 x1 (x2 + (-1 : Int32)) (s64 o0 23 0 y1)) else (k45 (x2 + (1 : Int32)) (x2 + (-1 : Int32)) (s64 o0 23 0 y1))))
def F_Mod_run_45  : Nat → Int32 → Int32 → Ob → Option (Int32 × Ob)
  | 0, _, _, _ => none
  | n + 1, x1, x2, o0 =>
    if x2 < 0 then (some (x1, o0)) else (chk (inb x2 50) (if (g32 o0 10 (Int32.toNatClampNeg x2)) < 0 then (F_Mod_run_45 n x1 (x2 + (-1 : Int32)) o0) else (bind1 (F_Mod_isRing (g32 o0 10 (Int32.toNatClampNeg x2)) o0) (fun v11 => if (b2i v11) = 0 then (F_Mod_run_85 (F_Mod_run_45 n) x1 x2 ((g64 o0 23 0) + (1 : Int64)) o0) else (F_Mod_run_85 (F_Mod_run_45 n) x1 x2 (g64 o0 23 0) o0)))))
def F_Mod_run_13  (y1 : Int32) (o0 : Ob) : Option (Int32 × Ob) :=
  if y1 ≤ 0 then (bind1 (F_Mod_work (s32 o0 0 0 y1)) (fun o_4 => chk (inb (0 : Int32) 2) (F_Mod_run_45 fuel (0 : Int32) ((g32 o_4 8 (Int32.toNatClampNeg (0 : Int32))) - (1 : Int32)) (s32 o_4 12 0 (1 : Int32))))) else (some ((0 : Int32), (s32 o0 0 0 y1)))
def F_Mod_run  (o0 : Ob) : Option (Int32 × Ob) :=
  if (g32 o0 11 0) = 0 then (F_Mod_run_13 (1 : Int32) o0) else (F_Mod_run_13 (0 : Int32) o0)
abbrev ws_Mod_run : List Cond := Cond.code y_Mod_run b_Mod_run 3 (some .int) :: wsAll
abbrev rm_Mod_run : Room := { frames := 6, cells := 0, slots := 0, locals := 162 }
set_option maxHeartbeats 4000000 in
set_option maxRecDepth 100000 in
theorem k_Mod_run_85 {p : Program} {l : Launch} {e : Env} {s : State} {m : MethodId} {args : Array Value} {below : List Frame} {meth : Method} {c : Code} {A : Nat → Prop} {ct dC : Nat → ClassId} {dI : Nat → Nat → Nat} {a0 : Nat → Nat}  {r : Int32} {n0 : Ob}  {k45 : Int32 → Int32 → Ob → Option (Int32 × Ob)} (C0 : cx wsAll vwCl nx p s m args meth c (dC, dI) (tyA ct) b_Mod_run 3 (some .int) R_Mod A [adMod a0]) (hk45 : ∀ (x1 : Int32) (x2 : Int32) (o0 : Ob) (H : Heap) (locs : List Loc) (ls : Array Slot), bw_P (dC, dI) vwCl [wMod ct a0 o0] H → va_S A s.heap H locs → lv_has ls 3 [(0, .ref (a0 0)), (1, .int x1), (2, .int x2)] → k45 x1 x2 o0 = some (r, n0) → W p l e (headSpec ws_Mod_run rm_Mod_run).room s m args below meth c H locs 0 0 (MQ below (bw_Q (dC, dI) vwCl (some (.int r)) [wMod ct a0 n0] A) args s 0 0 A) (F0 m 45 ls [])) : ∀ (x1 : Int32) (x2 : Int32) (y1 : Int64) (o0 : Ob) (H : Heap) (locs : List Loc) (ls : Array Slot), bw_P (dC, dI) vwCl [wMod ct a0 o0] H → va_S A s.heap H locs → lv_has ls 3 [(0, .ref (a0 0)), (1, .int x1), (2, .int x2)] → F_Mod_run_85 k45 x1 x2 y1 o0 = some (r, n0) → W p l e (headSpec ws_Mod_run rm_Mod_run).room s m args below meth c H locs 0 0 (MQ below (bw_Q (dC, dI) vwCl (some (.int r)) [wMod ct a0 n0] A) args s 0 0 A) (F0 m 85 ls [.long y1, .ref (a0 0)]) := by
  obtain ⟨hx, hb, hr, hml, hown, hlocks, hts, hK, hN, hA, hnx⟩ := id C0
  intro x1 x2 y1 o0 H locs ls hP hS hl h
  rw [F_Mod_run_85] at h
  refine pt_Mod_23 hx hb hts hown hK hP hN hS 0 rfl (hts _ fl_Mod_232) d_Mod_run_85 (fun H locs hP hS => ?_)
  have hP : bw_P (dC, dI) vwCl [wMod ct a0 (s64 o0 23 0 y1)] H := hP
  refine lv_aload_n hx hb d_Mod_run_88 rfl (lv_at hl 0 rfl) ?_
  refine va_get (D := (dC, dI)) (ci := 6) (v := .ref (a0 13)) (C := R_Mod) (T := T_Mod) (N := 36) hx hb hts in_Mod hown hK (hP 0 _ rfl) 0 rfl rfl 19 (by decide) (hts _ fl_Mod_48) (fun _ h9 => h9) rfl d_Mod_run_89 ?_
  refine lv_aload_n hx hb d_Mod_run_92 rfl (lv_at hl 0 rfl) ?_
  refine va_get (D := (dC, dI)) (ci := 6) (v := .ref (a0 7)) (C := R_Mod) (T := T_Mod) (N := 36) hx hb hts in_Mod hown hK (hP 0 _ rfl) 0 rfl rfl 10 (by decide) (hts _ fl_Mod_28) (fun _ h9 => h9) rfl d_Mod_run_93 ?_
  refine lv_iload_n hx hb d_Mod_run_96 rfl (lv_at hl 2 rfl) ?_
  obtain ⟨hi13, h⟩ := chk_some h
  refine va_iald (f := g32 o0 10) hx hb hK (hP 0 _ rfl) 7 0 rfl rfl (inb_in hi13) d_Mod_run_97 ?_
  obtain ⟨hi14, h⟩ := chk_some h
  refine va_iald (f := g32 o0 19) hx hb hK (hP 0 _ rfl) 13 0 rfl rfl (inb_in hi14) d_Mod_run_98 ?_
  refine lv_iconst (v := 1) hx hb d_Mod_run_99 (by decide) ?_
  refine lv_icmp_ne (tgt := 107) hx hb d_Mod_run_100 (by decide) (fun c15 => ?_) (fun c15 => ?_)
  · have h := ite_f c15 h
    refine lv_iload_n hx hb d_Mod_run_107 rfl (lv_at hl 2 rfl) ?_
    refine lv_iconst (v := 1) hx hb d_Mod_run_108 (by decide) ?_
    refine lv_iadd hx hb d_Mod_run_109 ?_
    refine lv_istore_n (lv' := [(1, .int (x2 + (1 : Int32))), (0, .ref (a0 0)), (2, .int x2)]) hx hb d_Mod_run_110 rfl hl (by decide) rfl (fun ls hl => ?_)
    refine lv_iinc (v := (x2 + (-1 : Int32))) (lv' := [(2, .int (x2 + (-1 : Int32))), (1, .int (x2 + (1 : Int32))), (0, .ref (a0 0))]) hx hb d_Mod_run_111 hl (k := 2) rfl rfl (by decide) rfl (fun ls hl => ?_)
    refine lv_goto (tgt := 45) hx hb d_Mod_run_114 (by decide) ?_
    exact hk45 (x2 + (1 : Int32)) (x2 + (-1 : Int32)) (s64 o0 23 0 y1) _ _ _ hP hS (lv_sub hl [2, 1, 0] rfl) h
  · have h := ite_t c15 h
    refine lv_iload_n hx hb d_Mod_run_103 rfl (lv_at hl 1 rfl) ?_
    refine lv_goto (tgt := 110) hx hb d_Mod_run_104 (by decide) ?_
    refine lv_istore_n (lv' := [(1, .int x1), (0, .ref (a0 0)), (2, .int x2)]) hx hb d_Mod_run_110 rfl hl (by decide) rfl (fun ls hl => ?_)
    refine lv_iinc (v := (x2 + (-1 : Int32))) (lv' := [(2, .int (x2 + (-1 : Int32))), (1, .int x1), (0, .ref (a0 0))]) hx hb d_Mod_run_111 hl (k := 2) rfl rfl (by decide) rfl (fun ls hl => ?_)
    refine lv_goto (tgt := 45) hx hb d_Mod_run_114 (by decide) ?_
    exact hk45 x1 (x2 + (-1 : Int32)) (s64 o0 23 0 y1) _ _ _ hP hS (lv_sub hl [2, 1, 0] rfl) h
set_option maxHeartbeats 4000000 in
set_option maxRecDepth 100000 in
theorem k_Mod_run_45 {p : Program} {l : Launch} {e : Env} {s : State} {m : MethodId} {args : Array Value} {below : List Frame} {meth : Method} {c : Code} {A : Nat → Prop} {ct dC : Nat → ClassId} {dI : Nat → Nat → Nat} {a0 : Nat → Nat}  {r : Int32} {n0 : Ob}   (C0 : cx wsAll vwCl nx p s m args meth c (dC, dI) (tyA ct) b_Mod_run 3 (some .int) R_Mod A [adMod a0])  : ∀ (n : Nat) (x1 : Int32) (x2 : Int32) (o0 : Ob) (H : Heap) (locs : List Loc) (ls : Array Slot), bw_P (dC, dI) vwCl [wMod ct a0 o0] H → va_S A s.heap H locs → lv_has ls 3 [(0, .ref (a0 0)), (1, .int x1), (2, .int x2)] → F_Mod_run_45 n x1 x2 o0 = some (r, n0) → W p l e (headSpec ws_Mod_run rm_Mod_run).room s m args below meth c H locs 0 0 (MQ below (bw_Q (dC, dI) vwCl (some (.int r)) [wMod ct a0 n0] A) args s 0 0 A) (F0 m 45 ls []) := by
  obtain ⟨hx, hb, hr, hml, hown, hlocks, hts, hK, hN, hA, hnx⟩ := id C0
  intro n
  induction n with
  | zero =>
    intro x1 x2 o0 H locs ls hP hS hl h
    cases h
  | succ n ih =>
    intro x1 x2 o0 H locs ls hP hS hl h
    rw [F_Mod_run_45] at h
    refine lv_iload_n hx hb d_Mod_run_45 rfl (lv_at hl 2 rfl) ?_
    refine lv_if_lt (tgt := 117) hx hb d_Mod_run_46 (by decide) (fun c6 => ?_) (fun c6 => ?_)
    · have h := ite_t c6 h
      refine lv_iload_n hx hb d_Mod_run_117 rfl (lv_at hl 1 rfl) ?_
      obtain ⟨rfl, rfl⟩ := res2 h
      exact W.iret hx hb hr (fun t ht hW => ⟨rfl, by rw [ht]; exact hP, hS.F ht⟩) hS.2.2 d_Mod_run_118
    · have h := ite_f c6 h
      refine lv_aload_n hx hb d_Mod_run_49 rfl (lv_at hl 0 rfl) ?_
      refine va_get (D := (dC, dI)) (ci := 6) (v := .ref (a0 7)) (C := R_Mod) (T := T_Mod) (N := 36) hx hb hts in_Mod hown hK (hP 0 _ rfl) 0 rfl rfl 10 (by decide) (hts _ fl_Mod_28) (fun _ h9 => h9) rfl d_Mod_run_50 ?_
      refine lv_iload_n hx hb d_Mod_run_53 rfl (lv_at hl 2 rfl) ?_
      obtain ⟨hi7, h⟩ := chk_some h
      refine va_iald (f := g32 o0 10) hx hb hK (hP 0 _ rfl) 7 0 rfl rfl (inb_in hi7) d_Mod_run_54 ?_
      refine lv_if_lt (tgt := 111) hx hb d_Mod_run_55 (by decide) (fun c8 => ?_) (fun c8 => ?_)
      · have h := ite_t c8 h
        refine lv_iinc (v := (x2 + (-1 : Int32))) (lv' := [(2, .int (x2 + (-1 : Int32))), (0, .ref (a0 0)), (1, .int x1)]) hx hb d_Mod_run_111 hl (k := 2) rfl rfl (by decide) rfl (fun ls hl => ?_)
        refine lv_goto (tgt := 45) hx hb d_Mod_run_114 (by decide) ?_
        exact ih x1 (x2 + (-1 : Int32)) o0 _ _ _ hP hS (lv_sub hl [1, 2, 0] rfl) h
      · have h := ite_f c8 h
        refine lv_aload_n hx hb d_Mod_run_58 rfl (lv_at hl 0 rfl) ?_
        refine lv_aload_n hx hb d_Mod_run_59 rfl (lv_at hl 0 rfl) ?_
        refine lv_aload_n hx hb d_Mod_run_60 rfl (lv_at hl 0 rfl) ?_
        refine va_get (D := (dC, dI)) (ci := 6) (v := .ref (a0 7)) (C := R_Mod) (T := T_Mod) (N := 36) hx hb hts in_Mod hown hK (hP 0 _ rfl) 0 rfl rfl 10 (by decide) (hts _ fl_Mod_28) (fun _ h9 => h9) rfl d_Mod_run_61 ?_
        refine lv_iload_n hx hb d_Mod_run_64 rfl (lv_at hl 2 rfl) ?_
        refine va_iald (f := g32 o0 10) hx hb hK (hP 0 _ rfl) 7 0 rfl rfl (inb_in hi7) d_Mod_run_65 ?_
        obtain ⟨v11, hG10, h⟩ := bind1_some h
        refine bw_callR (va_runV (As := [.int (g32 o0 10 (Int32.toNatClampNeg x2))]) (rest := [.ref (a0 0)]) ⟨hx, hb, hml, hown, hts⟩ (c_Mod_isRing l ct dC dI a0 _ (g32 o0 10 (Int32.toNatClampNeg x2)) o0 v11 hG10) (cwV 1 hts g_Mod_220 rfl rfl rfl (by decide +kernel) ⟨Nat.le_of_ble_eq_true rfl, Nat.le_of_ble_eq_true rfl⟩) ⟨bw_blind nx_call, va_recv hK (hP 0 _ rfl) (ci := 6) (q0 := 0) rfl rfl, fun U hU hW => ⟨rfl, by rw [hU], by rw [hU]; exact hP.sub [0] rfl, va_K.moved hW.alike hK, (hN.sub [0] (by decide) rfl).weaken (fun _ _ => trivial), nx_warm hW hnx⟩⟩ rfl rfl hl.1 rfl (Nat.le_of_ble_eq_true rfl) d_Mod_run_66 ⟨Nat.le_of_ble_eq_true rfl, Nat.le_of_ble_eq_true rfl⟩) ?_
        refine lv_if_eq (tgt := 79) hx hb d_Mod_run_69 (by decide) (fun c12 => ?_) (fun c12 => ?_)
        · have h := ite_t c12 h
          refine lv_aload_n hx hb d_Mod_run_79 rfl (lv_at hl 0 rfl) ?_
          refine va_get (D := (dC, dI)) (ci := 6) (v := .long (g64 o0 23 0)) (C := R_Mod) (T := T_Mod) (N := 36) hx hb hts in_Mod hown hK (hP 0 _ rfl) 0 rfl rfl 23 (by decide) (hts _ fl_Mod_232) (fun _ h9 => h9) rfl d_Mod_run_80 ?_
          refine lv_lconst (v := 1) hx hb d_Mod_run_83 (by decide) ?_
          refine lv_ladd hx hb d_Mod_run_84 ?_
          exact k_Mod_run_85 C0 ih x1 x2 ((g64 o0 23 0) + (1 : Int64)) o0 _ _ _ hP hS (lv_sub hl [0, 1, 2] rfl) h
        · have h := ite_f c12 h
          refine lv_aload_n hx hb d_Mod_run_72 rfl (lv_at hl 0 rfl) ?_
          refine va_get (D := (dC, dI)) (ci := 6) (v := .long (g64 o0 23 0)) (C := R_Mod) (T := T_Mod) (N := 36) hx hb hts in_Mod hown hK (hP 0 _ rfl) 0 rfl rfl 23 (by decide) (hts _ fl_Mod_232) (fun _ h9 => h9) rfl d_Mod_run_73 ?_
          refine lv_goto (tgt := 85) hx hb d_Mod_run_76 (by decide) ?_
          exact k_Mod_run_85 C0 ih x1 x2 (g64 o0 23 0) o0 _ _ _ hP hS (lv_sub hl [0, 1, 2] rfl) h
set_option maxHeartbeats 4000000 in
set_option maxRecDepth 100000 in
theorem k_Mod_run_13 {p : Program} {l : Launch} {e : Env} {s : State} {m : MethodId} {args : Array Value} {below : List Frame} {meth : Method} {c : Code} {A : Nat → Prop} {ct dC : Nat → ClassId} {dI : Nat → Nat → Nat} {a0 : Nat → Nat}  {r : Int32} {n0 : Ob}   (C0 : cx wsAll vwCl nx p s m args meth c (dC, dI) (tyA ct) b_Mod_run 3 (some .int) R_Mod A [adMod a0])  : ∀ (y1 : Int32) (o0 : Ob) (H : Heap) (locs : List Loc) (ls : Array Slot), bw_P (dC, dI) vwCl [wMod ct a0 o0] H → va_S A s.heap H locs → lv_has ls 3 [(0, .ref (a0 0))] → F_Mod_run_13 y1 o0 = some (r, n0) → W p l e (headSpec ws_Mod_run rm_Mod_run).room s m args below meth c H locs 0 0 (MQ below (bw_Q (dC, dI) vwCl (some (.int r)) [wMod ct a0 n0] A) args s 0 0 A) (F0 m 13 ls [.int y1, .ref (a0 0)]) := by
  obtain ⟨hx, hb, hr, hml, hown, hlocks, hts, hK, hN, hA, hnx⟩ := id C0
  intro y1 o0 H locs ls hP hS hl h
  rw [F_Mod_run_13] at h
  refine pt_Mod_0 hx hb hts hown hK hP hN hS 0 rfl (hts _ fl_Mod_84) d_Mod_run_13 (fun H locs hP hS => ?_)
  have hP : bw_P (dC, dI) vwCl [wMod ct a0 (s32 o0 0 0 y1)] H := hP
  refine lv_aload_n hx hb d_Mod_run_16 rfl (lv_at hl 0 rfl) ?_
  refine va_get (D := (dC, dI)) (ci := 6) (v := .int y1) (C := R_Mod) (T := T_Mod) (N := 36) hx hb hts in_Mod hown hK (hP 0 _ rfl) 0 rfl rfl 0 (by decide) (hts _ fl_Mod_84) (fun _ h9 => h9) rfl d_Mod_run_17 ?_
  refine lv_if_le (tgt := 25) hx hb d_Mod_run_20 (by decide) (fun c2 => ?_) (fun c2 => ?_)
  · have h := ite_t c2 h
    refine lv_aload_n hx hb d_Mod_run_25 rfl (lv_at hl 0 rfl) ?_
    obtain ⟨o_4, hG3, h⟩ := bind1_some h
    refine bw_call (Lc := [wMod ct a0 (s32 o0 0 0 y1)]) (Lc' := [wMod ct a0 o_4]) (L' := [wMod ct a0 o_4]) [0] (va_runV (As := []) (rest := []) ⟨hx, hb, hml, hown, hts⟩ (c_Mod_work l ct dC dI a0 _ (s32 o0 0 0 y1) o_4 hG3) (cwV 0 hts g_Mod_229 rfl rfl rfl (by decide +kernel) ⟨Nat.le_of_ble_eq_true rfl, Nat.le_of_ble_eq_true rfl⟩) ⟨bw_blind nx_call, va_recv hK (hP 0 _ rfl) (ci := 6) (q0 := 0) rfl rfl, fun U hU hW => ⟨rfl, by rw [hU], by rw [hU]; exact hP.sub [0] rfl, va_K.moved hW.alike hK, (hN.sub [0] (by decide) rfl).weaken (fun _ _ => trivial), nx_warm hW hnx⟩⟩ rfl rfl hl.1 rfl (Nat.le_of_ble_eq_true rfl) d_Mod_run_26 ⟨Nat.le_of_ble_eq_true rfl, Nat.le_of_ble_eq_true rfl⟩) hP hN hS hA rfl rfl rfl (fun H locs hP hS => ?_)
    refine lv_aload_n hx hb d_Mod_run_29 rfl (lv_at hl 0 rfl) ?_
    refine lv_iconst (v := 1) hx hb d_Mod_run_30 (by decide) ?_
    refine pt_Mod_12 hx hb hts hown hK hP hN hS 0 rfl (hts _ fl_Mod_170) rfl rfl d_Mod_run_31 (fun H locs hP hS => ?_)
    have hP : bw_P (dC, dI) vwCl [wMod ct a0 (s32 o_4 12 0 (1 : Int32))] H := hP
    refine lv_iconst (v := 0) hx hb d_Mod_run_34 (by decide) ?_
    refine lv_istore_n (lv' := [(1, .int (0 : Int32)), (0, .ref (a0 0))]) hx hb d_Mod_run_35 rfl hl (by decide) rfl (fun ls hl => ?_)
    refine lv_aload_n hx hb d_Mod_run_36 rfl (lv_at hl 1 rfl) ?_
    refine va_get (D := (dC, dI)) (ci := 6) (v := .ref (a0 5)) (C := R_Mod) (T := T_Mod) (N := 36) hx hb hts in_Mod hown hK (hP 0 _ rfl) 0 rfl rfl 8 (by decide) (hts _ fl_Mod_22) (fun _ h9 => h9) rfl d_Mod_run_37 ?_
    refine lv_iconst (v := 0) hx hb d_Mod_run_40 (by decide) ?_
    obtain ⟨hi5, h⟩ := chk_some h
    refine va_iald (f := g32 o_4 8) hx hb hK (hP 0 _ rfl) 5 0 rfl rfl (inb_in hi5) d_Mod_run_41 ?_
    refine lv_iconst (v := 1) hx hb d_Mod_run_42 (by decide) ?_
    refine lv_isub hx hb d_Mod_run_43 ?_
    refine lv_istore_n (lv' := [(2, .int ((g32 o_4 8 (Int32.toNatClampNeg (0 : Int32))) - (1 : Int32))), (1, .int (0 : Int32)), (0, .ref (a0 0))]) hx hb d_Mod_run_44 rfl hl (by decide) rfl (fun ls hl => ?_)
    exact k_Mod_run_45 C0 fuel (0 : Int32) ((g32 o_4 8 (Int32.toNatClampNeg (0 : Int32))) - (1 : Int32)) (s32 o_4 12 0 (1 : Int32)) _ _ _ hP hS (lv_sub hl [2, 1, 0] rfl) h
  · have h := ite_f c2 h
    refine lv_iconst (v := 0) hx hb d_Mod_run_23 (by decide) ?_
    obtain ⟨rfl, rfl⟩ := res2 h
    exact W.iret hx hb hr (fun t ht hW => ⟨rfl, by rw [ht]; exact hP, hS.F ht⟩) hS.2.2 d_Mod_run_24
set_option maxHeartbeats 4000000 in
set_option maxRecDepth 100000 in
theorem c_Mod_run (l : Launch) (ct dC : Nat → ClassId) (dI : Nat → Nat → Nat) (a0 : Nat → Nat)  (sz : Nat)  (o0 : Ob) (r : Int32) (n0 : Ob) (hF : F_Mod_run o0 = some (r, n0)) : Met l y_Mod_run ws_Mod_run rm_Mod_run (bw_Pc [.ref (a0 0)] (dC, dI) vwCl (tyA ct) [wMod ct a0 o0] sz nx) (bw_Q (dC, dI) vwCl (some (.int r)) [wMod ct a0 n0] (bw_A [adMod a0] sz)) 0 0 (bw_A [adMod a0] sz) := by
  refine Met.ofW (cc := b_Mod_run) (maxL := 3) (ret := (some .int)) (by decide) rfl ?_
  intro p e s m args below meth c s₁ B hml hv
  obtain ⟨rfl, hsz, hP, hK, hN0, hnx⟩ := hv
  have hx := B.exec
  have hb := B.bytes
  have hr := B.returns
  have hts : ∀ w ∈ wsAll, w.before [.ref (a0 0)].toArray s = true := fun w h9 => atoms_spec (ws := ws_Mod_run) B.pre w (List.mem_cons_of_mem _ h9)
  have hown : s.vm.findClass R_Mod = some m.cls := findClass_of_methodNamed B.named
  have hlocks := B.notSynchronized
  subst hsz
  have hN : bw_N (bw_A [adMod a0] s.heap.size) [adMod a0] := hN0.self s.heap.size
  generalize hAe : bw_A [adMod a0] s.heap.size = A at hN ⊢
  have hA : ∀ q : Nat, s.heap.size ≤ q → A q := fun q h => by rw [← hAe]; exact Or.inr h
  have hS : va_S A s.heap s.heap [] := va_S.rf
  have hl := lv_entry ([.ref (a0 0)]) (n := 3) (Nat.le_of_ble_eq_true rfl)
  rw [lg_entry_eq]
  generalize (lg_sl ([.ref (a0 0)]) ++ List.replicate (3 - (lg_sl ([.ref (a0 0)])).length) Slot.unset).toArray = ls at hl ⊢
  have hl : lv_has ls 3 [(0, .ref (a0 0))] := hl
  have C0 : cx wsAll vwCl nx p s m [.ref (a0 0)].toArray meth c (dC, dI) (tyA ct) b_Mod_run 3 (some .int) R_Mod A [adMod a0] := ⟨hx, hb, hr, hml, hown, hlocks, hts, hK, hN, hA, hnx⟩
  have h := hF
  rw [F_Mod_run] at h
  refine lv_aload_n hx hb d_Mod_run_0 rfl (lv_at hl 0 rfl) ?_
  refine lv_aload_n hx hb d_Mod_run_1 rfl (lv_at hl 0 rfl) ?_
  refine va_get (D := (dC, dI)) (ci := 6) (v := .int (g32 o0 11 0)) (C := R_Mod) (T := T_Mod) (N := 36) hx hb hts in_Mod hown hK (hP 0 _ rfl) 0 rfl rfl 11 (by decide) (hts _ fl_Mod_166) (fun _ h9 => h9) rfl d_Mod_run_2 ?_
  refine lv_if_eq (tgt := 12) hx hb d_Mod_run_5 (by decide) (fun c1 => ?_) (fun c1 => ?_)
  · have h := ite_t c1 h
    refine lv_iconst (v := 1) hx hb d_Mod_run_12 (by decide) ?_
    exact k_Mod_run_13 C0 (1 : Int32) o0 _ _ _ hP hS (lv_sub hl [0] rfl) h
  · have h := ite_f c1 h
    refine lv_iconst (v := 0) hx hb d_Mod_run_8 (by decide) ?_
    refine lv_goto (tgt := 13) hx hb d_Mod_run_9 (by decide) ?_
    exact k_Mod_run_13 C0 (0 : Int32) o0 _ _ _ hP hS (lv_sub hl [0] rfl) h
theorem g_Mod_236 : GoodIn wsAll (wsV R_Mod 236 R_Mod y_Mod_hangs ws_Mod_hangs) := gd_V ml_Mod_236 im_Mod_hangs se_Mod_hangs ini_Mod cd_Mod_hangs
def F_Mod_set_137  : Nat → Int32 → Int32 → Ob → Option (Bool × Ob)
  | 0, _, _, _ => none
  | n + 1, x1, x12, o0 =>
    if (60 : Int32) ≤ x12 then (bind1 (F_Mod_work o0) (fun o_21 => some (true, o_21))) else (chk (inb x12 60) (if (g32 o0 17 (Int32.toNatClampNeg x12)) < 0 then (F_Mod_set_137 n x1 (x12 + (1 : Int32)) (s64 o0 23 0 (g64 o0 23 0))) else (bind1 (F_Mod_isRing x12 o0) (fun v25 => if (b2i v25) = 0 then (bind1 (F_Mod_hangs x12 x1 o0) (fun v28 => if (b2i v28) = 0 then (F_Mod_set_137 n x1 (x12 + (1 : Int32)) (s64 o0 23 0 (g64 o0 23 0))) else (F_Mod_set_137 n x1 (x12 + (1 : Int32)) (s64 o0 23 0 ((g64 o0 23 0) + (1 : Int64)))))) else (F_Mod_set_137 n x1 (x12 + (1 : Int32)) (s64 o0 23 0 (g64 o0 23 0)))))))
def F_Mod_set_111  (x1 : Int32) (x8 : Int64) (x10 : Int64) (o0 : Ob) : Option (Bool × Ob) :=
  chk (inb x1 8) (if (g32 o0 12 0) = 0 then (some (true, (s64 (s64 o0 15 (Int32.toNatClampNeg x1) x8) 16 (Int32.toNatClampNeg x1) x10))) else (F_Mod_set_137 fuel x1 (0 : Int32) (s64 (s64 o0 15 (Int32.toNatClampNeg x1) x8) 16 (Int32.toNatClampNeg x1) x10)))
def F_Mod_set_52  (x1 : Int32) (x2 : Int64) (x4 : Int64) (y1 : Int32) (o0 : Ob) : Option (Bool × Ob) :=
  if y1 ≤ 0 then (bind1 (F_Mod_common x2 x4) (fun v9 => chk (decide (¬ v9 = 0)) (chk (inb x1 8) (if (lg_cmp (x2 / v9) (g64 o0 15 (Int32.toNatClampNeg x1))) = 0 then (if (lg_cmp (x4 / v9) (g64 o0 16 (Int32.toNatClampNeg x1))) = 0 then (some (false, (s32 o0 0 0 y1))) else (F_Mod_set_111 x1 (x2 / v9) (x4 / v9) (s32 o0 0 0 y1))) else (F_Mod_set_111 x1 (x2 / v9) (x4 / v9) (s32 o0 0 0 y1)))))) else (some (false, (s32 o0 0 0 y1)))
def F_Mod_set (x1 : Int32) (x2 : Int64) (x4 : Int64) (o0 : Ob) : Option (Bool × Ob) :=
  if x1 < 0 then (F_Mod_set_52 x1 x2 x4 (1 : Int32) o0) else (if x1 ≤ (7 : Int32) then (if (lg_cmp x4 (1 : Int64)) < 0 then (F_Mod_set_52 x1 x2 x4 (2 : Int32) o0) else (if 0 < (lg_cmp x4 (1000000000 : Int64)) then (F_Mod_set_52 x1 x2 x4 (2 : Int32) o0) else (if 0 < (lg_cmp x2 (1000000000 : Int64)) then (F_Mod_set_52 x1 x2 x4 (2 : Int32) o0) else (if 0 ≤ (lg_cmp x2 (-1000000000 : Int64)) then (F_Mod_set_52 x1 x2 x4 (0 : Int32) o0) else (F_Mod_set_52 x1 x2 x4 (2 : Int32) o0))))) else (F_Mod_set_52 x1 x2 x4 (1 : Int32) o0))
abbrev ws_Mod_set : List Cond := Cond.code y_Mod_set b_Mod_set 13 (some .boolean) :: wsAll
abbrev rm_Mod_set : Room := { frames := 6, cells := 0, slots := 0, locals := 162 }
set_option maxHeartbeats 4000000 in
set_option maxRecDepth 100000 in
theorem k_Mod_set_137 {p : Program} {l : Launch} {e : Env} {s : State} {m : MethodId} {args : Array Value} {below : List Frame} {meth : Method} {c : Code} {A : Nat → Prop} {ct dC : Nat → ClassId} {dI : Nat → Nat → Nat} {a0 : Nat → Nat}  {r : Bool} {n0 : Ob}   (C0 : cx wsAll vwCl nx p s m args meth c (dC, dI) (tyA ct) b_Mod_set 13 (some .boolean) R_Mod A [adMod a0])  : ∀ (n : Nat) (x1 : Int32) (x12 : Int32) (o0 : Ob) (H : Heap) (locs : List Loc) (ls : Array Slot), bw_P (dC, dI) vwCl [wMod ct a0 o0] H → va_S A s.heap H locs → lv_has ls 13 [(0, .ref (a0 0)), (1, .int x1), (12, .int x12)] → F_Mod_set_137 n x1 x12 o0 = some (r, n0) → W p l e (headSpec ws_Mod_set rm_Mod_set).room s m args below meth c H locs 0 0 (MQ below (bw_Q (dC, dI) vwCl (some (.int (b2i r))) [wMod ct a0 n0] A) args s 0 0 A) (F0 m 137 ls []) := by
  obtain ⟨hx, hb, hr, hml, hown, hlocks, hts, hK, hN, hA, hnx⟩ := id C0
  intro n
  induction n with
  | zero =>
    intro x1 x12 o0 H locs ls hP hS hl h
    cases h
  | succ n ih =>
    intro x1 x12 o0 H locs ls hP hS hl h
    rw [F_Mod_set_137] at h
    refine lv_iload hx hb d_Mod_set_137 (lv_at hl 2 rfl) ?_
    refine lv_bipush (v := 60) hx hb d_Mod_set_139 (by decide) ?_
    refine lv_icmp_ge (tgt := 196) hx hb d_Mod_set_141 (by decide) (fun c19 => ?_) (fun c19 => ?_)
    · have h := ite_t c19 h
      refine lv_aload_n hx hb d_Mod_set_196 rfl (lv_at hl 0 rfl) ?_
      obtain ⟨o_21, hG20, h⟩ := bind1_some h
      refine bw_call (Lc := [wMod ct a0 o0]) (Lc' := [wMod ct a0 o_21]) (L' := [wMod ct a0 o_21]) [0] (va_runV (As := []) (rest := []) ⟨hx, hb, hml, hown, hts⟩ (c_Mod_work l ct dC dI a0 _ o0 o_21 hG20) (cwV 0 hts g_Mod_229 rfl rfl rfl (by decide +kernel) ⟨Nat.le_of_ble_eq_true rfl, Nat.le_of_ble_eq_true rfl⟩) ⟨bw_blind nx_call, va_recv hK (hP 0 _ rfl) (ci := 6) (q0 := 0) rfl rfl, fun U hU hW => ⟨rfl, by rw [hU], by rw [hU]; exact hP.sub [0] rfl, va_K.moved hW.alike hK, (hN.sub [0] (by decide) rfl).weaken (fun _ _ => trivial), nx_warm hW hnx⟩⟩ rfl rfl hl.1 rfl (Nat.le_of_ble_eq_true rfl) d_Mod_set_197 ⟨Nat.le_of_ble_eq_true rfl, Nat.le_of_ble_eq_true rfl⟩) hP hN hS hA rfl rfl rfl (fun H locs hP hS => ?_)
      refine lv_iconst (v := 1) hx hb d_Mod_set_200 (by decide) ?_
      obtain ⟨rfl, rfl⟩ := res2 h
      exact W.zret hx hb hr rfl (fun t ht hW => ⟨rfl, by rw [ht]; exact hP, hS.F ht⟩) hS.2.2 d_Mod_set_201
    · have h := ite_f c19 h
      refine lv_aload_n hx hb d_Mod_set_144 rfl (lv_at hl 0 rfl) ?_
      refine lv_aload_n hx hb d_Mod_set_145 rfl (lv_at hl 0 rfl) ?_
      refine va_get (D := (dC, dI)) (ci := 6) (v := .ref (a0 11)) (C := R_Mod) (T := T_Mod) (N := 36) hx hb hts in_Mod hown hK (hP 0 _ rfl) 0 rfl rfl 17 (by decide) (hts _ fl_Mod_41) (fun _ h9 => h9) rfl d_Mod_set_146 ?_
      refine lv_iload hx hb d_Mod_set_149 (lv_at hl 2 rfl) ?_
      obtain ⟨hi22, h⟩ := chk_some h
      refine va_iald (f := g32 o0 17) hx hb hK (hP 0 _ rfl) 11 0 rfl rfl (inb_in hi22) d_Mod_set_151 ?_
      refine lv_if_lt (tgt := 183) hx hb d_Mod_set_152 (by decide) (fun c23 => ?_) (fun c23 => ?_)
      · have h := ite_t c23 h
        refine lv_aload_n hx hb d_Mod_set_183 rfl (lv_at hl 0 rfl) ?_
        refine va_get (D := (dC, dI)) (ci := 6) (v := .long (g64 o0 23 0)) (C := R_Mod) (T := T_Mod) (N := 36) hx hb hts in_Mod hown hK (hP 0 _ rfl) 0 rfl rfl 23 (by decide) (hts _ fl_Mod_232) (fun _ h9 => h9) rfl d_Mod_set_184 ?_
        refine pt_Mod_23 hx hb hts hown hK hP hN hS 0 rfl (hts _ fl_Mod_232) d_Mod_set_187 (fun H locs hP hS => ?_)
        have hP : bw_P (dC, dI) vwCl [wMod ct a0 (s64 o0 23 0 (g64 o0 23 0))] H := hP
        refine lv_iinc (v := (x12 + (1 : Int32))) (lv' := [(12, .int (x12 + (1 : Int32))), (0, .ref (a0 0)), (1, .int x1)]) hx hb d_Mod_set_190 hl (k := 2) rfl rfl (by decide) rfl (fun ls hl => ?_)
        refine lv_goto (tgt := 137) hx hb d_Mod_set_193 (by decide) ?_
        exact ih x1 (x12 + (1 : Int32)) (s64 o0 23 0 (g64 o0 23 0)) _ _ _ hP hS (lv_sub hl [1, 2, 0] rfl) h
      · have h := ite_f c23 h
        refine lv_aload_n hx hb d_Mod_set_155 rfl (lv_at hl 0 rfl) ?_
        refine lv_iload hx hb d_Mod_set_156 (lv_at hl 2 rfl) ?_
        obtain ⟨v25, hG24, h⟩ := bind1_some h
        refine bw_callR (va_runV (As := [.int x12]) (rest := [.ref (a0 0)]) ⟨hx, hb, hml, hown, hts⟩ (c_Mod_isRing l ct dC dI a0 _ x12 o0 v25 hG24) (cwV 1 hts g_Mod_220 rfl rfl rfl (by decide +kernel) ⟨Nat.le_of_ble_eq_true rfl, Nat.le_of_ble_eq_true rfl⟩) ⟨bw_blind nx_call, va_recv hK (hP 0 _ rfl) (ci := 6) (q0 := 0) rfl rfl, fun U hU hW => ⟨rfl, by rw [hU], by rw [hU]; exact hP.sub [0] rfl, va_K.moved hW.alike hK, (hN.sub [0] (by decide) rfl).weaken (fun _ _ => trivial), nx_warm hW hnx⟩⟩ rfl rfl hl.1 rfl (Nat.le_of_ble_eq_true rfl) d_Mod_set_158 ⟨Nat.le_of_ble_eq_true rfl, Nat.le_of_ble_eq_true rfl⟩) ?_
        refine lv_if_ne (tgt := 183) hx hb d_Mod_set_161 (by decide) (fun c26 => ?_) (fun c26 => ?_)
        · have h := ite_f c26 h
          refine lv_aload_n hx hb d_Mod_set_183 rfl (lv_at hl 0 rfl) ?_
          refine va_get (D := (dC, dI)) (ci := 6) (v := .long (g64 o0 23 0)) (C := R_Mod) (T := T_Mod) (N := 36) hx hb hts in_Mod hown hK (hP 0 _ rfl) 0 rfl rfl 23 (by decide) (hts _ fl_Mod_232) (fun _ h9 => h9) rfl d_Mod_set_184 ?_
          refine pt_Mod_23 hx hb hts hown hK hP hN hS 0 rfl (hts _ fl_Mod_232) d_Mod_set_187 (fun H locs hP hS => ?_)
          have hP : bw_P (dC, dI) vwCl [wMod ct a0 (s64 o0 23 0 (g64 o0 23 0))] H := hP
          refine lv_iinc (v := (x12 + (1 : Int32))) (lv' := [(12, .int (x12 + (1 : Int32))), (0, .ref (a0 0)), (1, .int x1)]) hx hb d_Mod_set_190 hl (k := 2) rfl rfl (by decide) rfl (fun ls hl => ?_)
          refine lv_goto (tgt := 137) hx hb d_Mod_set_193 (by decide) ?_
          exact ih x1 (x12 + (1 : Int32)) (s64 o0 23 0 (g64 o0 23 0)) _ _ _ hP hS (lv_sub hl [1, 2, 0] rfl) h
        · have h := ite_t c26 h
          refine lv_aload_n hx hb d_Mod_set_164 rfl (lv_at hl 0 rfl) ?_
          refine lv_iload hx hb d_Mod_set_165 (lv_at hl 2 rfl) ?_
          refine lv_iload_n hx hb d_Mod_set_167 rfl (lv_at hl 1 rfl) ?_
          obtain ⟨v28, hG27, h⟩ := bind1_some h
          refine bw_callR (va_runV (As := [.int x12, .int x1]) (rest := [.ref (a0 0)]) ⟨hx, hb, hml, hown, hts⟩ (c_Mod_hangs l ct dC dI a0 _ x12 x1 o0 v28 hG27) (cwV 2 hts g_Mod_236 rfl rfl rfl (by decide +kernel) ⟨Nat.le_of_ble_eq_true rfl, Nat.le_of_ble_eq_true rfl⟩) ⟨bw_blind nx_call, va_recv hK (hP 0 _ rfl) (ci := 6) (q0 := 0) rfl rfl, fun U hU hW => ⟨rfl, by rw [hU], by rw [hU]; exact hP.sub [0] rfl, va_K.moved hW.alike hK, (hN.sub [0] (by decide) rfl).weaken (fun _ _ => trivial), nx_warm hW hnx⟩⟩ rfl rfl hl.1 rfl (Nat.le_of_ble_eq_true rfl) d_Mod_set_168 ⟨Nat.le_of_ble_eq_true rfl, Nat.le_of_ble_eq_true rfl⟩) ?_
          refine lv_if_eq (tgt := 183) hx hb d_Mod_set_171 (by decide) (fun c29 => ?_) (fun c29 => ?_)
          · have h := ite_t c29 h
            refine lv_aload_n hx hb d_Mod_set_183 rfl (lv_at hl 0 rfl) ?_
            refine va_get (D := (dC, dI)) (ci := 6) (v := .long (g64 o0 23 0)) (C := R_Mod) (T := T_Mod) (N := 36) hx hb hts in_Mod hown hK (hP 0 _ rfl) 0 rfl rfl 23 (by decide) (hts _ fl_Mod_232) (fun _ h9 => h9) rfl d_Mod_set_184 ?_
            refine pt_Mod_23 hx hb hts hown hK hP hN hS 0 rfl (hts _ fl_Mod_232) d_Mod_set_187 (fun H locs hP hS => ?_)
            have hP : bw_P (dC, dI) vwCl [wMod ct a0 (s64 o0 23 0 (g64 o0 23 0))] H := hP
            refine lv_iinc (v := (x12 + (1 : Int32))) (lv' := [(12, .int (x12 + (1 : Int32))), (0, .ref (a0 0)), (1, .int x1)]) hx hb d_Mod_set_190 hl (k := 2) rfl rfl (by decide) rfl (fun ls hl => ?_)
            refine lv_goto (tgt := 137) hx hb d_Mod_set_193 (by decide) ?_
            exact ih x1 (x12 + (1 : Int32)) (s64 o0 23 0 (g64 o0 23 0)) _ _ _ hP hS (lv_sub hl [1, 2, 0] rfl) h
          · have h := ite_f c29 h
            refine lv_aload_n hx hb d_Mod_set_174 rfl (lv_at hl 0 rfl) ?_
            refine va_get (D := (dC, dI)) (ci := 6) (v := .long (g64 o0 23 0)) (C := R_Mod) (T := T_Mod) (N := 36) hx hb hts in_Mod hown hK (hP 0 _ rfl) 0 rfl rfl 23 (by decide) (hts _ fl_Mod_232) (fun _ h9 => h9) rfl d_Mod_set_175 ?_
            refine lv_lconst (v := 1) hx hb d_Mod_set_178 (by decide) ?_
            refine lv_ladd hx hb d_Mod_set_179 ?_
            refine lv_goto (tgt := 187) hx hb d_Mod_set_180 (by decide) ?_
            refine pt_Mod_23 hx hb hts hown hK hP hN hS 0 rfl (hts _ fl_Mod_232) d_Mod_set_187 (fun H locs hP hS => ?_)
            have hP : bw_P (dC, dI) vwCl [wMod ct a0 (s64 o0 23 0 ((g64 o0 23 0) + (1 : Int64)))] H := hP
            refine lv_iinc (v := (x12 + (1 : Int32))) (lv' := [(12, .int (x12 + (1 : Int32))), (0, .ref (a0 0)), (1, .int x1)]) hx hb d_Mod_set_190 hl (k := 2) rfl rfl (by decide) rfl (fun ls hl => ?_)
            refine lv_goto (tgt := 137) hx hb d_Mod_set_193 (by decide) ?_
            exact ih x1 (x12 + (1 : Int32)) (s64 o0 23 0 ((g64 o0 23 0) + (1 : Int64))) _ _ _ hP hS (lv_sub hl [1, 2, 0] rfl) h
set_option maxHeartbeats 4000000 in
set_option maxRecDepth 100000 in
theorem k_Mod_set_111 {p : Program} {l : Launch} {e : Env} {s : State} {m : MethodId} {args : Array Value} {below : List Frame} {meth : Method} {c : Code} {A : Nat → Prop} {ct dC : Nat → ClassId} {dI : Nat → Nat → Nat} {a0 : Nat → Nat}  {r : Bool} {n0 : Ob}   (C0 : cx wsAll vwCl nx p s m args meth c (dC, dI) (tyA ct) b_Mod_set 13 (some .boolean) R_Mod A [adMod a0])  : ∀ (x1 : Int32) (x8 : Int64) (x10 : Int64) (o0 : Ob) (H : Heap) (locs : List Loc) (ls : Array Slot), bw_P (dC, dI) vwCl [wMod ct a0 o0] H → va_S A s.heap H locs → lv_has ls 13 [(0, .ref (a0 0)), (1, .int x1), (8, .long x8), (10, .long x10)] → F_Mod_set_111 x1 x8 x10 o0 = some (r, n0) → W p l e (headSpec ws_Mod_set rm_Mod_set).room s m args below meth c H locs 0 0 (MQ below (bw_Q (dC, dI) vwCl (some (.int (b2i r))) [wMod ct a0 n0] A) args s 0 0 A) (F0 m 111 ls []) := by
  obtain ⟨hx, hb, hr, hml, hown, hlocks, hts, hK, hN, hA, hnx⟩ := id C0
  intro x1 x8 x10 o0 H locs ls hP hS hl h
  rw [F_Mod_set_111] at h
  refine lv_aload_n hx hb d_Mod_set_111 rfl (lv_at hl 0 rfl) ?_
  refine va_get (D := (dC, dI)) (ci := 6) (v := .ref (a0 9)) (C := R_Mod) (T := T_Mod) (N := 36) hx hb hts in_Mod hown hK (hP 0 _ rfl) 0 rfl rfl 15 (by decide) (hts _ fl_Mod_34) (fun _ h9 => h9) rfl d_Mod_set_112 ?_
  refine lv_iload_n hx hb d_Mod_set_115 rfl (lv_at hl 1 rfl) ?_
  refine lv_lload hx hb d_Mod_set_116 (lv_at hl 2 rfl) ?_
  obtain ⟨hi16, h⟩ := chk_some h
  refine st_Mod_15 hx hb hK hP hN hS 0 rfl (inb_in hi16) d_Mod_set_118 (fun H locs hP hS => ?_)
  have hP : bw_P (dC, dI) vwCl [wMod ct a0 (s64 o0 15 (Int32.toNatClampNeg x1) x8)] H := hP
  refine lv_aload_n hx hb d_Mod_set_119 rfl (lv_at hl 0 rfl) ?_
  refine va_get (D := (dC, dI)) (ci := 6) (v := .ref (a0 10)) (C := R_Mod) (T := T_Mod) (N := 36) hx hb hts in_Mod hown hK (hP 0 _ rfl) 0 rfl rfl 16 (by decide) (hts _ fl_Mod_38) (fun _ h9 => h9) rfl d_Mod_set_120 ?_
  refine lv_iload_n hx hb d_Mod_set_123 rfl (lv_at hl 1 rfl) ?_
  refine lv_lload hx hb d_Mod_set_124 (lv_at hl 3 rfl) ?_
  refine st_Mod_16 hx hb hK hP hN hS 0 rfl (inb_in hi16) d_Mod_set_126 (fun H locs hP hS => ?_)
  have hP : bw_P (dC, dI) vwCl [wMod ct a0 (s64 (s64 o0 15 (Int32.toNatClampNeg x1) x8) 16 (Int32.toNatClampNeg x1) x10)] H := hP
  refine lv_aload_n hx hb d_Mod_set_127 rfl (lv_at hl 0 rfl) ?_
  refine va_get (D := (dC, dI)) (ci := 6) (v := .int (g32 o0 12 0)) (C := R_Mod) (T := T_Mod) (N := 36) hx hb hts in_Mod hown hK (hP 0 _ rfl) 0 rfl rfl 12 (by decide) (hts _ fl_Mod_170) (fun _ h9 => h9) rfl d_Mod_set_128 ?_
  refine lv_if_eq (tgt := 200) hx hb d_Mod_set_131 (by decide) (fun c18 => ?_) (fun c18 => ?_)
  · have h := ite_t c18 h
    refine lv_iconst (v := 1) hx hb d_Mod_set_200 (by decide) ?_
    obtain ⟨rfl, rfl⟩ := res2 h
    exact W.zret hx hb hr rfl (fun t ht hW => ⟨rfl, by rw [ht]; exact hP, hS.F ht⟩) hS.2.2 d_Mod_set_201
  · have h := ite_f c18 h
    refine lv_iconst (v := 0) hx hb d_Mod_set_134 (by decide) ?_
    refine lv_istore (lv' := [(12, .int (0 : Int32)), (0, .ref (a0 0)), (1, .int x1), (8, .long x8), (10, .long x10)]) hx hb d_Mod_set_135 hl (by decide) rfl (fun ls hl => ?_)
    exact k_Mod_set_137 C0 fuel x1 (0 : Int32) (s64 (s64 o0 15 (Int32.toNatClampNeg x1) x8) 16 (Int32.toNatClampNeg x1) x10) _ _ _ hP hS (lv_sub hl [1, 2, 0] rfl) h
set_option maxHeartbeats 4000000 in
set_option maxRecDepth 100000 in
theorem k_Mod_set_52 {p : Program} {l : Launch} {e : Env} {s : State} {m : MethodId} {args : Array Value} {below : List Frame} {meth : Method} {c : Code} {A : Nat → Prop} {ct dC : Nat → ClassId} {dI : Nat → Nat → Nat} {a0 : Nat → Nat}  {r : Bool} {n0 : Ob}   (C0 : cx wsAll vwCl nx p s m args meth c (dC, dI) (tyA ct) b_Mod_set 13 (some .boolean) R_Mod A [adMod a0])  : ∀ (x1 : Int32) (x2 : Int64) (x4 : Int64) (y1 : Int32) (o0 : Ob) (H : Heap) (locs : List Loc) (ls : Array Slot), bw_P (dC, dI) vwCl [wMod ct a0 o0] H → va_S A s.heap H locs → lv_has ls 13 [(0, .ref (a0 0)), (1, .int x1), (2, .long x2), (4, .long x4)] → F_Mod_set_52 x1 x2 x4 y1 o0 = some (r, n0) → W p l e (headSpec ws_Mod_set rm_Mod_set).room s m args below meth c H locs 0 0 (MQ below (bw_Q (dC, dI) vwCl (some (.int (b2i r))) [wMod ct a0 n0] A) args s 0 0 A) (F0 m 52 ls [.int y1, .ref (a0 0)]) := by
  obtain ⟨hx, hb, hr, hml, hown, hlocks, hts, hK, hN, hA, hnx⟩ := id C0
  intro x1 x2 x4 y1 o0 H locs ls hP hS hl h
  rw [F_Mod_set_52] at h
  refine pt_Mod_0 hx hb hts hown hK hP hN hS 0 rfl (hts _ fl_Mod_84) d_Mod_set_52 (fun H locs hP hS => ?_)
  have hP : bw_P (dC, dI) vwCl [wMod ct a0 (s32 o0 0 0 y1)] H := hP
  refine lv_aload_n hx hb d_Mod_set_55 rfl (lv_at hl 0 rfl) ?_
  refine va_get (D := (dC, dI)) (ci := 6) (v := .int y1) (C := R_Mod) (T := T_Mod) (N := 36) hx hb hts in_Mod hown hK (hP 0 _ rfl) 0 rfl rfl 0 (by decide) (hts _ fl_Mod_84) (fun _ h9 => h9) rfl d_Mod_set_56 ?_
  refine lv_if_le (tgt := 64) hx hb d_Mod_set_59 (by decide) (fun c7 => ?_) (fun c7 => ?_)
  · have h := ite_t c7 h
    refine lv_lload_n hx hb d_Mod_set_64 rfl (lv_at hl 2 rfl) ?_
    refine lv_lload hx hb d_Mod_set_65 (lv_at hl 3 rfl) ?_
    obtain ⟨v9, hG8, h⟩ := bind1_some h
    refine bw_callR (va_runS (As := [.long x2, .long x4]) (rest := []) ⟨hx, hb, hml, hown, hts⟩ (c_Mod_common l ct dC dI _ x2 x4 v9 hG8) (cwS 2 hts g_Mod_187 rfl rfl rfl (by decide +kernel) ⟨Nat.le_of_ble_eq_true rfl, Nat.le_of_ble_eq_true rfl⟩) ⟨bw_blind nx_call, fun U hU hW => ⟨rfl, by rw [hU], by rw [hU]; exact hP.sub [] rfl, va_K.moved hW.alike hK, (hN.sub [] (by decide) rfl).weaken (fun _ _ => trivial), nx_warm hW hnx⟩⟩ rfl rfl hl.1 rfl (Nat.le_of_ble_eq_true rfl) d_Mod_set_67 ⟨Nat.le_of_ble_eq_true rfl, Nat.le_of_ble_eq_true rfl⟩) ?_
    refine lv_lstore (lv' := [(6, .long v9), (0, .ref (a0 0)), (1, .int x1), (2, .long x2), (4, .long x4)]) hx hb d_Mod_set_70 hl (by decide) rfl (fun ls hl => ?_)
    refine lv_lload_n hx hb d_Mod_set_72 rfl (lv_at hl 3 rfl) ?_
    refine lv_lload hx hb d_Mod_set_73 (lv_at hl 0 rfl) ?_
    obtain ⟨hz10, h⟩ := chk_some h
    refine lv_ldiv hx hb d_Mod_set_75 (of_decide_eq_true hz10) ?_
    refine lv_lstore (lv' := [(8, .long (x2 / v9)), (6, .long v9), (0, .ref (a0 0)), (1, .int x1), (2, .long x2), (4, .long x4)]) hx hb d_Mod_set_76 hl (by decide) rfl (fun ls hl => ?_)
    refine lv_lload hx hb d_Mod_set_78 (lv_at hl 5 rfl) ?_
    refine lv_lload hx hb d_Mod_set_80 (lv_at hl 1 rfl) ?_
    refine lv_ldiv hx hb d_Mod_set_82 (of_decide_eq_true hz10) ?_
    refine lv_lstore (lv' := [(10, .long (x4 / v9)), (8, .long (x2 / v9)), (6, .long v9), (0, .ref (a0 0)), (1, .int x1), (2, .long x2), (4, .long x4)]) hx hb d_Mod_set_83 hl (by decide) rfl (fun ls hl => ?_)
    refine lv_lload hx hb d_Mod_set_85 (lv_at hl 1 rfl) ?_
    refine lv_aload_n hx hb d_Mod_set_87 rfl (lv_at hl 3 rfl) ?_
    refine va_get (D := (dC, dI)) (ci := 6) (v := .ref (a0 9)) (C := R_Mod) (T := T_Mod) (N := 36) hx hb hts in_Mod hown hK (hP 0 _ rfl) 0 rfl rfl 15 (by decide) (hts _ fl_Mod_34) (fun _ h9 => h9) rfl d_Mod_set_88 ?_
    refine lv_iload_n hx hb d_Mod_set_91 rfl (lv_at hl 4 rfl) ?_
    obtain ⟨hi12, h⟩ := chk_some h
    refine va_lald (f := g64 o0 15) hx hb hK (hP 0 _ rfl) 9 1 rfl rfl (inb_in hi12) d_Mod_set_92 ?_
    refine W.lcmp hx hb d_Mod_set_93 ?_
    refine lv_if_ne (tgt := 111) hx hb d_Mod_set_94 (by decide) (fun c13 => ?_) (fun c13 => ?_)
    · have h := ite_f c13 h
      exact k_Mod_set_111 C0 x1 (x2 / v9) (x4 / v9) (s32 o0 0 0 y1) _ _ _ hP hS (lv_sub hl [3, 4, 1, 0] rfl) h
    · have h := ite_t c13 h
      refine lv_lload hx hb d_Mod_set_97 (lv_at hl 0 rfl) ?_
      refine lv_aload_n hx hb d_Mod_set_99 rfl (lv_at hl 3 rfl) ?_
      refine va_get (D := (dC, dI)) (ci := 6) (v := .ref (a0 10)) (C := R_Mod) (T := T_Mod) (N := 36) hx hb hts in_Mod hown hK (hP 0 _ rfl) 0 rfl rfl 16 (by decide) (hts _ fl_Mod_38) (fun _ h9 => h9) rfl d_Mod_set_100 ?_
      refine lv_iload_n hx hb d_Mod_set_103 rfl (lv_at hl 4 rfl) ?_
      refine va_lald (f := g64 o0 16) hx hb hK (hP 0 _ rfl) 10 1 rfl rfl (inb_in hi12) d_Mod_set_104 ?_
      refine W.lcmp hx hb d_Mod_set_105 ?_
      refine lv_if_ne (tgt := 111) hx hb d_Mod_set_106 (by decide) (fun c15 => ?_) (fun c15 => ?_)
      · have h := ite_f c15 h
        exact k_Mod_set_111 C0 x1 (x2 / v9) (x4 / v9) (s32 o0 0 0 y1) _ _ _ hP hS (lv_sub hl [3, 4, 1, 0] rfl) h
      · have h := ite_t c15 h
        refine lv_iconst (v := 0) hx hb d_Mod_set_109 (by decide) ?_
        obtain ⟨rfl, rfl⟩ := res2 h
        exact W.zret hx hb hr rfl (fun t ht hW => ⟨rfl, by rw [ht]; exact hP, hS.F ht⟩) hS.2.2 d_Mod_set_110
  · have h := ite_f c7 h
    refine lv_iconst (v := 0) hx hb d_Mod_set_62 (by decide) ?_
    obtain ⟨rfl, rfl⟩ := res2 h
    exact W.zret hx hb hr rfl (fun t ht hW => ⟨rfl, by rw [ht]; exact hP, hS.F ht⟩) hS.2.2 d_Mod_set_63
set_option maxHeartbeats 4000000 in
set_option maxRecDepth 100000 in
theorem c_Mod_set (l : Launch) (ct dC : Nat → ClassId) (dI : Nat → Nat → Nat) (a0 : Nat → Nat)  (sz : Nat) (x1 : Int32) (x2 : Int64) (x4 : Int64) (o0 : Ob) (r : Bool) (n0 : Ob) (hF : F_Mod_set x1 x2 x4 o0 = some (r, n0)) : Met l y_Mod_set ws_Mod_set rm_Mod_set (bw_Pc [.ref (a0 0), .int x1, .long x2, .long x4] (dC, dI) vwCl (tyA ct) [wMod ct a0 o0] sz nx) (bw_Q (dC, dI) vwCl (some (.int (b2i r))) [wMod ct a0 n0] (bw_A [adMod a0] sz)) 0 0 (bw_A [adMod a0] sz) := by
  refine Met.ofW (cc := b_Mod_set) (maxL := 13) (ret := (some .boolean)) (by decide) rfl ?_
  intro p e s m args below meth c s₁ B hml hv
  obtain ⟨rfl, hsz, hP, hK, hN0, hnx⟩ := hv
  have hx := B.exec
  have hb := B.bytes
  have hr := B.returns
  have hts : ∀ w ∈ wsAll, w.before [.ref (a0 0), .int x1, .long x2, .long x4].toArray s = true := fun w h9 => atoms_spec (ws := ws_Mod_set) B.pre w (List.mem_cons_of_mem _ h9)
  have hown : s.vm.findClass R_Mod = some m.cls := findClass_of_methodNamed B.named
  have hlocks := B.notSynchronized
  subst hsz
  have hN : bw_N (bw_A [adMod a0] s.heap.size) [adMod a0] := hN0.self s.heap.size
  generalize hAe : bw_A [adMod a0] s.heap.size = A at hN ⊢
  have hA : ∀ q : Nat, s.heap.size ≤ q → A q := fun q h => by rw [← hAe]; exact Or.inr h
  have hS : va_S A s.heap s.heap [] := va_S.rf
  have hl := lv_entry ([.ref (a0 0), .int x1, .long x2, .long x4]) (n := 13) (Nat.le_of_ble_eq_true rfl)
  rw [lg_entry_eq]
  generalize (lg_sl ([.ref (a0 0), .int x1, .long x2, .long x4]) ++ List.replicate (13 - (lg_sl ([.ref (a0 0), .int x1, .long x2, .long x4])).length) Slot.unset).toArray = ls at hl ⊢
  have hl : lv_has ls 13 [(0, .ref (a0 0)), (1, .int x1), (2, .long x2), (4, .long x4)] := hl
  have C0 : cx wsAll vwCl nx p s m [.ref (a0 0), .int x1, .long x2, .long x4].toArray meth c (dC, dI) (tyA ct) b_Mod_set 13 (some .boolean) R_Mod A [adMod a0] := ⟨hx, hb, hr, hml, hown, hlocks, hts, hK, hN, hA, hnx⟩
  have h := hF
  rw [F_Mod_set] at h
  refine lv_aload_n hx hb d_Mod_set_0 rfl (lv_at hl 0 rfl) ?_
  refine lv_iload_n hx hb d_Mod_set_1 rfl (lv_at hl 1 rfl) ?_
  refine lv_if_lt (tgt := 11) hx hb d_Mod_set_2 (by decide) (fun c1 => ?_) (fun c1 => ?_)
  · have h := ite_t c1 h
    refine lv_iconst (v := 1) hx hb d_Mod_set_11 (by decide) ?_
    refine lv_goto (tgt := 52) hx hb d_Mod_set_12 (by decide) ?_
    exact k_Mod_set_52 C0 x1 x2 x4 (1 : Int32) o0 _ _ _ hP hS (lv_sub hl [0, 1, 2, 3] rfl) h
  · have h := ite_f c1 h
    refine lv_iload_n hx hb d_Mod_set_5 rfl (lv_at hl 1 rfl) ?_
    refine lv_bipush (v := 7) hx hb d_Mod_set_6 (by decide) ?_
    refine lv_icmp_le (tgt := 15) hx hb d_Mod_set_8 (by decide) (fun c2 => ?_) (fun c2 => ?_)
    · have h := ite_t c2 h
      refine lv_lload hx hb d_Mod_set_15 (lv_at hl 3 rfl) ?_
      refine lv_lconst (v := 1) hx hb d_Mod_set_17 (by decide) ?_
      refine W.lcmp hx hb d_Mod_set_18 ?_
      refine lv_if_lt (tgt := 47) hx hb d_Mod_set_19 (by decide) (fun c3 => ?_) (fun c3 => ?_)
      · have h := ite_t c3 h
        refine lv_iconst (v := 2) hx hb d_Mod_set_47 (by decide) ?_
        refine lv_goto (tgt := 52) hx hb d_Mod_set_48 (by decide) ?_
        exact k_Mod_set_52 C0 x1 x2 x4 (2 : Int32) o0 _ _ _ hP hS (lv_sub hl [0, 1, 2, 3] rfl) h
      · have h := ite_f c3 h
        refine lv_lload hx hb d_Mod_set_22 (lv_at hl 3 rfl) ?_
        refine lv_ldc2 (v := 1000000000) hx hb hown (hts _ cn_Mod_191) d_Mod_set_24 ?_
        refine W.lcmp hx hb d_Mod_set_27 ?_
        refine lv_if_gt (tgt := 47) hx hb d_Mod_set_28 (by decide) (fun c4 => ?_) (fun c4 => ?_)
        · have h := ite_t c4 h
          refine lv_iconst (v := 2) hx hb d_Mod_set_47 (by decide) ?_
          refine lv_goto (tgt := 52) hx hb d_Mod_set_48 (by decide) ?_
          exact k_Mod_set_52 C0 x1 x2 x4 (2 : Int32) o0 _ _ _ hP hS (lv_sub hl [0, 1, 2, 3] rfl) h
        · have h := ite_f c4 h
          refine lv_lload_n hx hb d_Mod_set_31 rfl (lv_at hl 2 rfl) ?_
          refine lv_ldc2 (v := 1000000000) hx hb hown (hts _ cn_Mod_191) d_Mod_set_32 ?_
          refine W.lcmp hx hb d_Mod_set_35 ?_
          refine lv_if_gt (tgt := 47) hx hb d_Mod_set_36 (by decide) (fun c5 => ?_) (fun c5 => ?_)
          · have h := ite_t c5 h
            refine lv_iconst (v := 2) hx hb d_Mod_set_47 (by decide) ?_
            refine lv_goto (tgt := 52) hx hb d_Mod_set_48 (by decide) ?_
            exact k_Mod_set_52 C0 x1 x2 x4 (2 : Int32) o0 _ _ _ hP hS (lv_sub hl [0, 1, 2, 3] rfl) h
          · have h := ite_f c5 h
            refine lv_lload_n hx hb d_Mod_set_39 rfl (lv_at hl 2 rfl) ?_
            refine lv_ldc2 (v := -1000000000) hx hb hown (hts _ cn_Mod_193) d_Mod_set_40 ?_
            refine W.lcmp hx hb d_Mod_set_43 ?_
            refine lv_if_ge (tgt := 51) hx hb d_Mod_set_44 (by decide) (fun c6 => ?_) (fun c6 => ?_)
            · have h := ite_t c6 h
              refine lv_iconst (v := 0) hx hb d_Mod_set_51 (by decide) ?_
              exact k_Mod_set_52 C0 x1 x2 x4 (0 : Int32) o0 _ _ _ hP hS (lv_sub hl [0, 1, 2, 3] rfl) h
            · have h := ite_f c6 h
              refine lv_iconst (v := 2) hx hb d_Mod_set_47 (by decide) ?_
              refine lv_goto (tgt := 52) hx hb d_Mod_set_48 (by decide) ?_
              exact k_Mod_set_52 C0 x1 x2 x4 (2 : Int32) o0 _ _ _ hP hS (lv_sub hl [0, 1, 2, 3] rfl) h
    · have h := ite_f c2 h
      refine lv_iconst (v := 1) hx hb d_Mod_set_11 (by decide) ?_
      refine lv_goto (tgt := 52) hx hb d_Mod_set_12 (by decide) ?_
      exact k_Mod_set_52 C0 x1 x2 x4 (1 : Int32) o0 _ _ _ hP hS (lv_sub hl [0, 1, 2, 3] rfl) h
def F_Mod_noWork  (o0 : Ob) : Option (Bool × Ob) :=
  if (g32 o0 12 0) = 0 then (if (1 : Int32) ≤ 0 then (some (false, (s32 o0 0 0 (1 : Int32)))) else (some (true, (s32 o0 0 0 (1 : Int32))))) else (if (0 : Int32) ≤ 0 then (some (false, (s32 o0 0 0 (0 : Int32)))) else (some (true, (s32 o0 0 0 (0 : Int32)))))
abbrev ws_Mod_noWork : List Cond := Cond.code y_Mod_noWork b_Mod_noWork 1 (some .boolean) :: wsAll
abbrev rm_Mod_noWork : Room := { frames := 0, cells := 0, slots := 0, locals := 0 }
set_option maxHeartbeats 4000000 in
set_option maxRecDepth 100000 in
theorem c_Mod_noWork (l : Launch) (ct dC : Nat → ClassId) (dI : Nat → Nat → Nat) (a0 : Nat → Nat)  (sz : Nat)  (o0 : Ob) (r : Bool) (n0 : Ob) (hF : F_Mod_noWork o0 = some (r, n0)) : Met l y_Mod_noWork ws_Mod_noWork rm_Mod_noWork (bw_Pc [.ref (a0 0)] (dC, dI) vwCl (tyA ct) [wMod ct a0 o0] sz nx) (bw_Q (dC, dI) vwCl (some (.int (b2i r))) [wMod ct a0 n0] (bw_A [adMod a0] sz)) 0 0 (bw_A [adMod a0] sz) := by
  refine Met.ofW (cc := b_Mod_noWork) (maxL := 1) (ret := (some .boolean)) (by decide) rfl ?_
  intro p e s m args below meth c s₁ B hml hv
  obtain ⟨rfl, hsz, hP, hK, hN0, hnx⟩ := hv
  have hx := B.exec
  have hb := B.bytes
  have hr := B.returns
  have hts : ∀ w ∈ wsAll, w.before [.ref (a0 0)].toArray s = true := fun w h9 => atoms_spec (ws := ws_Mod_noWork) B.pre w (List.mem_cons_of_mem _ h9)
  have hown : s.vm.findClass R_Mod = some m.cls := findClass_of_methodNamed B.named
  have hlocks := B.notSynchronized
  subst hsz
  have hN : bw_N (bw_A [adMod a0] s.heap.size) [adMod a0] := hN0.self s.heap.size
  generalize hAe : bw_A [adMod a0] s.heap.size = A at hN ⊢
  have hA : ∀ q : Nat, s.heap.size ≤ q → A q := fun q h => by rw [← hAe]; exact Or.inr h
  have hS : va_S A s.heap s.heap [] := va_S.rf
  have hl := lv_entry ([.ref (a0 0)]) (n := 1) (Nat.le_of_ble_eq_true rfl)
  rw [lg_entry_eq]
  generalize (lg_sl ([.ref (a0 0)]) ++ List.replicate (1 - (lg_sl ([.ref (a0 0)])).length) Slot.unset).toArray = ls at hl ⊢
  have hl : lv_has ls 1 [(0, .ref (a0 0))] := hl
  have C0 : cx wsAll vwCl nx p s m [.ref (a0 0)].toArray meth c (dC, dI) (tyA ct) b_Mod_noWork 1 (some .boolean) R_Mod A [adMod a0] := ⟨hx, hb, hr, hml, hown, hlocks, hts, hK, hN, hA, hnx⟩
  have h := hF
  rw [F_Mod_noWork] at h
  refine lv_aload_n hx hb d_Mod_noWork_0 rfl (lv_at hl 0 rfl) ?_
  refine lv_aload_n hx hb d_Mod_noWork_1 rfl (lv_at hl 0 rfl) ?_
  refine va_get (D := (dC, dI)) (ci := 6) (v := .int (g32 o0 12 0)) (C := R_Mod) (T := T_Mod) (N := 36) hx hb hts in_Mod hown hK (hP 0 _ rfl) 0 rfl rfl 12 (by decide) (hts _ fl_Mod_170) (fun _ h9 => h9) rfl d_Mod_noWork_2 ?_
  refine lv_if_eq (tgt := 12) hx hb d_Mod_noWork_5 (by decide) (fun c1 => ?_) (fun c1 => ?_)
  · have h := ite_t c1 h
    refine lv_iconst (v := 1) hx hb d_Mod_noWork_12 (by decide) ?_
    refine pt_Mod_0 hx hb hts hown hK hP hN hS 0 rfl (hts _ fl_Mod_84) d_Mod_noWork_13 (fun H locs hP hS => ?_)
    have hP : bw_P (dC, dI) vwCl [wMod ct a0 (s32 o0 0 0 (1 : Int32))] H := hP
    refine lv_aload_n hx hb d_Mod_noWork_16 rfl (lv_at hl 0 rfl) ?_
    refine va_get (D := (dC, dI)) (ci := 6) (v := .int (1 : Int32)) (C := R_Mod) (T := T_Mod) (N := 36) hx hb hts in_Mod hown hK (hP 0 _ rfl) 0 rfl rfl 0 (by decide) (hts _ fl_Mod_84) (fun _ h9 => h9) rfl d_Mod_noWork_17 ?_
    refine lv_if_le (tgt := 27) hx hb d_Mod_noWork_20 (by decide) (fun c2 => ?_) (fun c2 => ?_)
    · have h := ite_t c2 h
      refine lv_iconst (v := 0) hx hb d_Mod_noWork_27 (by decide) ?_
      obtain ⟨rfl, rfl⟩ := res2 h
      exact W.zret hx hb hr rfl (fun t ht hW => ⟨rfl, by rw [ht]; exact hP, hS.F ht⟩) hS.2.2 d_Mod_noWork_28
    · have h := ite_f c2 h
      refine lv_iconst (v := 1) hx hb d_Mod_noWork_23 (by decide) ?_
      refine lv_goto (tgt := 28) hx hb d_Mod_noWork_24 (by decide) ?_
      obtain ⟨rfl, rfl⟩ := res2 h
      exact W.zret hx hb hr rfl (fun t ht hW => ⟨rfl, by rw [ht]; exact hP, hS.F ht⟩) hS.2.2 d_Mod_noWork_28
  · have h := ite_f c1 h
    refine lv_iconst (v := 0) hx hb d_Mod_noWork_8 (by decide) ?_
    refine lv_goto (tgt := 13) hx hb d_Mod_noWork_9 (by decide) ?_
    refine pt_Mod_0 hx hb hts hown hK hP hN hS 0 rfl (hts _ fl_Mod_84) d_Mod_noWork_13 (fun H locs hP hS => ?_)
    have hP : bw_P (dC, dI) vwCl [wMod ct a0 (s32 o0 0 0 (0 : Int32))] H := hP
    refine lv_aload_n hx hb d_Mod_noWork_16 rfl (lv_at hl 0 rfl) ?_
    refine va_get (D := (dC, dI)) (ci := 6) (v := .int (0 : Int32)) (C := R_Mod) (T := T_Mod) (N := 36) hx hb hts in_Mod hown hK (hP 0 _ rfl) 0 rfl rfl 0 (by decide) (hts _ fl_Mod_84) (fun _ h9 => h9) rfl d_Mod_noWork_17 ?_
    refine lv_if_le (tgt := 27) hx hb d_Mod_noWork_20 (by decide) (fun c3 => ?_) (fun c3 => ?_)
    · have h := ite_t c3 h
      refine lv_iconst (v := 0) hx hb d_Mod_noWork_27 (by decide) ?_
      obtain ⟨rfl, rfl⟩ := res2 h
      exact W.zret hx hb hr rfl (fun t ht hW => ⟨rfl, by rw [ht]; exact hP, hS.F ht⟩) hS.2.2 d_Mod_noWork_28
    · have h := ite_f c3 h
      refine lv_iconst (v := 1) hx hb d_Mod_noWork_23 (by decide) ?_
      refine lv_goto (tgt := 28) hx hb d_Mod_noWork_24 (by decide) ?_
      obtain ⟨rfl, rfl⟩ := res2 h
      exact W.zret hx hb hr rfl (fun t ht hW => ⟨rfl, by rw [ht]; exact hP, hS.F ht⟩) hS.2.2 d_Mod_noWork_28
def F_Mod_isCell (x0 : Int32) (x1 : Int32)  : Option (Bool) :=
  if x0 < 0 then (some false) else (if (10 : Int32) ≤ x0 then (some false) else (if x1 < 0 then (some false) else (if (6 : Int32) ≤ x1 then (some false) else (some true))))
abbrev ws_Mod_isCell : List Cond := Cond.code y_Mod_isCell b_Mod_isCell 2 (some .boolean) :: wsAll
abbrev rm_Mod_isCell : Room := { frames := 0, cells := 0, slots := 0, locals := 0 }
set_option maxHeartbeats 4000000 in
set_option maxRecDepth 100000 in
theorem c_Mod_isCell (l : Launch) (ct dC : Nat → ClassId) (dI : Nat → Nat → Nat)   (sz : Nat) (x0 : Int32) (x1 : Int32)  (r : Bool) (hF : F_Mod_isCell x0 x1 = some r) : Met l y_Mod_isCell ws_Mod_isCell rm_Mod_isCell (bw_Pc [.int x0, .int x1] (dC, dI) vwCl (tyA ct) [] sz nx) (bw_QR (some (.int (b2i r)))) 0 0 (fun _ => False) := by
  refine Met.ofW (cc := b_Mod_isCell) (maxL := 2) (ret := (some .boolean)) (by decide) rfl ?_
  intro p e s m args below meth c s₁ B hml hv
  obtain ⟨rfl, hsz, hP, hK, hN0, hnx⟩ := hv
  have hx := B.exec
  have hb := B.bytes
  have hr := B.returns
  have hts : ∀ w ∈ wsAll, w.before [.int x0, .int x1].toArray s = true := fun w h9 => atoms_spec (ws := ws_Mod_isCell) B.pre w (List.mem_cons_of_mem _ h9)
  have hown : s.vm.findClass R_Mod = some m.cls := findClass_of_methodNamed B.named
  have hlocks := B.notSynchronized
  subst hsz
  have hN : bw_N (fun _ => True) [] := hN0
  generalize hAe : (fun _ : Nat => True) = A at hN
  have hA : ∀ q : Nat, s.heap.size ≤ q → A q := fun q _ => by rw [← hAe]; trivial
  have hS : s.heap = s.heap ∧ ([] : List Loc) = [] := ⟨rfl, rfl⟩
  have hl := lv_entry ([.int x0, .int x1]) (n := 2) (Nat.le_of_ble_eq_true rfl)
  rw [lg_entry_eq]
  generalize (lg_sl ([.int x0, .int x1]) ++ List.replicate (2 - (lg_sl ([.int x0, .int x1])).length) Slot.unset).toArray = ls at hl ⊢
  have hl : lv_has ls 2 [(0, .int x0), (1, .int x1)] := hl
  have C0 : cx wsAll vwCl nx p s m [.int x0, .int x1].toArray meth c (dC, dI) (tyA ct) b_Mod_isCell 2 (some .boolean) R_Mod A [] := ⟨hx, hb, hr, hml, hown, hlocks, hts, hK, hN, hA, hnx⟩
  have h := hF
  rw [F_Mod_isCell] at h
  refine lv_iload_n hx hb d_Mod_isCell_0 rfl (lv_at hl 0 rfl) ?_
  refine lv_if_lt (tgt := 24) hx hb d_Mod_isCell_1 (by decide) (fun c1 => ?_) (fun c1 => ?_)
  · have h := ite_t c1 h
    refine lv_iconst (v := 0) hx hb d_Mod_isCell_24 (by decide) ?_
    obtain rfl := res1 h
    exact W.zret hx hb hr rfl (fun t ht hW => ⟨rfl, ht.trans hS.1⟩) (bw_nil hS.2) d_Mod_isCell_25
  · have h := ite_f c1 h
    refine lv_iload_n hx hb d_Mod_isCell_4 rfl (lv_at hl 0 rfl) ?_
    refine lv_bipush (v := 10) hx hb d_Mod_isCell_5 (by decide) ?_
    refine lv_icmp_ge (tgt := 24) hx hb d_Mod_isCell_7 (by decide) (fun c2 => ?_) (fun c2 => ?_)
    · have h := ite_t c2 h
      refine lv_iconst (v := 0) hx hb d_Mod_isCell_24 (by decide) ?_
      obtain rfl := res1 h
      exact W.zret hx hb hr rfl (fun t ht hW => ⟨rfl, ht.trans hS.1⟩) (bw_nil hS.2) d_Mod_isCell_25
    · have h := ite_f c2 h
      refine lv_iload_n hx hb d_Mod_isCell_10 rfl (lv_at hl 1 rfl) ?_
      refine lv_if_lt (tgt := 24) hx hb d_Mod_isCell_11 (by decide) (fun c3 => ?_) (fun c3 => ?_)
      · have h := ite_t c3 h
        refine lv_iconst (v := 0) hx hb d_Mod_isCell_24 (by decide) ?_
        obtain rfl := res1 h
        exact W.zret hx hb hr rfl (fun t ht hW => ⟨rfl, ht.trans hS.1⟩) (bw_nil hS.2) d_Mod_isCell_25
      · have h := ite_f c3 h
        refine lv_iload_n hx hb d_Mod_isCell_14 rfl (lv_at hl 1 rfl) ?_
        refine lv_bipush (v := 6) hx hb d_Mod_isCell_15 (by decide) ?_
        refine lv_icmp_ge (tgt := 24) hx hb d_Mod_isCell_17 (by decide) (fun c4 => ?_) (fun c4 => ?_)
        · have h := ite_t c4 h
          refine lv_iconst (v := 0) hx hb d_Mod_isCell_24 (by decide) ?_
          obtain rfl := res1 h
          exact W.zret hx hb hr rfl (fun t ht hW => ⟨rfl, ht.trans hS.1⟩) (bw_nil hS.2) d_Mod_isCell_25
        · have h := ite_f c4 h
          refine lv_iconst (v := 1) hx hb d_Mod_isCell_20 (by decide) ?_
          refine lv_goto (tgt := 25) hx hb d_Mod_isCell_21 (by decide) ?_
          obtain rfl := res1 h
          exact W.zret hx hb hr rfl (fun t ht hW => ⟨rfl, ht.trans hS.1⟩) (bw_nil hS.2) d_Mod_isCell_25
theorem g_Mod_239 : GoodIn wsAll (wsS R_Mod 239 y_Mod_isCell ws_Mod_isCell) := gd_S ml_Mod_239 st_Mod_isCell ini_Mod cd_Mod_isCell
def F_Mod_state_25  (x1 : Int32) (x2 : Int32) (y1 : Int32) (o0 : Ob) : Option (Int32 × Ob) :=
  if y1 ≤ 0 then (chk (inb (((6 : Int32) * x1) + x2) 60) (some ((g32 o0 19 (Int32.toNatClampNeg (((6 : Int32) * x1) + x2))), (s32 o0 0 0 y1)))) else (some ((0 : Int32), (s32 o0 0 0 y1)))
def F_Mod_state (x1 : Int32) (x2 : Int32) (o0 : Ob) : Option (Int32 × Ob) :=
  if (g32 o0 12 0) = 0 then (F_Mod_state_25 x1 x2 (1 : Int32) o0) else (bind1 (F_Mod_isCell x1 x2) (fun v3 => if (b2i v3) = 0 then (F_Mod_state_25 x1 x2 (2 : Int32) o0) else (F_Mod_state_25 x1 x2 (0 : Int32) o0)))
abbrev ws_Mod_state : List Cond := Cond.code y_Mod_state b_Mod_state 3 (some .int) :: wsAll
abbrev rm_Mod_state : Room := { frames := 1, cells := 0, slots := 0, locals := 21 }
set_option maxHeartbeats 4000000 in
set_option maxRecDepth 100000 in
theorem k_Mod_state_25 {p : Program} {l : Launch} {e : Env} {s : State} {m : MethodId} {args : Array Value} {below : List Frame} {meth : Method} {c : Code} {A : Nat → Prop} {ct dC : Nat → ClassId} {dI : Nat → Nat → Nat} {a0 : Nat → Nat}  {r : Int32} {n0 : Ob}   (C0 : cx wsAll vwCl nx p s m args meth c (dC, dI) (tyA ct) b_Mod_state 3 (some .int) R_Mod A [adMod a0])  : ∀ (x1 : Int32) (x2 : Int32) (y1 : Int32) (o0 : Ob) (H : Heap) (locs : List Loc) (ls : Array Slot), bw_P (dC, dI) vwCl [wMod ct a0 o0] H → va_S A s.heap H locs → lv_has ls 3 [(0, .ref (a0 0)), (1, .int x1), (2, .int x2)] → F_Mod_state_25 x1 x2 y1 o0 = some (r, n0) → W p l e (headSpec ws_Mod_state rm_Mod_state).room s m args below meth c H locs 0 0 (MQ below (bw_Q (dC, dI) vwCl (some (.int r)) [wMod ct a0 n0] A) args s 0 0 A) (F0 m 25 ls [.int y1, .ref (a0 0)]) := by
  obtain ⟨hx, hb, hr, hml, hown, hlocks, hts, hK, hN, hA, hnx⟩ := id C0
  intro x1 x2 y1 o0 H locs ls hP hS hl h
  rw [F_Mod_state_25] at h
  refine pt_Mod_0 hx hb hts hown hK hP hN hS 0 rfl (hts _ fl_Mod_84) d_Mod_state_25 (fun H locs hP hS => ?_)
  have hP : bw_P (dC, dI) vwCl [wMod ct a0 (s32 o0 0 0 y1)] H := hP
  refine lv_aload_n hx hb d_Mod_state_28 rfl (lv_at hl 0 rfl) ?_
  refine va_get (D := (dC, dI)) (ci := 6) (v := .int y1) (C := R_Mod) (T := T_Mod) (N := 36) hx hb hts in_Mod hown hK (hP 0 _ rfl) 0 rfl rfl 0 (by decide) (hts _ fl_Mod_84) (fun _ h9 => h9) rfl d_Mod_state_29 ?_
  refine lv_if_le (tgt := 39) hx hb d_Mod_state_32 (by decide) (fun c5 => ?_) (fun c5 => ?_)
  · have h := ite_t c5 h
    refine lv_aload_n hx hb d_Mod_state_39 rfl (lv_at hl 0 rfl) ?_
    refine va_get (D := (dC, dI)) (ci := 6) (v := .ref (a0 13)) (C := R_Mod) (T := T_Mod) (N := 36) hx hb hts in_Mod hown hK (hP 0 _ rfl) 0 rfl rfl 19 (by decide) (hts _ fl_Mod_48) (fun _ h9 => h9) rfl d_Mod_state_40 ?_
    refine lv_bipush (v := 6) hx hb d_Mod_state_43 (by decide) ?_
    refine lv_iload_n hx hb d_Mod_state_45 rfl (lv_at hl 1 rfl) ?_
    refine lv_imul hx hb d_Mod_state_46 ?_
    refine lv_iload_n hx hb d_Mod_state_47 rfl (lv_at hl 2 rfl) ?_
    refine lv_iadd hx hb d_Mod_state_48 ?_
    obtain ⟨hi6, h⟩ := chk_some h
    refine va_iald (f := g32 o0 19) hx hb hK (hP 0 _ rfl) 13 0 rfl rfl (inb_in hi6) d_Mod_state_49 ?_
    obtain ⟨rfl, rfl⟩ := res2 h
    exact W.iret hx hb hr (fun t ht hW => ⟨rfl, by rw [ht]; exact hP, hS.F ht⟩) hS.2.2 d_Mod_state_50
  · have h := ite_f c5 h
    refine lv_iconst (v := 0) hx hb d_Mod_state_35 (by decide) ?_
    refine lv_goto (tgt := 50) hx hb d_Mod_state_36 (by decide) ?_
    obtain ⟨rfl, rfl⟩ := res2 h
    exact W.iret hx hb hr (fun t ht hW => ⟨rfl, by rw [ht]; exact hP, hS.F ht⟩) hS.2.2 d_Mod_state_50
set_option maxHeartbeats 4000000 in
set_option maxRecDepth 100000 in
theorem c_Mod_state (l : Launch) (ct dC : Nat → ClassId) (dI : Nat → Nat → Nat) (a0 : Nat → Nat)  (sz : Nat) (x1 : Int32) (x2 : Int32) (o0 : Ob) (r : Int32) (n0 : Ob) (hF : F_Mod_state x1 x2 o0 = some (r, n0)) : Met l y_Mod_state ws_Mod_state rm_Mod_state (bw_Pc [.ref (a0 0), .int x1, .int x2] (dC, dI) vwCl (tyA ct) [wMod ct a0 o0] sz nx) (bw_Q (dC, dI) vwCl (some (.int r)) [wMod ct a0 n0] (bw_A [adMod a0] sz)) 0 0 (bw_A [adMod a0] sz) := by
  refine Met.ofW (cc := b_Mod_state) (maxL := 3) (ret := (some .int)) (by decide) rfl ?_
  intro p e s m args below meth c s₁ B hml hv
  obtain ⟨rfl, hsz, hP, hK, hN0, hnx⟩ := hv
  have hx := B.exec
  have hb := B.bytes
  have hr := B.returns
  have hts : ∀ w ∈ wsAll, w.before [.ref (a0 0), .int x1, .int x2].toArray s = true := fun w h9 => atoms_spec (ws := ws_Mod_state) B.pre w (List.mem_cons_of_mem _ h9)
  have hown : s.vm.findClass R_Mod = some m.cls := findClass_of_methodNamed B.named
  have hlocks := B.notSynchronized
  subst hsz
  have hN : bw_N (bw_A [adMod a0] s.heap.size) [adMod a0] := hN0.self s.heap.size
  generalize hAe : bw_A [adMod a0] s.heap.size = A at hN ⊢
  have hA : ∀ q : Nat, s.heap.size ≤ q → A q := fun q h => by rw [← hAe]; exact Or.inr h
  have hS : va_S A s.heap s.heap [] := va_S.rf
  have hl := lv_entry ([.ref (a0 0), .int x1, .int x2]) (n := 3) (Nat.le_of_ble_eq_true rfl)
  rw [lg_entry_eq]
  generalize (lg_sl ([.ref (a0 0), .int x1, .int x2]) ++ List.replicate (3 - (lg_sl ([.ref (a0 0), .int x1, .int x2])).length) Slot.unset).toArray = ls at hl ⊢
  have hl : lv_has ls 3 [(0, .ref (a0 0)), (1, .int x1), (2, .int x2)] := hl
  have C0 : cx wsAll vwCl nx p s m [.ref (a0 0), .int x1, .int x2].toArray meth c (dC, dI) (tyA ct) b_Mod_state 3 (some .int) R_Mod A [adMod a0] := ⟨hx, hb, hr, hml, hown, hlocks, hts, hK, hN, hA, hnx⟩
  have h := hF
  rw [F_Mod_state] at h
  refine lv_aload_n hx hb d_Mod_state_0 rfl (lv_at hl 0 rfl) ?_
  refine lv_aload_n hx hb d_Mod_state_1 rfl (lv_at hl 0 rfl) ?_
  refine va_get (D := (dC, dI)) (ci := 6) (v := .int (g32 o0 12 0)) (C := R_Mod) (T := T_Mod) (N := 36) hx hb hts in_Mod hown hK (hP 0 _ rfl) 0 rfl rfl 12 (by decide) (hts _ fl_Mod_170) (fun _ h9 => h9) rfl d_Mod_state_2 ?_
  refine lv_if_ne (tgt := 12) hx hb d_Mod_state_5 (by decide) (fun c1 => ?_) (fun c1 => ?_)
  · have h := ite_f c1 h
    refine lv_iload_n hx hb d_Mod_state_12 rfl (lv_at hl 1 rfl) ?_
    refine lv_iload_n hx hb d_Mod_state_13 rfl (lv_at hl 2 rfl) ?_
    obtain ⟨v3, hG2, h⟩ := bind1_some h
    refine bw_callR (va_runS (As := [.int x1, .int x2]) (rest := [.ref (a0 0)]) ⟨hx, hb, hml, hown, hts⟩ (c_Mod_isCell l ct dC dI _ x1 x2 v3 hG2) (cwS 2 hts g_Mod_239 rfl rfl rfl (by decide +kernel) ⟨Nat.le_of_ble_eq_true rfl, Nat.le_of_ble_eq_true rfl⟩) ⟨bw_blind nx_call, fun U hU hW => ⟨rfl, by rw [hU], by rw [hU]; exact hP.sub [] rfl, va_K.moved hW.alike hK, (hN.sub [] (by decide) rfl).weaken (fun _ _ => trivial), nx_warm hW hnx⟩⟩ rfl rfl hl.1 rfl (Nat.le_of_ble_eq_true rfl) d_Mod_state_14 ⟨Nat.le_of_ble_eq_true rfl, Nat.le_of_ble_eq_true rfl⟩) ?_
    refine lv_if_eq (tgt := 24) hx hb d_Mod_state_17 (by decide) (fun c4 => ?_) (fun c4 => ?_)
    · have h := ite_t c4 h
      refine lv_iconst (v := 2) hx hb d_Mod_state_24 (by decide) ?_
      exact k_Mod_state_25 C0 x1 x2 (2 : Int32) o0 _ _ _ hP hS (lv_sub hl [0, 1, 2] rfl) h
    · have h := ite_f c4 h
      refine lv_iconst (v := 0) hx hb d_Mod_state_20 (by decide) ?_
      refine lv_goto (tgt := 25) hx hb d_Mod_state_21 (by decide) ?_
      exact k_Mod_state_25 C0 x1 x2 (0 : Int32) o0 _ _ _ hP hS (lv_sub hl [0, 1, 2] rfl) h
  · have h := ite_t c1 h
    refine lv_iconst (v := 1) hx hb d_Mod_state_8 (by decide) ?_
    refine lv_goto (tgt := 25) hx hb d_Mod_state_9 (by decide) ?_
    exact k_Mod_state_25 C0 x1 x2 (1 : Int32) o0 _ _ _ hP hS (lv_sub hl [0, 1, 2] rfl) h
def F_Mod_size_53  (x1 : Int32) (x2 : Int32) (x3 : Int32) (y1 : Int32) (o0 : Ob) : Option (Int64 × Ob) :=
  if y1 ≤ 0 then (if x3 = 0 then (chk (inb (((6 : Int32) * x1) + x2) 60) (some ((g64 o0 20 (Int32.toNatClampNeg (((6 : Int32) * x1) + x2))), (s32 o0 0 0 y1)))) else (chk (inb (((6 : Int32) * x1) + x2) 60) (some ((g64 o0 21 (Int32.toNatClampNeg (((6 : Int32) * x1) + x2))), (s32 o0 0 0 y1))))) else (some ((0 : Int64), (s32 o0 0 0 y1)))
def F_Mod_size (x1 : Int32) (x2 : Int32) (x3 : Int32) (o0 : Ob) : Option (Int64 × Ob) :=
  bind1 (F_Mod_isCell x1 x2) (fun v2 => if (b2i v2) = 0 then (F_Mod_size_53 x1 x2 x3 (1 : Int32) o0) else (if x3 < 0 then (F_Mod_size_53 x1 x2 x3 (2 : Int32) o0) else (if x3 ≤ (1 : Int32) then (if (g32 o0 12 0) = 0 then (F_Mod_size_53 x1 x2 x3 (3 : Int32) o0) else (chk (inb (((6 : Int32) * x1) + x2) 60) (if (g32 o0 19 (Int32.toNatClampNeg (((6 : Int32) * x1) + x2))) = (1 : Int32) then (F_Mod_size_53 x1 x2 x3 (0 : Int32) o0) else (F_Mod_size_53 x1 x2 x3 (3 : Int32) o0)))) else (F_Mod_size_53 x1 x2 x3 (2 : Int32) o0))))
abbrev ws_Mod_size : List Cond := Cond.code y_Mod_size b_Mod_size 4 (some .long) :: wsAll
abbrev rm_Mod_size : Room := { frames := 1, cells := 0, slots := 0, locals := 21 }
set_option maxHeartbeats 4000000 in
set_option maxRecDepth 100000 in
theorem k_Mod_size_53 {p : Program} {l : Launch} {e : Env} {s : State} {m : MethodId} {args : Array Value} {below : List Frame} {meth : Method} {c : Code} {A : Nat → Prop} {ct dC : Nat → ClassId} {dI : Nat → Nat → Nat} {a0 : Nat → Nat}  {r : Int64} {n0 : Ob}   (C0 : cx wsAll vwCl nx p s m args meth c (dC, dI) (tyA ct) b_Mod_size 4 (some .long) R_Mod A [adMod a0])  : ∀ (x1 : Int32) (x2 : Int32) (x3 : Int32) (y1 : Int32) (o0 : Ob) (H : Heap) (locs : List Loc) (ls : Array Slot), bw_P (dC, dI) vwCl [wMod ct a0 o0] H → va_S A s.heap H locs → lv_has ls 4 [(0, .ref (a0 0)), (1, .int x1), (2, .int x2), (3, .int x3)] → F_Mod_size_53 x1 x2 x3 y1 o0 = some (r, n0) → W p l e (headSpec ws_Mod_size rm_Mod_size).room s m args below meth c H locs 0 0 (MQ below (bw_Q (dC, dI) vwCl (some (.long r)) [wMod ct a0 n0] A) args s 0 0 A) (F0 m 53 ls [.int y1, .ref (a0 0)]) := by
  obtain ⟨hx, hb, hr, hml, hown, hlocks, hts, hK, hN, hA, hnx⟩ := id C0
  intro x1 x2 x3 y1 o0 H locs ls hP hS hl h
  rw [F_Mod_size_53] at h
  refine pt_Mod_0 hx hb hts hown hK hP hN hS 0 rfl (hts _ fl_Mod_84) d_Mod_size_53 (fun H locs hP hS => ?_)
  have hP : bw_P (dC, dI) vwCl [wMod ct a0 (s32 o0 0 0 y1)] H := hP
  refine lv_aload_n hx hb d_Mod_size_56 rfl (lv_at hl 0 rfl) ?_
  refine va_get (D := (dC, dI)) (ci := 6) (v := .int y1) (C := R_Mod) (T := T_Mod) (N := 36) hx hb hts in_Mod hown hK (hP 0 _ rfl) 0 rfl rfl 0 (by decide) (hts _ fl_Mod_84) (fun _ h9 => h9) rfl d_Mod_size_57 ?_
  refine lv_if_le (tgt := 67) hx hb d_Mod_size_60 (by decide) (fun c9 => ?_) (fun c9 => ?_)
  · have h := ite_t c9 h
    refine lv_iload_n hx hb d_Mod_size_67 rfl (lv_at hl 3 rfl) ?_
    refine lv_if_ne (tgt := 85) hx hb d_Mod_size_68 (by decide) (fun c10 => ?_) (fun c10 => ?_)
    · have h := ite_f c10 h
      refine lv_aload_n hx hb d_Mod_size_85 rfl (lv_at hl 0 rfl) ?_
      refine va_get (D := (dC, dI)) (ci := 6) (v := .ref (a0 15)) (C := R_Mod) (T := T_Mod) (N := 36) hx hb hts in_Mod hown hK (hP 0 _ rfl) 0 rfl rfl 21 (by decide) (hts _ fl_Mod_54) (fun _ h9 => h9) rfl d_Mod_size_86 ?_
      refine lv_bipush (v := 6) hx hb d_Mod_size_89 (by decide) ?_
      refine lv_iload_n hx hb d_Mod_size_91 rfl (lv_at hl 1 rfl) ?_
      refine lv_imul hx hb d_Mod_size_92 ?_
      refine lv_iload_n hx hb d_Mod_size_93 rfl (lv_at hl 2 rfl) ?_
      refine lv_iadd hx hb d_Mod_size_94 ?_
      obtain ⟨hi11, h⟩ := chk_some h
      refine va_lald (f := g64 o0 21) hx hb hK (hP 0 _ rfl) 15 1 rfl rfl (inb_in hi11) d_Mod_size_95 ?_
      obtain ⟨rfl, rfl⟩ := res2 h
      exact W.lret hx hb hr (fun t ht hW => ⟨rfl, by rw [ht]; exact hP, hS.F ht⟩) hS.2.2 d_Mod_size_96
    · have h := ite_t c10 h
      refine lv_aload_n hx hb d_Mod_size_71 rfl (lv_at hl 0 rfl) ?_
      refine va_get (D := (dC, dI)) (ci := 6) (v := .ref (a0 14)) (C := R_Mod) (T := T_Mod) (N := 36) hx hb hts in_Mod hown hK (hP 0 _ rfl) 0 rfl rfl 20 (by decide) (hts _ fl_Mod_51) (fun _ h9 => h9) rfl d_Mod_size_72 ?_
      refine lv_bipush (v := 6) hx hb d_Mod_size_75 (by decide) ?_
      refine lv_iload_n hx hb d_Mod_size_77 rfl (lv_at hl 1 rfl) ?_
      refine lv_imul hx hb d_Mod_size_78 ?_
      refine lv_iload_n hx hb d_Mod_size_79 rfl (lv_at hl 2 rfl) ?_
      refine lv_iadd hx hb d_Mod_size_80 ?_
      obtain ⟨hi12, h⟩ := chk_some h
      refine va_lald (f := g64 o0 20) hx hb hK (hP 0 _ rfl) 14 1 rfl rfl (inb_in hi12) d_Mod_size_81 ?_
      refine lv_goto (tgt := 96) hx hb d_Mod_size_82 (by decide) ?_
      obtain ⟨rfl, rfl⟩ := res2 h
      exact W.lret hx hb hr (fun t ht hW => ⟨rfl, by rw [ht]; exact hP, hS.F ht⟩) hS.2.2 d_Mod_size_96
  · have h := ite_f c9 h
    refine lv_lconst (v := 0) hx hb d_Mod_size_63 (by decide) ?_
    refine lv_goto (tgt := 96) hx hb d_Mod_size_64 (by decide) ?_
    obtain ⟨rfl, rfl⟩ := res2 h
    exact W.lret hx hb hr (fun t ht hW => ⟨rfl, by rw [ht]; exact hP, hS.F ht⟩) hS.2.2 d_Mod_size_96
set_option maxHeartbeats 4000000 in
set_option maxRecDepth 100000 in
theorem c_Mod_size (l : Launch) (ct dC : Nat → ClassId) (dI : Nat → Nat → Nat) (a0 : Nat → Nat)  (sz : Nat) (x1 : Int32) (x2 : Int32) (x3 : Int32) (o0 : Ob) (r : Int64) (n0 : Ob) (hF : F_Mod_size x1 x2 x3 o0 = some (r, n0)) : Met l y_Mod_size ws_Mod_size rm_Mod_size (bw_Pc [.ref (a0 0), .int x1, .int x2, .int x3] (dC, dI) vwCl (tyA ct) [wMod ct a0 o0] sz nx) (bw_Q (dC, dI) vwCl (some (.long r)) [wMod ct a0 n0] (bw_A [adMod a0] sz)) 0 0 (bw_A [adMod a0] sz) := by
  refine Met.ofW (cc := b_Mod_size) (maxL := 4) (ret := (some .long)) (by decide) rfl ?_
  intro p e s m args below meth c s₁ B hml hv
  obtain ⟨rfl, hsz, hP, hK, hN0, hnx⟩ := hv
  have hx := B.exec
  have hb := B.bytes
  have hr := B.returns
  have hts : ∀ w ∈ wsAll, w.before [.ref (a0 0), .int x1, .int x2, .int x3].toArray s = true := fun w h9 => atoms_spec (ws := ws_Mod_size) B.pre w (List.mem_cons_of_mem _ h9)
  have hown : s.vm.findClass R_Mod = some m.cls := findClass_of_methodNamed B.named
  have hlocks := B.notSynchronized
  subst hsz
  have hN : bw_N (bw_A [adMod a0] s.heap.size) [adMod a0] := hN0.self s.heap.size
  generalize hAe : bw_A [adMod a0] s.heap.size = A at hN ⊢
  have hA : ∀ q : Nat, s.heap.size ≤ q → A q := fun q h => by rw [← hAe]; exact Or.inr h
  have hS : va_S A s.heap s.heap [] := va_S.rf
  have hl := lv_entry ([.ref (a0 0), .int x1, .int x2, .int x3]) (n := 4) (Nat.le_of_ble_eq_true rfl)
  rw [lg_entry_eq]
  generalize (lg_sl ([.ref (a0 0), .int x1, .int x2, .int x3]) ++ List.replicate (4 - (lg_sl ([.ref (a0 0), .int x1, .int x2, .int x3])).length) Slot.unset).toArray = ls at hl ⊢
  have hl : lv_has ls 4 [(0, .ref (a0 0)), (1, .int x1), (2, .int x2), (3, .int x3)] := hl
  have C0 : cx wsAll vwCl nx p s m [.ref (a0 0), .int x1, .int x2, .int x3].toArray meth c (dC, dI) (tyA ct) b_Mod_size 4 (some .long) R_Mod A [adMod a0] := ⟨hx, hb, hr, hml, hown, hlocks, hts, hK, hN, hA, hnx⟩
  have h := hF
  rw [F_Mod_size] at h
  refine lv_aload_n hx hb d_Mod_size_0 rfl (lv_at hl 0 rfl) ?_
  refine lv_iload_n hx hb d_Mod_size_1 rfl (lv_at hl 1 rfl) ?_
  refine lv_iload_n hx hb d_Mod_size_2 rfl (lv_at hl 2 rfl) ?_
  obtain ⟨v2, hG1, h⟩ := bind1_some h
  refine bw_callR (va_runS (As := [.int x1, .int x2]) (rest := [.ref (a0 0)]) ⟨hx, hb, hml, hown, hts⟩ (c_Mod_isCell l ct dC dI _ x1 x2 v2 hG1) (cwS 2 hts g_Mod_239 rfl rfl rfl (by decide +kernel) ⟨Nat.le_of_ble_eq_true rfl, Nat.le_of_ble_eq_true rfl⟩) ⟨bw_blind nx_call, fun U hU hW => ⟨rfl, by rw [hU], by rw [hU]; exact hP.sub [] rfl, va_K.moved hW.alike hK, (hN.sub [] (by decide) rfl).weaken (fun _ _ => trivial), nx_warm hW hnx⟩⟩ rfl rfl hl.1 rfl (Nat.le_of_ble_eq_true rfl) d_Mod_size_3 ⟨Nat.le_of_ble_eq_true rfl, Nat.le_of_ble_eq_true rfl⟩) ?_
  refine lv_if_ne (tgt := 13) hx hb d_Mod_size_6 (by decide) (fun c3 => ?_) (fun c3 => ?_)
  · have h := ite_f c3 h
    refine lv_iload_n hx hb d_Mod_size_13 rfl (lv_at hl 3 rfl) ?_
    refine lv_if_lt (tgt := 22) hx hb d_Mod_size_14 (by decide) (fun c4 => ?_) (fun c4 => ?_)
    · have h := ite_t c4 h
      refine lv_iconst (v := 2) hx hb d_Mod_size_22 (by decide) ?_
      refine lv_goto (tgt := 53) hx hb d_Mod_size_23 (by decide) ?_
      exact k_Mod_size_53 C0 x1 x2 x3 (2 : Int32) o0 _ _ _ hP hS (lv_sub hl [0, 1, 2, 3] rfl) h
    · have h := ite_f c4 h
      refine lv_iload_n hx hb d_Mod_size_17 rfl (lv_at hl 3 rfl) ?_
      refine lv_iconst (v := 1) hx hb d_Mod_size_18 (by decide) ?_
      refine lv_icmp_le (tgt := 26) hx hb d_Mod_size_19 (by decide) (fun c5 => ?_) (fun c5 => ?_)
      · have h := ite_t c5 h
        refine lv_aload_n hx hb d_Mod_size_26 rfl (lv_at hl 0 rfl) ?_
        refine va_get (D := (dC, dI)) (ci := 6) (v := .int (g32 o0 12 0)) (C := R_Mod) (T := T_Mod) (N := 36) hx hb hts in_Mod hown hK (hP 0 _ rfl) 0 rfl rfl 12 (by decide) (hts _ fl_Mod_170) (fun _ h9 => h9) rfl d_Mod_size_27 ?_
        refine lv_if_eq (tgt := 48) hx hb d_Mod_size_30 (by decide) (fun c6 => ?_) (fun c6 => ?_)
        · have h := ite_t c6 h
          refine lv_iconst (v := 3) hx hb d_Mod_size_48 (by decide) ?_
          refine lv_goto (tgt := 53) hx hb d_Mod_size_49 (by decide) ?_
          exact k_Mod_size_53 C0 x1 x2 x3 (3 : Int32) o0 _ _ _ hP hS (lv_sub hl [0, 1, 2, 3] rfl) h
        · have h := ite_f c6 h
          refine lv_aload_n hx hb d_Mod_size_33 rfl (lv_at hl 0 rfl) ?_
          refine va_get (D := (dC, dI)) (ci := 6) (v := .ref (a0 13)) (C := R_Mod) (T := T_Mod) (N := 36) hx hb hts in_Mod hown hK (hP 0 _ rfl) 0 rfl rfl 19 (by decide) (hts _ fl_Mod_48) (fun _ h9 => h9) rfl d_Mod_size_34 ?_
          refine lv_bipush (v := 6) hx hb d_Mod_size_37 (by decide) ?_
          refine lv_iload_n hx hb d_Mod_size_39 rfl (lv_at hl 1 rfl) ?_
          refine lv_imul hx hb d_Mod_size_40 ?_
          refine lv_iload_n hx hb d_Mod_size_41 rfl (lv_at hl 2 rfl) ?_
          refine lv_iadd hx hb d_Mod_size_42 ?_
          obtain ⟨hi7, h⟩ := chk_some h
          refine va_iald (f := g32 o0 19) hx hb hK (hP 0 _ rfl) 13 0 rfl rfl (inb_in hi7) d_Mod_size_43 ?_
          refine lv_iconst (v := 1) hx hb d_Mod_size_44 (by decide) ?_
          refine lv_icmp_eq (tgt := 52) hx hb d_Mod_size_45 (by decide) (fun c8 => ?_) (fun c8 => ?_)
          · have h := ite_t c8 h
            refine lv_iconst (v := 0) hx hb d_Mod_size_52 (by decide) ?_
            exact k_Mod_size_53 C0 x1 x2 x3 (0 : Int32) o0 _ _ _ hP hS (lv_sub hl [0, 1, 2, 3] rfl) h
          · have h := ite_f c8 h
            refine lv_iconst (v := 3) hx hb d_Mod_size_48 (by decide) ?_
            refine lv_goto (tgt := 53) hx hb d_Mod_size_49 (by decide) ?_
            exact k_Mod_size_53 C0 x1 x2 x3 (3 : Int32) o0 _ _ _ hP hS (lv_sub hl [0, 1, 2, 3] rfl) h
      · have h := ite_f c5 h
        refine lv_iconst (v := 2) hx hb d_Mod_size_22 (by decide) ?_
        refine lv_goto (tgt := 53) hx hb d_Mod_size_23 (by decide) ?_
        exact k_Mod_size_53 C0 x1 x2 x3 (2 : Int32) o0 _ _ _ hP hS (lv_sub hl [0, 1, 2, 3] rfl) h
  · have h := ite_t c3 h
    refine lv_iconst (v := 1) hx hb d_Mod_size_9 (by decide) ?_
    refine lv_goto (tgt := 53) hx hb d_Mod_size_10 (by decide) ?_
    exact k_Mod_size_53 C0 x1 x2 x3 (1 : Int32) o0 _ _ _ hP hS (lv_sub hl [0, 1, 2, 3] rfl) h
def F_Mod_ring_28  : Nat → Int32 → Int32 → Ob → Option (Int32 × Ob)
  | 0, _, _, _ => none
  | n + 1, x2, x3, o0 =>
    if (60 : Int32) ≤ x3 then (if (g32 o0 0 0) ≤ 0 then (some ((-1 : Int32), o0)) else (some ((0 : Int32), o0))) else (if (g32 o0 0 0) = 0 then (bind1 (F_Mod_isRing x3 o0) (fun v8 => if (b2i v8) = 0 then (F_Mod_ring_28 n x2 (x3 + (1 : Int32)) o0) else (if x2 = 0 then (some (x3, o0)) else (F_Mod_ring_28 n (x2 + (-1 : Int32)) (x3 + (1 : Int32)) o0)))) else (if (g32 o0 0 0) ≤ 0 then (some ((-1 : Int32), o0)) else (some ((0 : Int32), o0))))
def F_Mod_ring (x1 : Int32) (o0 : Ob) : Option (Int32 × Ob) :=
  if (g32 o0 11 0) = 0 then (F_Mod_ring_28 fuel x1 (0 : Int32) (s32 o0 0 0 (1 : Int32))) else (if 0 ≤ x1 then (F_Mod_ring_28 fuel x1 (0 : Int32) (s32 o0 0 0 (0 : Int32))) else (F_Mod_ring_28 fuel x1 (0 : Int32) (s32 o0 0 0 (2 : Int32))))
abbrev ws_Mod_ring : List Cond := Cond.code y_Mod_ring b_Mod_ring 4 (some .int) :: wsAll
abbrev rm_Mod_ring : Room := { frames := 1, cells := 0, slots := 0, locals := 21 }
set_option maxHeartbeats 4000000 in
set_option maxRecDepth 100000 in
theorem k_Mod_ring_28 {p : Program} {l : Launch} {e : Env} {s : State} {m : MethodId} {args : Array Value} {below : List Frame} {meth : Method} {c : Code} {A : Nat → Prop} {ct dC : Nat → ClassId} {dI : Nat → Nat → Nat} {a0 : Nat → Nat}  {r : Int32} {n0 : Ob}   (C0 : cx wsAll vwCl nx p s m args meth c (dC, dI) (tyA ct) b_Mod_ring 4 (some .int) R_Mod A [adMod a0])  : ∀ (n : Nat) (x2 : Int32) (x3 : Int32) (o0 : Ob) (H : Heap) (locs : List Loc) (ls : Array Slot), bw_P (dC, dI) vwCl [wMod ct a0 o0] H → va_S A s.heap H locs → lv_has ls 4 [(0, .ref (a0 0)), (2, .int x2), (3, .int x3)] → F_Mod_ring_28 n x2 x3 o0 = some (r, n0) → W p l e (headSpec ws_Mod_ring rm_Mod_ring).room s m args below meth c H locs 0 0 (MQ below (bw_Q (dC, dI) vwCl (some (.int r)) [wMod ct a0 n0] A) args s 0 0 A) (F0 m 28 ls []) := by
  obtain ⟨hx, hb, hr, hml, hown, hlocks, hts, hK, hN, hA, hnx⟩ := id C0
  intro n
  induction n with
  | zero =>
    intro x2 x3 o0 H locs ls hP hS hl h
    cases h
  | succ n ih =>
    intro x2 x3 o0 H locs ls hP hS hl h
    rw [F_Mod_ring_28] at h
    refine lv_iload_n hx hb d_Mod_ring_28 rfl (lv_at hl 2 rfl) ?_
    refine lv_bipush (v := 60) hx hb d_Mod_ring_29 (by decide) ?_
    refine lv_icmp_ge (tgt := 64) hx hb d_Mod_ring_31 (by decide) (fun c3 => ?_) (fun c3 => ?_)
    · have h := ite_t c3 h
      refine lv_aload_n hx hb d_Mod_ring_64 rfl (lv_at hl 0 rfl) ?_
      refine va_get (D := (dC, dI)) (ci := 6) (v := .int (g32 o0 0 0)) (C := R_Mod) (T := T_Mod) (N := 36) hx hb hts in_Mod hown hK (hP 0 _ rfl) 0 rfl rfl 0 (by decide) (hts _ fl_Mod_84) (fun _ h9 => h9) rfl d_Mod_ring_65 ?_
      refine lv_if_le (tgt := 75) hx hb d_Mod_ring_68 (by decide) (fun c4 => ?_) (fun c4 => ?_)
      · have h := ite_t c4 h
        refine lv_iconst (v := -1) hx hb d_Mod_ring_75 (by decide) ?_
        obtain ⟨rfl, rfl⟩ := res2 h
        exact W.iret hx hb hr (fun t ht hW => ⟨rfl, by rw [ht]; exact hP, hS.F ht⟩) hS.2.2 d_Mod_ring_76
      · have h := ite_f c4 h
        refine lv_iconst (v := 0) hx hb d_Mod_ring_71 (by decide) ?_
        refine lv_goto (tgt := 76) hx hb d_Mod_ring_72 (by decide) ?_
        obtain ⟨rfl, rfl⟩ := res2 h
        exact W.iret hx hb hr (fun t ht hW => ⟨rfl, by rw [ht]; exact hP, hS.F ht⟩) hS.2.2 d_Mod_ring_76
    · have h := ite_f c3 h
      refine lv_aload_n hx hb d_Mod_ring_34 rfl (lv_at hl 0 rfl) ?_
      refine va_get (D := (dC, dI)) (ci := 6) (v := .int (g32 o0 0 0)) (C := R_Mod) (T := T_Mod) (N := 36) hx hb hts in_Mod hown hK (hP 0 _ rfl) 0 rfl rfl 0 (by decide) (hts _ fl_Mod_84) (fun _ h9 => h9) rfl d_Mod_ring_35 ?_
      refine lv_if_ne (tgt := 64) hx hb d_Mod_ring_38 (by decide) (fun c5 => ?_) (fun c5 => ?_)
      · have h := ite_f c5 h
        refine lv_aload_n hx hb d_Mod_ring_64 rfl (lv_at hl 0 rfl) ?_
        refine va_get (D := (dC, dI)) (ci := 6) (v := .int (g32 o0 0 0)) (C := R_Mod) (T := T_Mod) (N := 36) hx hb hts in_Mod hown hK (hP 0 _ rfl) 0 rfl rfl 0 (by decide) (hts _ fl_Mod_84) (fun _ h9 => h9) rfl d_Mod_ring_65 ?_
        refine lv_if_le (tgt := 75) hx hb d_Mod_ring_68 (by decide) (fun c6 => ?_) (fun c6 => ?_)
        · have h := ite_t c6 h
          refine lv_iconst (v := -1) hx hb d_Mod_ring_75 (by decide) ?_
          obtain ⟨rfl, rfl⟩ := res2 h
          exact W.iret hx hb hr (fun t ht hW => ⟨rfl, by rw [ht]; exact hP, hS.F ht⟩) hS.2.2 d_Mod_ring_76
        · have h := ite_f c6 h
          refine lv_iconst (v := 0) hx hb d_Mod_ring_71 (by decide) ?_
          refine lv_goto (tgt := 76) hx hb d_Mod_ring_72 (by decide) ?_
          obtain ⟨rfl, rfl⟩ := res2 h
          exact W.iret hx hb hr (fun t ht hW => ⟨rfl, by rw [ht]; exact hP, hS.F ht⟩) hS.2.2 d_Mod_ring_76
      · have h := ite_t c5 h
        refine lv_aload_n hx hb d_Mod_ring_41 rfl (lv_at hl 0 rfl) ?_
        refine lv_iload_n hx hb d_Mod_ring_42 rfl (lv_at hl 2 rfl) ?_
        obtain ⟨v8, hG7, h⟩ := bind1_some h
        refine bw_callR (va_runV (As := [.int x3]) (rest := []) ⟨hx, hb, hml, hown, hts⟩ (c_Mod_isRing l ct dC dI a0 _ x3 o0 v8 hG7) (cwV 1 hts g_Mod_220 rfl rfl rfl (by decide +kernel) ⟨Nat.le_of_ble_eq_true rfl, Nat.le_of_ble_eq_true rfl⟩) ⟨bw_blind nx_call, va_recv hK (hP 0 _ rfl) (ci := 6) (q0 := 0) rfl rfl, fun U hU hW => ⟨rfl, by rw [hU], by rw [hU]; exact hP.sub [0] rfl, va_K.moved hW.alike hK, (hN.sub [0] (by decide) rfl).weaken (fun _ _ => trivial), nx_warm hW hnx⟩⟩ rfl rfl hl.1 rfl (Nat.le_of_ble_eq_true rfl) d_Mod_ring_43 ⟨Nat.le_of_ble_eq_true rfl, Nat.le_of_ble_eq_true rfl⟩) ?_
        refine lv_if_eq (tgt := 58) hx hb d_Mod_ring_46 (by decide) (fun c9 => ?_) (fun c9 => ?_)
        · have h := ite_t c9 h
          refine lv_iinc (v := (x3 + (1 : Int32))) (lv' := [(3, .int (x3 + (1 : Int32))), (0, .ref (a0 0)), (2, .int x2)]) hx hb d_Mod_ring_58 hl (k := 2) rfl rfl (by decide) rfl (fun ls hl => ?_)
          refine lv_goto (tgt := 28) hx hb d_Mod_ring_61 (by decide) ?_
          exact ih x2 (x3 + (1 : Int32)) o0 _ _ _ hP hS (lv_sub hl [1, 2, 0] rfl) h
        · have h := ite_f c9 h
          refine lv_iload_n hx hb d_Mod_ring_49 rfl (lv_at hl 1 rfl) ?_
          refine lv_if_ne (tgt := 55) hx hb d_Mod_ring_50 (by decide) (fun c10 => ?_) (fun c10 => ?_)
          · have h := ite_f c10 h
            refine lv_iinc (v := (x2 + (-1 : Int32))) (lv' := [(2, .int (x2 + (-1 : Int32))), (0, .ref (a0 0)), (3, .int x3)]) hx hb d_Mod_ring_55 hl (k := 1) rfl rfl (by decide) rfl (fun ls hl => ?_)
            refine lv_iinc (v := (x3 + (1 : Int32))) (lv' := [(3, .int (x3 + (1 : Int32))), (2, .int (x2 + (-1 : Int32))), (0, .ref (a0 0))]) hx hb d_Mod_ring_58 hl (k := 2) rfl rfl (by decide) rfl (fun ls hl => ?_)
            refine lv_goto (tgt := 28) hx hb d_Mod_ring_61 (by decide) ?_
            exact ih (x2 + (-1 : Int32)) (x3 + (1 : Int32)) o0 _ _ _ hP hS (lv_sub hl [2, 1, 0] rfl) h
          · have h := ite_t c10 h
            refine lv_iload_n hx hb d_Mod_ring_53 rfl (lv_at hl 2 rfl) ?_
            obtain ⟨rfl, rfl⟩ := res2 h
            exact W.iret hx hb hr (fun t ht hW => ⟨rfl, by rw [ht]; exact hP, hS.F ht⟩) hS.2.2 d_Mod_ring_54
set_option maxHeartbeats 4000000 in
set_option maxRecDepth 100000 in
theorem c_Mod_ring (l : Launch) (ct dC : Nat → ClassId) (dI : Nat → Nat → Nat) (a0 : Nat → Nat)  (sz : Nat) (x1 : Int32) (o0 : Ob) (r : Int32) (n0 : Ob) (hF : F_Mod_ring x1 o0 = some (r, n0)) : Met l y_Mod_ring ws_Mod_ring rm_Mod_ring (bw_Pc [.ref (a0 0), .int x1] (dC, dI) vwCl (tyA ct) [wMod ct a0 o0] sz nx) (bw_Q (dC, dI) vwCl (some (.int r)) [wMod ct a0 n0] (bw_A [adMod a0] sz)) 0 0 (bw_A [adMod a0] sz) := by
  refine Met.ofW (cc := b_Mod_ring) (maxL := 4) (ret := (some .int)) (by decide) rfl ?_
  intro p e s m args below meth c s₁ B hml hv
  obtain ⟨rfl, hsz, hP, hK, hN0, hnx⟩ := hv
  have hx := B.exec
  have hb := B.bytes
  have hr := B.returns
  have hts : ∀ w ∈ wsAll, w.before [.ref (a0 0), .int x1].toArray s = true := fun w h9 => atoms_spec (ws := ws_Mod_ring) B.pre w (List.mem_cons_of_mem _ h9)
  have hown : s.vm.findClass R_Mod = some m.cls := findClass_of_methodNamed B.named
  have hlocks := B.notSynchronized
  subst hsz
  have hN : bw_N (bw_A [adMod a0] s.heap.size) [adMod a0] := hN0.self s.heap.size
  generalize hAe : bw_A [adMod a0] s.heap.size = A at hN ⊢
  have hA : ∀ q : Nat, s.heap.size ≤ q → A q := fun q h => by rw [← hAe]; exact Or.inr h
  have hS : va_S A s.heap s.heap [] := va_S.rf
  have hl := lv_entry ([.ref (a0 0), .int x1]) (n := 4) (Nat.le_of_ble_eq_true rfl)
  rw [lg_entry_eq]
  generalize (lg_sl ([.ref (a0 0), .int x1]) ++ List.replicate (4 - (lg_sl ([.ref (a0 0), .int x1])).length) Slot.unset).toArray = ls at hl ⊢
  have hl : lv_has ls 4 [(0, .ref (a0 0)), (1, .int x1)] := hl
  have C0 : cx wsAll vwCl nx p s m [.ref (a0 0), .int x1].toArray meth c (dC, dI) (tyA ct) b_Mod_ring 4 (some .int) R_Mod A [adMod a0] := ⟨hx, hb, hr, hml, hown, hlocks, hts, hK, hN, hA, hnx⟩
  have h := hF
  rw [F_Mod_ring] at h
  refine lv_aload_n hx hb d_Mod_ring_0 rfl (lv_at hl 0 rfl) ?_
  refine lv_aload_n hx hb d_Mod_ring_1 rfl (lv_at hl 0 rfl) ?_
  refine va_get (D := (dC, dI)) (ci := 6) (v := .int (g32 o0 11 0)) (C := R_Mod) (T := T_Mod) (N := 36) hx hb hts in_Mod hown hK (hP 0 _ rfl) 0 rfl rfl 11 (by decide) (hts _ fl_Mod_166) (fun _ h9 => h9) rfl d_Mod_ring_2 ?_
  refine lv_if_ne (tgt := 12) hx hb d_Mod_ring_5 (by decide) (fun c1 => ?_) (fun c1 => ?_)
  · have h := ite_f c1 h
    refine lv_iload_n hx hb d_Mod_ring_12 rfl (lv_at hl 1 rfl) ?_
    refine lv_if_ge (tgt := 20) hx hb d_Mod_ring_13 (by decide) (fun c2 => ?_) (fun c2 => ?_)
    · have h := ite_t c2 h
      refine lv_iconst (v := 0) hx hb d_Mod_ring_20 (by decide) ?_
      refine pt_Mod_0 hx hb hts hown hK hP hN hS 0 rfl (hts _ fl_Mod_84) d_Mod_ring_21 (fun H locs hP hS => ?_)
      have hP : bw_P (dC, dI) vwCl [wMod ct a0 (s32 o0 0 0 (0 : Int32))] H := hP
      refine lv_iload_n hx hb d_Mod_ring_24 rfl (lv_at hl 1 rfl) ?_
      refine lv_istore_n (lv' := [(2, .int x1), (0, .ref (a0 0)), (1, .int x1)]) hx hb d_Mod_ring_25 rfl hl (by decide) rfl (fun ls hl => ?_)
      refine lv_iconst (v := 0) hx hb d_Mod_ring_26 (by decide) ?_
      refine lv_istore_n (lv' := [(3, .int (0 : Int32)), (2, .int x1), (0, .ref (a0 0)), (1, .int x1)]) hx hb d_Mod_ring_27 rfl hl (by decide) rfl (fun ls hl => ?_)
      exact k_Mod_ring_28 C0 fuel x1 (0 : Int32) (s32 o0 0 0 (0 : Int32)) _ _ _ hP hS (lv_sub hl [2, 1, 0] rfl) h
    · have h := ite_f c2 h
      refine lv_iconst (v := 2) hx hb d_Mod_ring_16 (by decide) ?_
      refine lv_goto (tgt := 21) hx hb d_Mod_ring_17 (by decide) ?_
      refine pt_Mod_0 hx hb hts hown hK hP hN hS 0 rfl (hts _ fl_Mod_84) d_Mod_ring_21 (fun H locs hP hS => ?_)
      have hP : bw_P (dC, dI) vwCl [wMod ct a0 (s32 o0 0 0 (2 : Int32))] H := hP
      refine lv_iload_n hx hb d_Mod_ring_24 rfl (lv_at hl 1 rfl) ?_
      refine lv_istore_n (lv' := [(2, .int x1), (0, .ref (a0 0)), (1, .int x1)]) hx hb d_Mod_ring_25 rfl hl (by decide) rfl (fun ls hl => ?_)
      refine lv_iconst (v := 0) hx hb d_Mod_ring_26 (by decide) ?_
      refine lv_istore_n (lv' := [(3, .int (0 : Int32)), (2, .int x1), (0, .ref (a0 0)), (1, .int x1)]) hx hb d_Mod_ring_27 rfl hl (by decide) rfl (fun ls hl => ?_)
      exact k_Mod_ring_28 C0 fuel x1 (0 : Int32) (s32 o0 0 0 (2 : Int32)) _ _ _ hP hS (lv_sub hl [2, 1, 0] rfl) h
  · have h := ite_t c1 h
    refine lv_iconst (v := 1) hx hb d_Mod_ring_8 (by decide) ?_
    refine lv_goto (tgt := 21) hx hb d_Mod_ring_9 (by decide) ?_
    refine pt_Mod_0 hx hb hts hown hK hP hN hS 0 rfl (hts _ fl_Mod_84) d_Mod_ring_21 (fun H locs hP hS => ?_)
    have hP : bw_P (dC, dI) vwCl [wMod ct a0 (s32 o0 0 0 (1 : Int32))] H := hP
    refine lv_iload_n hx hb d_Mod_ring_24 rfl (lv_at hl 1 rfl) ?_
    refine lv_istore_n (lv' := [(2, .int x1), (0, .ref (a0 0)), (1, .int x1)]) hx hb d_Mod_ring_25 rfl hl (by decide) rfl (fun ls hl => ?_)
    refine lv_iconst (v := 0) hx hb d_Mod_ring_26 (by decide) ?_
    refine lv_istore_n (lv' := [(3, .int (0 : Int32)), (2, .int x1), (0, .ref (a0 0)), (1, .int x1)]) hx hb d_Mod_ring_27 rfl hl (by decide) rfl (fun ls hl => ?_)
    exact k_Mod_ring_28 C0 fuel x1 (0 : Int32) (s32 o0 0 0 (1 : Int32)) _ _ _ hP hS (lv_sub hl [2, 1, 0] rfl) h
def F_Mod_condition_25  (x1 : Int32) (x2 : Int32) (y1 : Int32) (o0 : Ob) : Option (Int32 × Ob) :=
  if y1 ≤ 0 then (chk (inb (((6 : Int32) * x1) + x2) 60) (if (g32 o0 19 (Int32.toNatClampNeg (((6 : Int32) * x1) + x2))) = (1 : Int32) then (some ((g32 o0 22 (Int32.toNatClampNeg (((6 : Int32) * x1) + x2))), (s32 o0 0 0 y1))) else (some ((-1 : Int32), (s32 o0 0 0 y1))))) else (some ((0 : Int32), (s32 o0 0 0 y1)))
def F_Mod_condition (x1 : Int32) (x2 : Int32) (o0 : Ob) : Option (Int32 × Ob) :=
  if (g32 o0 12 0) = 0 then (F_Mod_condition_25 x1 x2 (1 : Int32) o0) else (bind1 (F_Mod_isCell x1 x2) (fun v3 => if (b2i v3) = 0 then (F_Mod_condition_25 x1 x2 (2 : Int32) o0) else (F_Mod_condition_25 x1 x2 (0 : Int32) o0)))
abbrev ws_Mod_condition : List Cond := Cond.code y_Mod_condition b_Mod_condition 3 (some .int) :: wsAll
abbrev rm_Mod_condition : Room := { frames := 1, cells := 0, slots := 0, locals := 21 }
set_option maxHeartbeats 4000000 in
set_option maxRecDepth 100000 in
theorem k_Mod_condition_25 {p : Program} {l : Launch} {e : Env} {s : State} {m : MethodId} {args : Array Value} {below : List Frame} {meth : Method} {c : Code} {A : Nat → Prop} {ct dC : Nat → ClassId} {dI : Nat → Nat → Nat} {a0 : Nat → Nat}  {r : Int32} {n0 : Ob}   (C0 : cx wsAll vwCl nx p s m args meth c (dC, dI) (tyA ct) b_Mod_condition 3 (some .int) R_Mod A [adMod a0])  : ∀ (x1 : Int32) (x2 : Int32) (y1 : Int32) (o0 : Ob) (H : Heap) (locs : List Loc) (ls : Array Slot), bw_P (dC, dI) vwCl [wMod ct a0 o0] H → va_S A s.heap H locs → lv_has ls 3 [(0, .ref (a0 0)), (1, .int x1), (2, .int x2)] → F_Mod_condition_25 x1 x2 y1 o0 = some (r, n0) → W p l e (headSpec ws_Mod_condition rm_Mod_condition).room s m args below meth c H locs 0 0 (MQ below (bw_Q (dC, dI) vwCl (some (.int r)) [wMod ct a0 n0] A) args s 0 0 A) (F0 m 25 ls [.int y1, .ref (a0 0)]) := by
  obtain ⟨hx, hb, hr, hml, hown, hlocks, hts, hK, hN, hA, hnx⟩ := id C0
  intro x1 x2 y1 o0 H locs ls hP hS hl h
  rw [F_Mod_condition_25] at h
  refine pt_Mod_0 hx hb hts hown hK hP hN hS 0 rfl (hts _ fl_Mod_84) d_Mod_condition_25 (fun H locs hP hS => ?_)
  have hP : bw_P (dC, dI) vwCl [wMod ct a0 (s32 o0 0 0 y1)] H := hP
  refine lv_aload_n hx hb d_Mod_condition_28 rfl (lv_at hl 0 rfl) ?_
  refine va_get (D := (dC, dI)) (ci := 6) (v := .int y1) (C := R_Mod) (T := T_Mod) (N := 36) hx hb hts in_Mod hown hK (hP 0 _ rfl) 0 rfl rfl 0 (by decide) (hts _ fl_Mod_84) (fun _ h9 => h9) rfl d_Mod_condition_29 ?_
  refine lv_if_le (tgt := 39) hx hb d_Mod_condition_32 (by decide) (fun c5 => ?_) (fun c5 => ?_)
  · have h := ite_t c5 h
    refine lv_aload_n hx hb d_Mod_condition_39 rfl (lv_at hl 0 rfl) ?_
    refine va_get (D := (dC, dI)) (ci := 6) (v := .ref (a0 13)) (C := R_Mod) (T := T_Mod) (N := 36) hx hb hts in_Mod hown hK (hP 0 _ rfl) 0 rfl rfl 19 (by decide) (hts _ fl_Mod_48) (fun _ h9 => h9) rfl d_Mod_condition_40 ?_
    refine lv_bipush (v := 6) hx hb d_Mod_condition_43 (by decide) ?_
    refine lv_iload_n hx hb d_Mod_condition_45 rfl (lv_at hl 1 rfl) ?_
    refine lv_imul hx hb d_Mod_condition_46 ?_
    refine lv_iload_n hx hb d_Mod_condition_47 rfl (lv_at hl 2 rfl) ?_
    refine lv_iadd hx hb d_Mod_condition_48 ?_
    obtain ⟨hi6, h⟩ := chk_some h
    refine va_iald (f := g32 o0 19) hx hb hK (hP 0 _ rfl) 13 0 rfl rfl (inb_in hi6) d_Mod_condition_49 ?_
    refine lv_iconst (v := 1) hx hb d_Mod_condition_50 (by decide) ?_
    refine lv_icmp_ne (tgt := 68) hx hb d_Mod_condition_51 (by decide) (fun c7 => ?_) (fun c7 => ?_)
    · have h := ite_f c7 h
      refine lv_iconst (v := -1) hx hb d_Mod_condition_68 (by decide) ?_
      obtain ⟨rfl, rfl⟩ := res2 h
      exact W.iret hx hb hr (fun t ht hW => ⟨rfl, by rw [ht]; exact hP, hS.F ht⟩) hS.2.2 d_Mod_condition_69
    · have h := ite_t c7 h
      refine lv_aload_n hx hb d_Mod_condition_54 rfl (lv_at hl 0 rfl) ?_
      refine va_get (D := (dC, dI)) (ci := 6) (v := .ref (a0 16)) (C := R_Mod) (T := T_Mod) (N := 36) hx hb hts in_Mod hown hK (hP 0 _ rfl) 0 rfl rfl 22 (by decide) (hts _ fl_Mod_57) (fun _ h9 => h9) rfl d_Mod_condition_55 ?_
      refine lv_bipush (v := 6) hx hb d_Mod_condition_58 (by decide) ?_
      refine lv_iload_n hx hb d_Mod_condition_60 rfl (lv_at hl 1 rfl) ?_
      refine lv_imul hx hb d_Mod_condition_61 ?_
      refine lv_iload_n hx hb d_Mod_condition_62 rfl (lv_at hl 2 rfl) ?_
      refine lv_iadd hx hb d_Mod_condition_63 ?_
      refine va_iald (f := g32 o0 22) hx hb hK (hP 0 _ rfl) 16 0 rfl rfl (inb_in hi6) d_Mod_condition_64 ?_
      refine lv_goto (tgt := 69) hx hb d_Mod_condition_65 (by decide) ?_
      obtain ⟨rfl, rfl⟩ := res2 h
      exact W.iret hx hb hr (fun t ht hW => ⟨rfl, by rw [ht]; exact hP, hS.F ht⟩) hS.2.2 d_Mod_condition_69
  · have h := ite_f c5 h
    refine lv_iconst (v := 0) hx hb d_Mod_condition_35 (by decide) ?_
    refine lv_goto (tgt := 69) hx hb d_Mod_condition_36 (by decide) ?_
    obtain ⟨rfl, rfl⟩ := res2 h
    exact W.iret hx hb hr (fun t ht hW => ⟨rfl, by rw [ht]; exact hP, hS.F ht⟩) hS.2.2 d_Mod_condition_69
set_option maxHeartbeats 4000000 in
set_option maxRecDepth 100000 in
theorem c_Mod_condition (l : Launch) (ct dC : Nat → ClassId) (dI : Nat → Nat → Nat) (a0 : Nat → Nat)  (sz : Nat) (x1 : Int32) (x2 : Int32) (o0 : Ob) (r : Int32) (n0 : Ob) (hF : F_Mod_condition x1 x2 o0 = some (r, n0)) : Met l y_Mod_condition ws_Mod_condition rm_Mod_condition (bw_Pc [.ref (a0 0), .int x1, .int x2] (dC, dI) vwCl (tyA ct) [wMod ct a0 o0] sz nx) (bw_Q (dC, dI) vwCl (some (.int r)) [wMod ct a0 n0] (bw_A [adMod a0] sz)) 0 0 (bw_A [adMod a0] sz) := by
  refine Met.ofW (cc := b_Mod_condition) (maxL := 3) (ret := (some .int)) (by decide) rfl ?_
  intro p e s m args below meth c s₁ B hml hv
  obtain ⟨rfl, hsz, hP, hK, hN0, hnx⟩ := hv
  have hx := B.exec
  have hb := B.bytes
  have hr := B.returns
  have hts : ∀ w ∈ wsAll, w.before [.ref (a0 0), .int x1, .int x2].toArray s = true := fun w h9 => atoms_spec (ws := ws_Mod_condition) B.pre w (List.mem_cons_of_mem _ h9)
  have hown : s.vm.findClass R_Mod = some m.cls := findClass_of_methodNamed B.named
  have hlocks := B.notSynchronized
  subst hsz
  have hN : bw_N (bw_A [adMod a0] s.heap.size) [adMod a0] := hN0.self s.heap.size
  generalize hAe : bw_A [adMod a0] s.heap.size = A at hN ⊢
  have hA : ∀ q : Nat, s.heap.size ≤ q → A q := fun q h => by rw [← hAe]; exact Or.inr h
  have hS : va_S A s.heap s.heap [] := va_S.rf
  have hl := lv_entry ([.ref (a0 0), .int x1, .int x2]) (n := 3) (Nat.le_of_ble_eq_true rfl)
  rw [lg_entry_eq]
  generalize (lg_sl ([.ref (a0 0), .int x1, .int x2]) ++ List.replicate (3 - (lg_sl ([.ref (a0 0), .int x1, .int x2])).length) Slot.unset).toArray = ls at hl ⊢
  have hl : lv_has ls 3 [(0, .ref (a0 0)), (1, .int x1), (2, .int x2)] := hl
  have C0 : cx wsAll vwCl nx p s m [.ref (a0 0), .int x1, .int x2].toArray meth c (dC, dI) (tyA ct) b_Mod_condition 3 (some .int) R_Mod A [adMod a0] := ⟨hx, hb, hr, hml, hown, hlocks, hts, hK, hN, hA, hnx⟩
  have h := hF
  rw [F_Mod_condition] at h
  refine lv_aload_n hx hb d_Mod_condition_0 rfl (lv_at hl 0 rfl) ?_
  refine lv_aload_n hx hb d_Mod_condition_1 rfl (lv_at hl 0 rfl) ?_
  refine va_get (D := (dC, dI)) (ci := 6) (v := .int (g32 o0 12 0)) (C := R_Mod) (T := T_Mod) (N := 36) hx hb hts in_Mod hown hK (hP 0 _ rfl) 0 rfl rfl 12 (by decide) (hts _ fl_Mod_170) (fun _ h9 => h9) rfl d_Mod_condition_2 ?_
  refine lv_if_ne (tgt := 12) hx hb d_Mod_condition_5 (by decide) (fun c1 => ?_) (fun c1 => ?_)
  · have h := ite_f c1 h
    refine lv_iload_n hx hb d_Mod_condition_12 rfl (lv_at hl 1 rfl) ?_
    refine lv_iload_n hx hb d_Mod_condition_13 rfl (lv_at hl 2 rfl) ?_
    obtain ⟨v3, hG2, h⟩ := bind1_some h
    refine bw_callR (va_runS (As := [.int x1, .int x2]) (rest := [.ref (a0 0)]) ⟨hx, hb, hml, hown, hts⟩ (c_Mod_isCell l ct dC dI _ x1 x2 v3 hG2) (cwS 2 hts g_Mod_239 rfl rfl rfl (by decide +kernel) ⟨Nat.le_of_ble_eq_true rfl, Nat.le_of_ble_eq_true rfl⟩) ⟨bw_blind nx_call, fun U hU hW => ⟨rfl, by rw [hU], by rw [hU]; exact hP.sub [] rfl, va_K.moved hW.alike hK, (hN.sub [] (by decide) rfl).weaken (fun _ _ => trivial), nx_warm hW hnx⟩⟩ rfl rfl hl.1 rfl (Nat.le_of_ble_eq_true rfl) d_Mod_condition_14 ⟨Nat.le_of_ble_eq_true rfl, Nat.le_of_ble_eq_true rfl⟩) ?_
    refine lv_if_eq (tgt := 24) hx hb d_Mod_condition_17 (by decide) (fun c4 => ?_) (fun c4 => ?_)
    · have h := ite_t c4 h
      refine lv_iconst (v := 2) hx hb d_Mod_condition_24 (by decide) ?_
      exact k_Mod_condition_25 C0 x1 x2 (2 : Int32) o0 _ _ _ hP hS (lv_sub hl [0, 1, 2] rfl) h
    · have h := ite_f c4 h
      refine lv_iconst (v := 0) hx hb d_Mod_condition_20 (by decide) ?_
      refine lv_goto (tgt := 25) hx hb d_Mod_condition_21 (by decide) ?_
      exact k_Mod_condition_25 C0 x1 x2 (0 : Int32) o0 _ _ _ hP hS (lv_sub hl [0, 1, 2] rfl) h
  · have h := ite_t c1 h
    refine lv_iconst (v := 1) hx hb d_Mod_condition_8 (by decide) ?_
    refine lv_goto (tgt := 25) hx hb d_Mod_condition_9 (by decide) ?_
    exact k_Mod_condition_25 C0 x1 x2 (1 : Int32) o0 _ _ _ hP hS (lv_sub hl [0, 1, 2] rfl) h
def F_Mod_line_25  (x1 : Int32) (x2 : Int32) (y1 : Int32) (o0 : Ob) : Option (Int32 × Ob) :=
  if y1 ≤ 0 then (chk (inb (((6 : Int32) * x1) + x2) 60) (some ((g32 o0 17 (Int32.toNatClampNeg (((6 : Int32) * x1) + x2))), (s32 o0 0 0 y1)))) else (some ((0 : Int32), (s32 o0 0 0 y1)))
def F_Mod_line (x1 : Int32) (x2 : Int32) (o0 : Ob) : Option (Int32 × Ob) :=
  if (g32 o0 11 0) = 0 then (F_Mod_line_25 x1 x2 (1 : Int32) o0) else (bind1 (F_Mod_isCell x1 x2) (fun v3 => if (b2i v3) = 0 then (F_Mod_line_25 x1 x2 (2 : Int32) o0) else (F_Mod_line_25 x1 x2 (0 : Int32) o0)))
abbrev ws_Mod_line : List Cond := Cond.code y_Mod_line b_Mod_line 3 (some .int) :: wsAll
abbrev rm_Mod_line : Room := { frames := 1, cells := 0, slots := 0, locals := 21 }
set_option maxHeartbeats 4000000 in
set_option maxRecDepth 100000 in
theorem k_Mod_line_25 {p : Program} {l : Launch} {e : Env} {s : State} {m : MethodId} {args : Array Value} {below : List Frame} {meth : Method} {c : Code} {A : Nat → Prop} {ct dC : Nat → ClassId} {dI : Nat → Nat → Nat} {a0 : Nat → Nat}  {r : Int32} {n0 : Ob}   (C0 : cx wsAll vwCl nx p s m args meth c (dC, dI) (tyA ct) b_Mod_line 3 (some .int) R_Mod A [adMod a0])  : ∀ (x1 : Int32) (x2 : Int32) (y1 : Int32) (o0 : Ob) (H : Heap) (locs : List Loc) (ls : Array Slot), bw_P (dC, dI) vwCl [wMod ct a0 o0] H → va_S A s.heap H locs → lv_has ls 3 [(0, .ref (a0 0)), (1, .int x1), (2, .int x2)] → F_Mod_line_25 x1 x2 y1 o0 = some (r, n0) → W p l e (headSpec ws_Mod_line rm_Mod_line).room s m args below meth c H locs 0 0 (MQ below (bw_Q (dC, dI) vwCl (some (.int r)) [wMod ct a0 n0] A) args s 0 0 A) (F0 m 25 ls [.int y1, .ref (a0 0)]) := by
  obtain ⟨hx, hb, hr, hml, hown, hlocks, hts, hK, hN, hA, hnx⟩ := id C0
  intro x1 x2 y1 o0 H locs ls hP hS hl h
  rw [F_Mod_line_25] at h
  refine pt_Mod_0 hx hb hts hown hK hP hN hS 0 rfl (hts _ fl_Mod_84) d_Mod_line_25 (fun H locs hP hS => ?_)
  have hP : bw_P (dC, dI) vwCl [wMod ct a0 (s32 o0 0 0 y1)] H := hP
  refine lv_aload_n hx hb d_Mod_line_28 rfl (lv_at hl 0 rfl) ?_
  refine va_get (D := (dC, dI)) (ci := 6) (v := .int y1) (C := R_Mod) (T := T_Mod) (N := 36) hx hb hts in_Mod hown hK (hP 0 _ rfl) 0 rfl rfl 0 (by decide) (hts _ fl_Mod_84) (fun _ h9 => h9) rfl d_Mod_line_29 ?_
  refine lv_if_le (tgt := 39) hx hb d_Mod_line_32 (by decide) (fun c5 => ?_) (fun c5 => ?_)
  · have h := ite_t c5 h
    refine lv_aload_n hx hb d_Mod_line_39 rfl (lv_at hl 0 rfl) ?_
    refine va_get (D := (dC, dI)) (ci := 6) (v := .ref (a0 11)) (C := R_Mod) (T := T_Mod) (N := 36) hx hb hts in_Mod hown hK (hP 0 _ rfl) 0 rfl rfl 17 (by decide) (hts _ fl_Mod_41) (fun _ h9 => h9) rfl d_Mod_line_40 ?_
    refine lv_bipush (v := 6) hx hb d_Mod_line_43 (by decide) ?_
    refine lv_iload_n hx hb d_Mod_line_45 rfl (lv_at hl 1 rfl) ?_
    refine lv_imul hx hb d_Mod_line_46 ?_
    refine lv_iload_n hx hb d_Mod_line_47 rfl (lv_at hl 2 rfl) ?_
    refine lv_iadd hx hb d_Mod_line_48 ?_
    obtain ⟨hi6, h⟩ := chk_some h
    refine va_iald (f := g32 o0 17) hx hb hK (hP 0 _ rfl) 11 0 rfl rfl (inb_in hi6) d_Mod_line_49 ?_
    obtain ⟨rfl, rfl⟩ := res2 h
    exact W.iret hx hb hr (fun t ht hW => ⟨rfl, by rw [ht]; exact hP, hS.F ht⟩) hS.2.2 d_Mod_line_50
  · have h := ite_f c5 h
    refine lv_iconst (v := 0) hx hb d_Mod_line_35 (by decide) ?_
    refine lv_goto (tgt := 50) hx hb d_Mod_line_36 (by decide) ?_
    obtain ⟨rfl, rfl⟩ := res2 h
    exact W.iret hx hb hr (fun t ht hW => ⟨rfl, by rw [ht]; exact hP, hS.F ht⟩) hS.2.2 d_Mod_line_50
set_option maxHeartbeats 4000000 in
set_option maxRecDepth 100000 in
theorem c_Mod_line (l : Launch) (ct dC : Nat → ClassId) (dI : Nat → Nat → Nat) (a0 : Nat → Nat)  (sz : Nat) (x1 : Int32) (x2 : Int32) (o0 : Ob) (r : Int32) (n0 : Ob) (hF : F_Mod_line x1 x2 o0 = some (r, n0)) : Met l y_Mod_line ws_Mod_line rm_Mod_line (bw_Pc [.ref (a0 0), .int x1, .int x2] (dC, dI) vwCl (tyA ct) [wMod ct a0 o0] sz nx) (bw_Q (dC, dI) vwCl (some (.int r)) [wMod ct a0 n0] (bw_A [adMod a0] sz)) 0 0 (bw_A [adMod a0] sz) := by
  refine Met.ofW (cc := b_Mod_line) (maxL := 3) (ret := (some .int)) (by decide) rfl ?_
  intro p e s m args below meth c s₁ B hml hv
  obtain ⟨rfl, hsz, hP, hK, hN0, hnx⟩ := hv
  have hx := B.exec
  have hb := B.bytes
  have hr := B.returns
  have hts : ∀ w ∈ wsAll, w.before [.ref (a0 0), .int x1, .int x2].toArray s = true := fun w h9 => atoms_spec (ws := ws_Mod_line) B.pre w (List.mem_cons_of_mem _ h9)
  have hown : s.vm.findClass R_Mod = some m.cls := findClass_of_methodNamed B.named
  have hlocks := B.notSynchronized
  subst hsz
  have hN : bw_N (bw_A [adMod a0] s.heap.size) [adMod a0] := hN0.self s.heap.size
  generalize hAe : bw_A [adMod a0] s.heap.size = A at hN ⊢
  have hA : ∀ q : Nat, s.heap.size ≤ q → A q := fun q h => by rw [← hAe]; exact Or.inr h
  have hS : va_S A s.heap s.heap [] := va_S.rf
  have hl := lv_entry ([.ref (a0 0), .int x1, .int x2]) (n := 3) (Nat.le_of_ble_eq_true rfl)
  rw [lg_entry_eq]
  generalize (lg_sl ([.ref (a0 0), .int x1, .int x2]) ++ List.replicate (3 - (lg_sl ([.ref (a0 0), .int x1, .int x2])).length) Slot.unset).toArray = ls at hl ⊢
  have hl : lv_has ls 3 [(0, .ref (a0 0)), (1, .int x1), (2, .int x2)] := hl
  have C0 : cx wsAll vwCl nx p s m [.ref (a0 0), .int x1, .int x2].toArray meth c (dC, dI) (tyA ct) b_Mod_line 3 (some .int) R_Mod A [adMod a0] := ⟨hx, hb, hr, hml, hown, hlocks, hts, hK, hN, hA, hnx⟩
  have h := hF
  rw [F_Mod_line] at h
  refine lv_aload_n hx hb d_Mod_line_0 rfl (lv_at hl 0 rfl) ?_
  refine lv_aload_n hx hb d_Mod_line_1 rfl (lv_at hl 0 rfl) ?_
  refine va_get (D := (dC, dI)) (ci := 6) (v := .int (g32 o0 11 0)) (C := R_Mod) (T := T_Mod) (N := 36) hx hb hts in_Mod hown hK (hP 0 _ rfl) 0 rfl rfl 11 (by decide) (hts _ fl_Mod_166) (fun _ h9 => h9) rfl d_Mod_line_2 ?_
  refine lv_if_ne (tgt := 12) hx hb d_Mod_line_5 (by decide) (fun c1 => ?_) (fun c1 => ?_)
  · have h := ite_f c1 h
    refine lv_iload_n hx hb d_Mod_line_12 rfl (lv_at hl 1 rfl) ?_
    refine lv_iload_n hx hb d_Mod_line_13 rfl (lv_at hl 2 rfl) ?_
    obtain ⟨v3, hG2, h⟩ := bind1_some h
    refine bw_callR (va_runS (As := [.int x1, .int x2]) (rest := [.ref (a0 0)]) ⟨hx, hb, hml, hown, hts⟩ (c_Mod_isCell l ct dC dI _ x1 x2 v3 hG2) (cwS 2 hts g_Mod_239 rfl rfl rfl (by decide +kernel) ⟨Nat.le_of_ble_eq_true rfl, Nat.le_of_ble_eq_true rfl⟩) ⟨bw_blind nx_call, fun U hU hW => ⟨rfl, by rw [hU], by rw [hU]; exact hP.sub [] rfl, va_K.moved hW.alike hK, (hN.sub [] (by decide) rfl).weaken (fun _ _ => trivial), nx_warm hW hnx⟩⟩ rfl rfl hl.1 rfl (Nat.le_of_ble_eq_true rfl) d_Mod_line_14 ⟨Nat.le_of_ble_eq_true rfl, Nat.le_of_ble_eq_true rfl⟩) ?_
    refine lv_if_eq (tgt := 24) hx hb d_Mod_line_17 (by decide) (fun c4 => ?_) (fun c4 => ?_)
    · have h := ite_t c4 h
      refine lv_iconst (v := 2) hx hb d_Mod_line_24 (by decide) ?_
      exact k_Mod_line_25 C0 x1 x2 (2 : Int32) o0 _ _ _ hP hS (lv_sub hl [0, 1, 2] rfl) h
    · have h := ite_f c4 h
      refine lv_iconst (v := 0) hx hb d_Mod_line_20 (by decide) ?_
      refine lv_goto (tgt := 25) hx hb d_Mod_line_21 (by decide) ?_
      exact k_Mod_line_25 C0 x1 x2 (0 : Int32) o0 _ _ _ hP hS (lv_sub hl [0, 1, 2] rfl) h
  · have h := ite_t c1 h
    refine lv_iconst (v := 1) hx hb d_Mod_line_8 (by decide) ?_
    refine lv_goto (tgt := 25) hx hb d_Mod_line_9 (by decide) ?_
    exact k_Mod_line_25 C0 x1 x2 (1 : Int32) o0 _ _ _ hP hS (lv_sub hl [0, 1, 2] rfl) h
def F_Mod_needs_47  (x1 : Int32) (x2 : Int32) (y1 : Int32) (o0 : Ob) : Option (Bool × Ob) :=
  if y1 = 0 then (chk (inb (((60 : Int32) * x1) + x2) 3600) (if (g32 o0 18 (Int32.toNatClampNeg (((60 : Int32) * x1) + x2))) = 0 then (some (false, (s32 o0 0 0 y1))) else (some (true, (s32 o0 0 0 y1))))) else (some (false, (s32 o0 0 0 y1)))
def F_Mod_needs_25  (x1 : Int32) (x2 : Int32) (y0 : Int32) (o0 : Ob) : Option (Bool × Ob) :=
  if (g32 o0 11 0) = 0 then (F_Mod_needs_47 x1 x2 (1 : Int32) o0) else (if y0 = 0 then (F_Mod_needs_47 x1 x2 (2 : Int32) o0) else (F_Mod_needs_47 x1 x2 (0 : Int32) o0))
def F_Mod_needs (x1 : Int32) (x2 : Int32) (o0 : Ob) : Option (Bool × Ob) :=
  if x1 < 0 then (F_Mod_needs_25 x1 x2 (0 : Int32) o0) else (if (60 : Int32) ≤ x1 then (F_Mod_needs_25 x1 x2 (0 : Int32) o0) else (if x2 < 0 then (F_Mod_needs_25 x1 x2 (0 : Int32) o0) else (if (60 : Int32) ≤ x2 then (F_Mod_needs_25 x1 x2 (0 : Int32) o0) else (F_Mod_needs_25 x1 x2 (1 : Int32) o0))))
abbrev ws_Mod_needs : List Cond := Cond.code y_Mod_needs b_Mod_needs 4 (some .boolean) :: wsAll
abbrev rm_Mod_needs : Room := { frames := 0, cells := 0, slots := 0, locals := 0 }
set_option maxHeartbeats 4000000 in
set_option maxRecDepth 100000 in
theorem k_Mod_needs_47 {p : Program} {l : Launch} {e : Env} {s : State} {m : MethodId} {args : Array Value} {below : List Frame} {meth : Method} {c : Code} {A : Nat → Prop} {ct dC : Nat → ClassId} {dI : Nat → Nat → Nat} {a0 : Nat → Nat}  {r : Bool} {n0 : Ob}   (C0 : cx wsAll vwCl nx p s m args meth c (dC, dI) (tyA ct) b_Mod_needs 4 (some .boolean) R_Mod A [adMod a0])  : ∀ (x1 : Int32) (x2 : Int32) (y1 : Int32) (o0 : Ob) (H : Heap) (locs : List Loc) (ls : Array Slot), bw_P (dC, dI) vwCl [wMod ct a0 o0] H → va_S A s.heap H locs → lv_has ls 4 [(0, .ref (a0 0)), (1, .int x1), (2, .int x2)] → F_Mod_needs_47 x1 x2 y1 o0 = some (r, n0) → W p l e (headSpec ws_Mod_needs rm_Mod_needs).room s m args below meth c H locs 0 0 (MQ below (bw_Q (dC, dI) vwCl (some (.int (b2i r))) [wMod ct a0 n0] A) args s 0 0 A) (F0 m 47 ls [.int y1, .ref (a0 0)]) := by
  obtain ⟨hx, hb, hr, hml, hown, hlocks, hts, hK, hN, hA, hnx⟩ := id C0
  intro x1 x2 y1 o0 H locs ls hP hS hl h
  rw [F_Mod_needs_47] at h
  refine pt_Mod_0 hx hb hts hown hK hP hN hS 0 rfl (hts _ fl_Mod_84) d_Mod_needs_47 (fun H locs hP hS => ?_)
  have hP : bw_P (dC, dI) vwCl [wMod ct a0 (s32 o0 0 0 y1)] H := hP
  refine lv_aload_n hx hb d_Mod_needs_50 rfl (lv_at hl 0 rfl) ?_
  refine va_get (D := (dC, dI)) (ci := 6) (v := .int y1) (C := R_Mod) (T := T_Mod) (N := 36) hx hb hts in_Mod hown hK (hP 0 _ rfl) 0 rfl rfl 0 (by decide) (hts _ fl_Mod_84) (fun _ h9 => h9) rfl d_Mod_needs_51 ?_
  refine lv_if_ne (tgt := 75) hx hb d_Mod_needs_54 (by decide) (fun c7 => ?_) (fun c7 => ?_)
  · have h := ite_f c7 h
    refine lv_iconst (v := 0) hx hb d_Mod_needs_75 (by decide) ?_
    obtain ⟨rfl, rfl⟩ := res2 h
    exact W.zret hx hb hr rfl (fun t ht hW => ⟨rfl, by rw [ht]; exact hP, hS.F ht⟩) hS.2.2 d_Mod_needs_76
  · have h := ite_t c7 h
    refine lv_aload_n hx hb d_Mod_needs_57 rfl (lv_at hl 0 rfl) ?_
    refine va_get (D := (dC, dI)) (ci := 6) (v := .ref (a0 12)) (C := R_Mod) (T := T_Mod) (N := 36) hx hb hts in_Mod hown hK (hP 0 _ rfl) 0 rfl rfl 18 (by decide) (hts _ fl_Mod_44) (fun _ h9 => h9) rfl d_Mod_needs_58 ?_
    refine lv_bipush (v := 60) hx hb d_Mod_needs_61 (by decide) ?_
    refine lv_iload_n hx hb d_Mod_needs_63 rfl (lv_at hl 1 rfl) ?_
    refine lv_imul hx hb d_Mod_needs_64 ?_
    refine lv_iload_n hx hb d_Mod_needs_65 rfl (lv_at hl 2 rfl) ?_
    refine lv_iadd hx hb d_Mod_needs_66 ?_
    obtain ⟨hi8, h⟩ := chk_some h
    refine va_zald (f := g32 o0 18) hx hb hK (hP 0 _ rfl) 12 3 rfl rfl (inb_in hi8) d_Mod_needs_67 ?_
    refine lv_if_eq (tgt := 75) hx hb d_Mod_needs_68 (by decide) (fun c9 => ?_) (fun c9 => ?_)
    · have h := ite_t c9 h
      refine lv_iconst (v := 0) hx hb d_Mod_needs_75 (by decide) ?_
      obtain ⟨rfl, rfl⟩ := res2 h
      exact W.zret hx hb hr rfl (fun t ht hW => ⟨rfl, by rw [ht]; exact hP, hS.F ht⟩) hS.2.2 d_Mod_needs_76
    · have h := ite_f c9 h
      refine lv_iconst (v := 1) hx hb d_Mod_needs_71 (by decide) ?_
      refine lv_goto (tgt := 76) hx hb d_Mod_needs_72 (by decide) ?_
      obtain ⟨rfl, rfl⟩ := res2 h
      exact W.zret hx hb hr rfl (fun t ht hW => ⟨rfl, by rw [ht]; exact hP, hS.F ht⟩) hS.2.2 d_Mod_needs_76
set_option maxHeartbeats 4000000 in
set_option maxRecDepth 100000 in
theorem k_Mod_needs_25 {p : Program} {l : Launch} {e : Env} {s : State} {m : MethodId} {args : Array Value} {below : List Frame} {meth : Method} {c : Code} {A : Nat → Prop} {ct dC : Nat → ClassId} {dI : Nat → Nat → Nat} {a0 : Nat → Nat}  {r : Bool} {n0 : Ob}   (C0 : cx wsAll vwCl nx p s m args meth c (dC, dI) (tyA ct) b_Mod_needs 4 (some .boolean) R_Mod A [adMod a0])  : ∀ (x1 : Int32) (x2 : Int32) (y0 : Int32) (o0 : Ob) (H : Heap) (locs : List Loc) (ls : Array Slot), bw_P (dC, dI) vwCl [wMod ct a0 o0] H → va_S A s.heap H locs → lv_has ls 4 [(0, .ref (a0 0)), (1, .int x1), (2, .int x2)] → F_Mod_needs_25 x1 x2 y0 o0 = some (r, n0) → W p l e (headSpec ws_Mod_needs rm_Mod_needs).room s m args below meth c H locs 0 0 (MQ below (bw_Q (dC, dI) vwCl (some (.int (b2i r))) [wMod ct a0 n0] A) args s 0 0 A) (F0 m 25 ls [.int y0]) := by
  obtain ⟨hx, hb, hr, hml, hown, hlocks, hts, hK, hN, hA, hnx⟩ := id C0
  intro x1 x2 y0 o0 H locs ls hP hS hl h
  rw [F_Mod_needs_25] at h
  refine lv_istore_n (lv' := [(3, .int y0), (0, .ref (a0 0)), (1, .int x1), (2, .int x2)]) hx hb d_Mod_needs_25 rfl hl (by decide) rfl (fun ls hl => ?_)
  refine lv_aload_n hx hb d_Mod_needs_26 rfl (lv_at hl 1 rfl) ?_
  refine lv_aload_n hx hb d_Mod_needs_27 rfl (lv_at hl 1 rfl) ?_
  refine va_get (D := (dC, dI)) (ci := 6) (v := .int (g32 o0 11 0)) (C := R_Mod) (T := T_Mod) (N := 36) hx hb hts in_Mod hown hK (hP 0 _ rfl) 0 rfl rfl 11 (by decide) (hts _ fl_Mod_166) (fun _ h9 => h9) rfl d_Mod_needs_28 ?_
  refine lv_if_ne (tgt := 38) hx hb d_Mod_needs_31 (by decide) (fun c5 => ?_) (fun c5 => ?_)
  · have h := ite_f c5 h
    refine lv_iload_n hx hb d_Mod_needs_38 rfl (lv_at hl 0 rfl) ?_
    refine lv_if_eq (tgt := 46) hx hb d_Mod_needs_39 (by decide) (fun c6 => ?_) (fun c6 => ?_)
    · have h := ite_t c6 h
      refine lv_iconst (v := 2) hx hb d_Mod_needs_46 (by decide) ?_
      exact k_Mod_needs_47 C0 x1 x2 (2 : Int32) o0 _ _ _ hP hS (lv_sub hl [1, 2, 3] rfl) h
    · have h := ite_f c6 h
      refine lv_iconst (v := 0) hx hb d_Mod_needs_42 (by decide) ?_
      refine lv_goto (tgt := 47) hx hb d_Mod_needs_43 (by decide) ?_
      exact k_Mod_needs_47 C0 x1 x2 (0 : Int32) o0 _ _ _ hP hS (lv_sub hl [1, 2, 3] rfl) h
  · have h := ite_t c5 h
    refine lv_iconst (v := 1) hx hb d_Mod_needs_34 (by decide) ?_
    refine lv_goto (tgt := 47) hx hb d_Mod_needs_35 (by decide) ?_
    exact k_Mod_needs_47 C0 x1 x2 (1 : Int32) o0 _ _ _ hP hS (lv_sub hl [1, 2, 3] rfl) h
set_option maxHeartbeats 4000000 in
set_option maxRecDepth 100000 in
theorem c_Mod_needs (l : Launch) (ct dC : Nat → ClassId) (dI : Nat → Nat → Nat) (a0 : Nat → Nat)  (sz : Nat) (x1 : Int32) (x2 : Int32) (o0 : Ob) (r : Bool) (n0 : Ob) (hF : F_Mod_needs x1 x2 o0 = some (r, n0)) : Met l y_Mod_needs ws_Mod_needs rm_Mod_needs (bw_Pc [.ref (a0 0), .int x1, .int x2] (dC, dI) vwCl (tyA ct) [wMod ct a0 o0] sz nx) (bw_Q (dC, dI) vwCl (some (.int (b2i r))) [wMod ct a0 n0] (bw_A [adMod a0] sz)) 0 0 (bw_A [adMod a0] sz) := by
  refine Met.ofW (cc := b_Mod_needs) (maxL := 4) (ret := (some .boolean)) (by decide) rfl ?_
  intro p e s m args below meth c s₁ B hml hv
  obtain ⟨rfl, hsz, hP, hK, hN0, hnx⟩ := hv
  have hx := B.exec
  have hb := B.bytes
  have hr := B.returns
  have hts : ∀ w ∈ wsAll, w.before [.ref (a0 0), .int x1, .int x2].toArray s = true := fun w h9 => atoms_spec (ws := ws_Mod_needs) B.pre w (List.mem_cons_of_mem _ h9)
  have hown : s.vm.findClass R_Mod = some m.cls := findClass_of_methodNamed B.named
  have hlocks := B.notSynchronized
  subst hsz
  have hN : bw_N (bw_A [adMod a0] s.heap.size) [adMod a0] := hN0.self s.heap.size
  generalize hAe : bw_A [adMod a0] s.heap.size = A at hN ⊢
  have hA : ∀ q : Nat, s.heap.size ≤ q → A q := fun q h => by rw [← hAe]; exact Or.inr h
  have hS : va_S A s.heap s.heap [] := va_S.rf
  have hl := lv_entry ([.ref (a0 0), .int x1, .int x2]) (n := 4) (Nat.le_of_ble_eq_true rfl)
  rw [lg_entry_eq]
  generalize (lg_sl ([.ref (a0 0), .int x1, .int x2]) ++ List.replicate (4 - (lg_sl ([.ref (a0 0), .int x1, .int x2])).length) Slot.unset).toArray = ls at hl ⊢
  have hl : lv_has ls 4 [(0, .ref (a0 0)), (1, .int x1), (2, .int x2)] := hl
  have C0 : cx wsAll vwCl nx p s m [.ref (a0 0), .int x1, .int x2].toArray meth c (dC, dI) (tyA ct) b_Mod_needs 4 (some .boolean) R_Mod A [adMod a0] := ⟨hx, hb, hr, hml, hown, hlocks, hts, hK, hN, hA, hnx⟩
  have h := hF
  rw [F_Mod_needs] at h
  refine lv_iload_n hx hb d_Mod_needs_0 rfl (lv_at hl 1 rfl) ?_
  refine lv_if_lt (tgt := 24) hx hb d_Mod_needs_1 (by decide) (fun c1 => ?_) (fun c1 => ?_)
  · have h := ite_t c1 h
    refine lv_iconst (v := 0) hx hb d_Mod_needs_24 (by decide) ?_
    exact k_Mod_needs_25 C0 x1 x2 (0 : Int32) o0 _ _ _ hP hS (lv_sub hl [0, 1, 2] rfl) h
  · have h := ite_f c1 h
    refine lv_iload_n hx hb d_Mod_needs_4 rfl (lv_at hl 1 rfl) ?_
    refine lv_bipush (v := 60) hx hb d_Mod_needs_5 (by decide) ?_
    refine lv_icmp_ge (tgt := 24) hx hb d_Mod_needs_7 (by decide) (fun c2 => ?_) (fun c2 => ?_)
    · have h := ite_t c2 h
      refine lv_iconst (v := 0) hx hb d_Mod_needs_24 (by decide) ?_
      exact k_Mod_needs_25 C0 x1 x2 (0 : Int32) o0 _ _ _ hP hS (lv_sub hl [0, 1, 2] rfl) h
    · have h := ite_f c2 h
      refine lv_iload_n hx hb d_Mod_needs_10 rfl (lv_at hl 2 rfl) ?_
      refine lv_if_lt (tgt := 24) hx hb d_Mod_needs_11 (by decide) (fun c3 => ?_) (fun c3 => ?_)
      · have h := ite_t c3 h
        refine lv_iconst (v := 0) hx hb d_Mod_needs_24 (by decide) ?_
        exact k_Mod_needs_25 C0 x1 x2 (0 : Int32) o0 _ _ _ hP hS (lv_sub hl [0, 1, 2] rfl) h
      · have h := ite_f c3 h
        refine lv_iload_n hx hb d_Mod_needs_14 rfl (lv_at hl 2 rfl) ?_
        refine lv_bipush (v := 60) hx hb d_Mod_needs_15 (by decide) ?_
        refine lv_icmp_ge (tgt := 24) hx hb d_Mod_needs_17 (by decide) (fun c4 => ?_) (fun c4 => ?_)
        · have h := ite_t c4 h
          refine lv_iconst (v := 0) hx hb d_Mod_needs_24 (by decide) ?_
          exact k_Mod_needs_25 C0 x1 x2 (0 : Int32) o0 _ _ _ hP hS (lv_sub hl [0, 1, 2] rfl) h
        · have h := ite_f c4 h
          refine lv_iconst (v := 1) hx hb d_Mod_needs_20 (by decide) ?_
          refine lv_goto (tgt := 25) hx hb d_Mod_needs_21 (by decide) ?_
          exact k_Mod_needs_25 C0 x1 x2 (1 : Int32) o0 _ _ _ hP hS (lv_sub hl [0, 1, 2] rfl) h
def F_Mod_broken (x1 : Int32) (o0 : Ob) : Option (Int32 × Ob) :=
  chk (inb x1 50) (chk (inb (x1 + (1 : Int32)) 50) (bind2 (F_Mod_reckon (g32 o0 9 (Int32.toNatClampNeg x1)) (g32 o0 9 (Int32.toNatClampNeg (x1 + (1 : Int32)))) o0) (fun v4 o_5 => if (g32 o_5 31 0) ≤ 0 then (chk (inb v4 1000) (bind1 (F_Mod_compares (g32 o_5 6 (Int32.toNatClampNeg v4)) o_5) (fun v9 => if (b2i v9) = 0 then (some ((1 : Int32), o_5)) else (some ((0 : Int32), o_5))))) else (some ((g32 o_5 31 0), o_5)))))
abbrev ws_Mod_broken : List Cond := Cond.code y_Mod_broken b_Mod_broken 3 (some .int) :: wsAll
abbrev rm_Mod_broken : Room := { frames := 4, cells := 0, slots := 0, locals := 114 }
set_option maxHeartbeats 4000000 in
set_option maxRecDepth 100000 in
theorem c_Mod_broken (l : Launch) (ct dC : Nat → ClassId) (dI : Nat → Nat → Nat) (a0 : Nat → Nat)  (sz : Nat) (x1 : Int32) (o0 : Ob) (r : Int32) (n0 : Ob) (hF : F_Mod_broken x1 o0 = some (r, n0)) : Met l y_Mod_broken ws_Mod_broken rm_Mod_broken (bw_Pc [.ref (a0 0), .int x1] (dC, dI) vwCl (tyA ct) [wMod ct a0 o0] sz nx) (bw_Q (dC, dI) vwCl (some (.int r)) [wMod ct a0 n0] (bw_A [adMod a0] sz)) 0 0 (bw_A [adMod a0] sz) := by
  refine Met.ofW (cc := b_Mod_broken) (maxL := 3) (ret := (some .int)) (by decide) rfl ?_
  intro p e s m args below meth c s₁ B hml hv
  obtain ⟨rfl, hsz, hP, hK, hN0, hnx⟩ := hv
  have hx := B.exec
  have hb := B.bytes
  have hr := B.returns
  have hts : ∀ w ∈ wsAll, w.before [.ref (a0 0), .int x1].toArray s = true := fun w h9 => atoms_spec (ws := ws_Mod_broken) B.pre w (List.mem_cons_of_mem _ h9)
  have hown : s.vm.findClass R_Mod = some m.cls := findClass_of_methodNamed B.named
  have hlocks := B.notSynchronized
  subst hsz
  have hN : bw_N (bw_A [adMod a0] s.heap.size) [adMod a0] := hN0.self s.heap.size
  generalize hAe : bw_A [adMod a0] s.heap.size = A at hN ⊢
  have hA : ∀ q : Nat, s.heap.size ≤ q → A q := fun q h => by rw [← hAe]; exact Or.inr h
  have hS : va_S A s.heap s.heap [] := va_S.rf
  have hl := lv_entry ([.ref (a0 0), .int x1]) (n := 3) (Nat.le_of_ble_eq_true rfl)
  rw [lg_entry_eq]
  generalize (lg_sl ([.ref (a0 0), .int x1]) ++ List.replicate (3 - (lg_sl ([.ref (a0 0), .int x1])).length) Slot.unset).toArray = ls at hl ⊢
  have hl : lv_has ls 3 [(0, .ref (a0 0)), (1, .int x1)] := hl
  have C0 : cx wsAll vwCl nx p s m [.ref (a0 0), .int x1].toArray meth c (dC, dI) (tyA ct) b_Mod_broken 3 (some .int) R_Mod A [adMod a0] := ⟨hx, hb, hr, hml, hown, hlocks, hts, hK, hN, hA, hnx⟩
  have h := hF
  rw [F_Mod_broken] at h
  refine lv_aload_n hx hb d_Mod_broken_0 rfl (lv_at hl 0 rfl) ?_
  refine lv_aload_n hx hb d_Mod_broken_1 rfl (lv_at hl 0 rfl) ?_
  refine va_get (D := (dC, dI)) (ci := 6) (v := .ref (a0 6)) (C := R_Mod) (T := T_Mod) (N := 36) hx hb hts in_Mod hown hK (hP 0 _ rfl) 0 rfl rfl 9 (by decide) (hts _ fl_Mod_25) (fun _ h9 => h9) rfl d_Mod_broken_2 ?_
  refine lv_iload_n hx hb d_Mod_broken_5 rfl (lv_at hl 1 rfl) ?_
  obtain ⟨hi1, h⟩ := chk_some h
  refine va_iald (f := g32 o0 9) hx hb hK (hP 0 _ rfl) 6 0 rfl rfl (inb_in hi1) d_Mod_broken_6 ?_
  refine lv_aload_n hx hb d_Mod_broken_7 rfl (lv_at hl 0 rfl) ?_
  refine va_get (D := (dC, dI)) (ci := 6) (v := .ref (a0 6)) (C := R_Mod) (T := T_Mod) (N := 36) hx hb hts in_Mod hown hK (hP 0 _ rfl) 0 rfl rfl 9 (by decide) (hts _ fl_Mod_25) (fun _ h9 => h9) rfl d_Mod_broken_8 ?_
  refine lv_iload_n hx hb d_Mod_broken_11 rfl (lv_at hl 1 rfl) ?_
  refine lv_iconst (v := 1) hx hb d_Mod_broken_12 (by decide) ?_
  refine lv_iadd hx hb d_Mod_broken_13 ?_
  obtain ⟨hi2, h⟩ := chk_some h
  refine va_iald (f := g32 o0 9) hx hb hK (hP 0 _ rfl) 6 0 rfl rfl (inb_in hi2) d_Mod_broken_14 ?_
  obtain ⟨v4, o_5, hG3, h⟩ := bind2_some h
  refine bw_call (Lc := [wMod ct a0 o0]) (Lc' := [wMod ct a0 o_5]) (L' := [wMod ct a0 o_5]) [0] (va_runV (As := [.int (g32 o0 9 (Int32.toNatClampNeg x1)), .int (g32 o0 9 (Int32.toNatClampNeg (x1 + (1 : Int32))))]) (rest := []) ⟨hx, hb, hml, hown, hts⟩ (c_Mod_reckon l ct dC dI a0 _ (g32 o0 9 (Int32.toNatClampNeg x1)) (g32 o0 9 (Int32.toNatClampNeg (x1 + (1 : Int32)))) o0 v4 o_5 hG3) (cwV 2 hts g_Mod_213 rfl rfl rfl (by decide +kernel) ⟨Nat.le_of_ble_eq_true rfl, Nat.le_of_ble_eq_true rfl⟩) ⟨bw_blind nx_call, va_recv hK (hP 0 _ rfl) (ci := 6) (q0 := 0) rfl rfl, fun U hU hW => ⟨rfl, by rw [hU], by rw [hU]; exact hP.sub [0] rfl, va_K.moved hW.alike hK, (hN.sub [0] (by decide) rfl).weaken (fun _ _ => trivial), nx_warm hW hnx⟩⟩ rfl rfl hl.1 rfl (Nat.le_of_ble_eq_true rfl) d_Mod_broken_15 ⟨Nat.le_of_ble_eq_true rfl, Nat.le_of_ble_eq_true rfl⟩) hP hN hS hA rfl rfl rfl (fun H locs hP hS => ?_)
  refine lv_istore_n (lv' := [(2, .int v4), (0, .ref (a0 0)), (1, .int x1)]) hx hb d_Mod_broken_18 rfl hl (by decide) rfl (fun ls hl => ?_)
  refine lv_aload_n hx hb d_Mod_broken_19 rfl (lv_at hl 1 rfl) ?_
  refine va_get (D := (dC, dI)) (ci := 6) (v := .int (g32 o_5 31 0)) (C := R_Mod) (T := T_Mod) (N := 36) hx hb hts in_Mod hown hK (hP 0 _ rfl) 0 rfl rfl 31 (by decide) (hts _ fl_Mod_195) (fun _ h9 => h9) rfl d_Mod_broken_20 ?_
  refine lv_if_le (tgt := 33) hx hb d_Mod_broken_23 (by decide) (fun c6 => ?_) (fun c6 => ?_)
  · have h := ite_t c6 h
    refine lv_aload_n hx hb d_Mod_broken_33 rfl (lv_at hl 1 rfl) ?_
    refine lv_aload_n hx hb d_Mod_broken_34 rfl (lv_at hl 1 rfl) ?_
    refine va_get (D := (dC, dI)) (ci := 6) (v := .ref (a0 3)) (C := R_Mod) (T := T_Mod) (N := 36) hx hb hts in_Mod hown hK (hP 0 _ rfl) 0 rfl rfl 6 (by decide) (hts _ fl_Mod_16) (fun _ h9 => h9) rfl d_Mod_broken_35 ?_
    refine lv_iload_n hx hb d_Mod_broken_38 rfl (lv_at hl 0 rfl) ?_
    obtain ⟨hi7, h⟩ := chk_some h
    refine va_iald (f := g32 o_5 6) hx hb hK (hP 0 _ rfl) 3 0 rfl rfl (inb_in hi7) d_Mod_broken_39 ?_
    obtain ⟨v9, hG8, h⟩ := bind1_some h
    refine bw_callR (va_runV (As := [.int (g32 o_5 6 (Int32.toNatClampNeg v4))]) (rest := []) ⟨hx, hb, hml, hown, hts⟩ (c_Mod_compares l ct dC dI a0 _ (g32 o_5 6 (Int32.toNatClampNeg v4)) o_5 v9 hG8) (cwV 1 hts g_Mod_217 rfl rfl rfl (by decide +kernel) ⟨Nat.le_of_ble_eq_true rfl, Nat.le_of_ble_eq_true rfl⟩) ⟨bw_blind nx_call, va_recv hK (hP 0 _ rfl) (ci := 6) (q0 := 0) rfl rfl, fun U hU hW => ⟨rfl, by rw [hU], by rw [hU]; exact hP.sub [0] rfl, va_K.moved hW.alike hK, (hN.sub [0] (by decide) rfl).weaken (fun _ _ => trivial), nx_warm hW hnx⟩⟩ rfl rfl hl.1 rfl (Nat.le_of_ble_eq_true rfl) d_Mod_broken_40 ⟨Nat.le_of_ble_eq_true rfl, Nat.le_of_ble_eq_true rfl⟩) ?_
    refine lv_if_eq (tgt := 50) hx hb d_Mod_broken_43 (by decide) (fun c10 => ?_) (fun c10 => ?_)
    · have h := ite_t c10 h
      refine lv_iconst (v := 1) hx hb d_Mod_broken_50 (by decide) ?_
      obtain ⟨rfl, rfl⟩ := res2 h
      exact W.iret hx hb hr (fun t ht hW => ⟨rfl, by rw [ht]; exact hP, hS.F ht⟩) hS.2.2 d_Mod_broken_51
    · have h := ite_f c10 h
      refine lv_iconst (v := 0) hx hb d_Mod_broken_46 (by decide) ?_
      refine lv_goto (tgt := 51) hx hb d_Mod_broken_47 (by decide) ?_
      obtain ⟨rfl, rfl⟩ := res2 h
      exact W.iret hx hb hr (fun t ht hW => ⟨rfl, by rw [ht]; exact hP, hS.F ht⟩) hS.2.2 d_Mod_broken_51
  · have h := ite_f c6 h
    refine lv_aload_n hx hb d_Mod_broken_26 rfl (lv_at hl 1 rfl) ?_
    refine va_get (D := (dC, dI)) (ci := 6) (v := .int (g32 o_5 31 0)) (C := R_Mod) (T := T_Mod) (N := 36) hx hb hts in_Mod hown hK (hP 0 _ rfl) 0 rfl rfl 31 (by decide) (hts _ fl_Mod_195) (fun _ h9 => h9) rfl d_Mod_broken_27 ?_
    refine lv_goto (tgt := 51) hx hb d_Mod_broken_30 (by decide) ?_
    obtain ⟨rfl, rfl⟩ := res2 h
    exact W.iret hx hb hr (fun t ht hW => ⟨rfl, by rw [ht]; exact hP, hS.F ht⟩) hS.2.2 d_Mod_broken_51
