/-! HELPERS -/
abbrev b_Law_write : ByteArray := method_3_code
def y_Law_write : MethodName := ⟨R_Law, "write", "(LPartFormulas;I[J)I"⟩
abbrev b_Law_set : ByteArray := method_4_code
def y_Law_set : MethodName := ⟨R_Law, "set", "(LPartFormulas;IJJ[J)I"⟩
abbrev b_Law_run : ByteArray := method_5_code
def y_Law_run : MethodName := ⟨R_Law, "run", "(LPartFormulas;[J)I"⟩
abbrev b_Law_state : ByteArray := method_6_code
def y_Law_state : MethodName := ⟨R_Law, "state", "(LPartFormulas;II[J)I"⟩
abbrev b_Law_size : ByteArray := method_7_code
def y_Law_size : MethodName := ⟨R_Law, "size", "(LPartFormulas;III[J)I"⟩
abbrev b_Law_ring : ByteArray := method_8_code
def y_Law_ring : MethodName := ⟨R_Law, "ring", "(LPartFormulas;I[J)I"⟩
abbrev b_Law_condition : ByteArray := method_9_code
def y_Law_condition : MethodName := ⟨R_Law, "condition", "(LPartFormulas;II[J)I"⟩
abbrev b_Law_line : ByteArray := method_10_code
def y_Law_line : MethodName := ⟨R_Law, "line", "(LPartFormulas;II[J)I"⟩
abbrev b_Law_needs : ByteArray := method_11_code
def y_Law_needs : MethodName := ⟨R_Law, "needs", "(LPartFormulas;II[J)I"⟩
abbrev b_Law_limit : ByteArray := method_12_code
def y_Law_limit : MethodName := ⟨R_Law, "limit", "(LPartFormulas;II[J)I"⟩
abbrev b_Law_check : ByteArray := method_13_code
def y_Law_check : MethodName := ⟨R_Law, "check", "(LPartFormulas;I[J)I"⟩
abbrev b_Law_version : ByteArray := method_14_code
def y_Law_version : MethodName := ⟨R_Law, "version", "(LPartFormulas;[J)I"⟩
abbrev b_Law_differs : ByteArray := method_15_code
def y_Law_differs : MethodName := ⟨R_Law, "differs", "(LPartFormulas;II[J)I"⟩
abbrev b_Law_same : ByteArray := method_16_code
def y_Law_same : MethodName := ⟨R_Law, "same", "(LPartFormulas;[J)I"⟩
theorem cd_PF_write : Cond.code ⟨"PartFormulas", "write", "(I)I"⟩ prog_1_method_4_code 2 (some .int) ∈ wsAll := wa_of 601 (by decide +kernel) (by decide +kernel)
theorem ml_Law_7 : Cond.methodLink "PartFormulasLaw" 7 ⟨"PartFormulas", "write", "(I)I"⟩ ∈ wsAll := wa_of 598 (by decide +kernel) (by decide +kernel)
theorem im_PF_write : Cond.instanceMethod ⟨"PartFormulas", "write", "(I)I"⟩ ∈ wsAll := wa_of 599 (by decide +kernel) (by decide +kernel)
theorem se_PF_write : Cond.selects "PartFormulas" ⟨"PartFormulas", "write", "(I)I"⟩ ⟨"PartFormulas", "write", "(I)I"⟩ ∈ wsAll := wa_of 600 (by decide +kernel) (by decide +kernel)
theorem cl_Law_13 : Cond.classLink "PartFormulasLaw" 13 "java/lang/IllegalStateException" ∈ wsAll := wa_of 596 (by decide +kernel) (by decide +kernel)
theorem cl_Law_15 : Cond.classLink "PartFormulasLaw" 15 "java/lang/IllegalArgumentException" ∈ wsAll := wa_of 597 (by decide +kernel) (by decide +kernel)
theorem cd_PF_set : Cond.code ⟨"PartFormulas", "set", "(IJJ)Z"⟩ prog_1_method_5_code 7 (some .boolean) ∈ wsAll := wa_of 699 (by decide +kernel) (by decide +kernel)
theorem ml_Law_17 : Cond.methodLink "PartFormulasLaw" 17 ⟨"PartFormulas", "set", "(IJJ)Z"⟩ ∈ wsAll := wa_of 696 (by decide +kernel) (by decide +kernel)
theorem im_PF_set : Cond.instanceMethod ⟨"PartFormulas", "set", "(IJJ)Z"⟩ ∈ wsAll := wa_of 697 (by decide +kernel) (by decide +kernel)
theorem se_PF_set : Cond.selects "PartFormulas" ⟨"PartFormulas", "set", "(IJJ)Z"⟩ ⟨"PartFormulas", "set", "(IJJ)Z"⟩ ∈ wsAll := wa_of 698 (by decide +kernel) (by decide +kernel)
theorem cl_Law_21 : Cond.classLink "PartFormulasLaw" 21 "java/lang/IndexOutOfBoundsException" ∈ wsAll := wa_of 695 (by decide +kernel) (by decide +kernel)
theorem cd_PF_run : Cond.code ⟨"PartFormulas", "run", "()I"⟩ prog_1_method_6_code 3 (some .int) ∈ wsAll := wa_of 788 (by decide +kernel) (by decide +kernel)
theorem ml_Law_23 : Cond.methodLink "PartFormulasLaw" 23 ⟨"PartFormulas", "run", "()I"⟩ ∈ wsAll := wa_of 785 (by decide +kernel) (by decide +kernel)
theorem im_PF_run : Cond.instanceMethod ⟨"PartFormulas", "run", "()I"⟩ ∈ wsAll := wa_of 786 (by decide +kernel) (by decide +kernel)
theorem se_PF_run : Cond.selects "PartFormulas" ⟨"PartFormulas", "run", "()I"⟩ ⟨"PartFormulas", "run", "()I"⟩ ∈ wsAll := wa_of 787 (by decide +kernel) (by decide +kernel)
theorem cd_PF_state : Cond.code ⟨"PartFormulas", "state", "(II)I"⟩ prog_1_method_7_code 3 (some .int) ∈ wsAll := wa_of 800 (by decide +kernel) (by decide +kernel)
theorem ml_Law_27 : Cond.methodLink "PartFormulasLaw" 27 ⟨"PartFormulas", "state", "(II)I"⟩ ∈ wsAll := wa_of 797 (by decide +kernel) (by decide +kernel)
theorem im_PF_state : Cond.instanceMethod ⟨"PartFormulas", "state", "(II)I"⟩ ∈ wsAll := wa_of 798 (by decide +kernel) (by decide +kernel)
theorem se_PF_state : Cond.selects "PartFormulas" ⟨"PartFormulas", "state", "(II)I"⟩ ⟨"PartFormulas", "state", "(II)I"⟩ ∈ wsAll := wa_of 799 (by decide +kernel) (by decide +kernel)
theorem cd_PF_size : Cond.code ⟨"PartFormulas", "size", "(III)J"⟩ prog_1_method_8_code 5 (some .long) ∈ wsAll := wa_of 815 (by decide +kernel) (by decide +kernel)
theorem ml_Law_31 : Cond.methodLink "PartFormulasLaw" 31 ⟨"PartFormulas", "size", "(III)J"⟩ ∈ wsAll := wa_of 812 (by decide +kernel) (by decide +kernel)
theorem im_PF_size : Cond.instanceMethod ⟨"PartFormulas", "size", "(III)J"⟩ ∈ wsAll := wa_of 813 (by decide +kernel) (by decide +kernel)
theorem se_PF_size : Cond.selects "PartFormulas" ⟨"PartFormulas", "size", "(III)J"⟩ ⟨"PartFormulas", "size", "(III)J"⟩ ∈ wsAll := wa_of 814 (by decide +kernel) (by decide +kernel)
theorem cd_PF_ring : Cond.code ⟨"PartFormulas", "ring", "(I)I"⟩ prog_1_method_9_code 4 (some .int) ∈ wsAll := wa_of 827 (by decide +kernel) (by decide +kernel)
theorem ml_Law_35 : Cond.methodLink "PartFormulasLaw" 35 ⟨"PartFormulas", "ring", "(I)I"⟩ ∈ wsAll := wa_of 824 (by decide +kernel) (by decide +kernel)
theorem im_PF_ring : Cond.instanceMethod ⟨"PartFormulas", "ring", "(I)I"⟩ ∈ wsAll := wa_of 825 (by decide +kernel) (by decide +kernel)
theorem se_PF_ring : Cond.selects "PartFormulas" ⟨"PartFormulas", "ring", "(I)I"⟩ ⟨"PartFormulas", "ring", "(I)I"⟩ ∈ wsAll := wa_of 826 (by decide +kernel) (by decide +kernel)
theorem cd_PF_condition : Cond.code ⟨"PartFormulas", "condition", "(II)I"⟩ prog_1_method_10_code 3 (some .int) ∈ wsAll := wa_of 835 (by decide +kernel) (by decide +kernel)
theorem ml_Law_38 : Cond.methodLink "PartFormulasLaw" 38 ⟨"PartFormulas", "condition", "(II)I"⟩ ∈ wsAll := wa_of 832 (by decide +kernel) (by decide +kernel)
theorem im_PF_condition : Cond.instanceMethod ⟨"PartFormulas", "condition", "(II)I"⟩ ∈ wsAll := wa_of 833 (by decide +kernel) (by decide +kernel)
theorem se_PF_condition : Cond.selects "PartFormulas" ⟨"PartFormulas", "condition", "(II)I"⟩ ⟨"PartFormulas", "condition", "(II)I"⟩ ∈ wsAll := wa_of 834 (by decide +kernel) (by decide +kernel)
theorem cd_PF_line : Cond.code ⟨"PartFormulas", "line", "(II)I"⟩ prog_1_method_11_code 3 (some .int) ∈ wsAll := wa_of 842 (by decide +kernel) (by decide +kernel)
theorem ml_Law_41 : Cond.methodLink "PartFormulasLaw" 41 ⟨"PartFormulas", "line", "(II)I"⟩ ∈ wsAll := wa_of 839 (by decide +kernel) (by decide +kernel)
theorem im_PF_line : Cond.instanceMethod ⟨"PartFormulas", "line", "(II)I"⟩ ∈ wsAll := wa_of 840 (by decide +kernel) (by decide +kernel)
theorem se_PF_line : Cond.selects "PartFormulas" ⟨"PartFormulas", "line", "(II)I"⟩ ⟨"PartFormulas", "line", "(II)I"⟩ ∈ wsAll := wa_of 841 (by decide +kernel) (by decide +kernel)
theorem cd_PF_needs : Cond.code ⟨"PartFormulas", "needs", "(II)Z"⟩ prog_1_method_12_code 3 (some .boolean) ∈ wsAll := wa_of 849 (by decide +kernel) (by decide +kernel)
theorem ml_Law_44 : Cond.methodLink "PartFormulasLaw" 44 ⟨"PartFormulas", "needs", "(II)Z"⟩ ∈ wsAll := wa_of 846 (by decide +kernel) (by decide +kernel)
theorem im_PF_needs : Cond.instanceMethod ⟨"PartFormulas", "needs", "(II)Z"⟩ ∈ wsAll := wa_of 847 (by decide +kernel) (by decide +kernel)
theorem se_PF_needs : Cond.selects "PartFormulas" ⟨"PartFormulas", "needs", "(II)Z"⟩ ⟨"PartFormulas", "needs", "(II)Z"⟩ ∈ wsAll := wa_of 848 (by decide +kernel) (by decide +kernel)
theorem cd_PF_limit : Cond.code ⟨"PartFormulas", "limit", "(II)I"⟩ prog_1_method_13_code 6 (some .int) ∈ wsAll := wa_of 857 (by decide +kernel) (by decide +kernel)
theorem ml_Law_48 : Cond.methodLink "PartFormulasLaw" 48 ⟨"PartFormulas", "limit", "(II)I"⟩ ∈ wsAll := wa_of 854 (by decide +kernel) (by decide +kernel)
theorem im_PF_limit : Cond.instanceMethod ⟨"PartFormulas", "limit", "(II)I"⟩ ∈ wsAll := wa_of 855 (by decide +kernel) (by decide +kernel)
theorem se_PF_limit : Cond.selects "PartFormulas" ⟨"PartFormulas", "limit", "(II)I"⟩ ⟨"PartFormulas", "limit", "(II)I"⟩ ∈ wsAll := wa_of 856 (by decide +kernel) (by decide +kernel)
theorem cd_PF_check : Cond.code ⟨"PartFormulas", "check", "(I)I"⟩ prog_1_method_14_code 10 (some .int) ∈ wsAll := wa_of 869 (by decide +kernel) (by decide +kernel)
theorem ml_Law_51 : Cond.methodLink "PartFormulasLaw" 51 ⟨"PartFormulas", "check", "(I)I"⟩ ∈ wsAll := wa_of 866 (by decide +kernel) (by decide +kernel)
theorem im_PF_check : Cond.instanceMethod ⟨"PartFormulas", "check", "(I)I"⟩ ∈ wsAll := wa_of 867 (by decide +kernel) (by decide +kernel)
theorem se_PF_check : Cond.selects "PartFormulas" ⟨"PartFormulas", "check", "(I)I"⟩ ⟨"PartFormulas", "check", "(I)I"⟩ ∈ wsAll := wa_of 868 (by decide +kernel) (by decide +kernel)
theorem cd_PF_version : Cond.code ⟨"PartFormulas", "version", "()I"⟩ prog_1_method_15_code 1 (some .int) ∈ wsAll := wa_of 889 (by decide +kernel) (by decide +kernel)
theorem ml_Law_54 : Cond.methodLink "PartFormulasLaw" 54 ⟨"PartFormulas", "version", "()I"⟩ ∈ wsAll := wa_of 886 (by decide +kernel) (by decide +kernel)
theorem im_PF_version : Cond.instanceMethod ⟨"PartFormulas", "version", "()I"⟩ ∈ wsAll := wa_of 887 (by decide +kernel) (by decide +kernel)
theorem se_PF_version : Cond.selects "PartFormulas" ⟨"PartFormulas", "version", "()I"⟩ ⟨"PartFormulas", "version", "()I"⟩ ∈ wsAll := wa_of 888 (by decide +kernel) (by decide +kernel)
theorem cd_PF_differs : Cond.code ⟨"PartFormulas", "differs", "(II)I"⟩ prog_1_method_16_code 5 (some .int) ∈ wsAll := wa_of 897 (by decide +kernel) (by decide +kernel)
theorem ml_Law_57 : Cond.methodLink "PartFormulasLaw" 57 ⟨"PartFormulas", "differs", "(II)I"⟩ ∈ wsAll := wa_of 894 (by decide +kernel) (by decide +kernel)
theorem im_PF_differs : Cond.instanceMethod ⟨"PartFormulas", "differs", "(II)I"⟩ ∈ wsAll := wa_of 895 (by decide +kernel) (by decide +kernel)
theorem se_PF_differs : Cond.selects "PartFormulas" ⟨"PartFormulas", "differs", "(II)I"⟩ ⟨"PartFormulas", "differs", "(II)I"⟩ ∈ wsAll := wa_of 896 (by decide +kernel) (by decide +kernel)
theorem cd_PF_same : Cond.code ⟨"PartFormulas", "same", "()Z"⟩ prog_1_method_17_code 2 (some .boolean) ∈ wsAll := wa_of 908 (by decide +kernel) (by decide +kernel)
theorem ml_Law_60 : Cond.methodLink "PartFormulasLaw" 60 ⟨"PartFormulas", "same", "()Z"⟩ ∈ wsAll := wa_of 905 (by decide +kernel) (by decide +kernel)
theorem im_PF_same : Cond.instanceMethod ⟨"PartFormulas", "same", "()Z"⟩ ∈ wsAll := wa_of 906 (by decide +kernel) (by decide +kernel)
theorem se_PF_same : Cond.selects "PartFormulas" ⟨"PartFormulas", "same", "()Z"⟩ ⟨"PartFormulas", "same", "()Z"⟩ ∈ wsAll := wa_of 907 (by decide +kernel) (by decide +kernel)
theorem d_Law_check_0 : decode b_Law_check 0 = .ok (.aload_n 2, 1) := by decide +kernel
theorem d_Law_check_1 : decode b_Law_check 1 = .ok (.iconst 0, 1) := by decide +kernel
theorem d_Law_check_2 : decode b_Law_check 2 = .ok (.aload_n 0, 1) := by decide +kernel
theorem d_Law_check_3 : decode b_Law_check 3 = .ok (.iload_n 1, 1) := by decide +kernel
theorem d_Law_check_4 : decode b_Law_check 4 = .ok (.invokevirtual 51, 3) := by decide +kernel
theorem d_Law_check_7 : decode b_Law_check 7 = .ok (.i2l, 1) := by decide +kernel
theorem d_Law_check_8 : decode b_Law_check 8 = .ok (.lastore, 1) := by decide +kernel
theorem d_Law_check_9 : decode b_Law_check 9 = .ok (.goto 9, 3) := by decide +kernel
theorem d_Law_check_12 : decode b_Law_check 12 = .ok (.astore_n 3, 1) := by decide +kernel
theorem d_Law_check_13 : decode b_Law_check 13 = .ok (.iconst 1, 1) := by decide +kernel
theorem d_Law_check_14 : decode b_Law_check 14 = .ok (.ireturn, 1) := by decide +kernel
theorem d_Law_check_15 : decode b_Law_check 15 = .ok (.astore_n 3, 1) := by decide +kernel
theorem d_Law_check_16 : decode b_Law_check 16 = .ok (.iconst 2, 1) := by decide +kernel
theorem d_Law_check_17 : decode b_Law_check 17 = .ok (.ireturn, 1) := by decide +kernel
theorem d_Law_check_18 : decode b_Law_check 18 = .ok (.iconst 0, 1) := by decide +kernel
theorem d_Law_check_19 : decode b_Law_check 19 = .ok (.ireturn, 1) := by decide +kernel
theorem d_Law_condition_0 : decode b_Law_condition 0 = .ok (.aload_n 3, 1) := by decide +kernel
theorem d_Law_condition_1 : decode b_Law_condition 1 = .ok (.iconst 0, 1) := by decide +kernel
theorem d_Law_condition_2 : decode b_Law_condition 2 = .ok (.aload_n 0, 1) := by decide +kernel
theorem d_Law_condition_3 : decode b_Law_condition 3 = .ok (.iload_n 1, 1) := by decide +kernel
theorem d_Law_condition_4 : decode b_Law_condition 4 = .ok (.iload_n 2, 1) := by decide +kernel
theorem d_Law_condition_5 : decode b_Law_condition 5 = .ok (.invokevirtual 38, 3) := by decide +kernel
theorem d_Law_condition_8 : decode b_Law_condition 8 = .ok (.i2l, 1) := by decide +kernel
theorem d_Law_condition_9 : decode b_Law_condition 9 = .ok (.lastore, 1) := by decide +kernel
theorem d_Law_condition_10 : decode b_Law_condition 10 = .ok (.goto 11, 3) := by decide +kernel
theorem d_Law_condition_13 : decode b_Law_condition 13 = .ok (.astore 4, 2) := by decide +kernel
theorem d_Law_condition_15 : decode b_Law_condition 15 = .ok (.iconst 1, 1) := by decide +kernel
theorem d_Law_condition_16 : decode b_Law_condition 16 = .ok (.ireturn, 1) := by decide +kernel
theorem d_Law_condition_17 : decode b_Law_condition 17 = .ok (.astore 4, 2) := by decide +kernel
theorem d_Law_condition_19 : decode b_Law_condition 19 = .ok (.iconst 2, 1) := by decide +kernel
theorem d_Law_condition_20 : decode b_Law_condition 20 = .ok (.ireturn, 1) := by decide +kernel
theorem d_Law_condition_21 : decode b_Law_condition 21 = .ok (.iconst 0, 1) := by decide +kernel
theorem d_Law_condition_22 : decode b_Law_condition 22 = .ok (.ireturn, 1) := by decide +kernel
theorem d_Law_differs_0 : decode b_Law_differs 0 = .ok (.aload_n 3, 1) := by decide +kernel
theorem d_Law_differs_1 : decode b_Law_differs 1 = .ok (.iconst 0, 1) := by decide +kernel
theorem d_Law_differs_2 : decode b_Law_differs 2 = .ok (.aload_n 0, 1) := by decide +kernel
theorem d_Law_differs_3 : decode b_Law_differs 3 = .ok (.iload_n 1, 1) := by decide +kernel
theorem d_Law_differs_4 : decode b_Law_differs 4 = .ok (.iload_n 2, 1) := by decide +kernel
theorem d_Law_differs_5 : decode b_Law_differs 5 = .ok (.invokevirtual 57, 3) := by decide +kernel
theorem d_Law_differs_8 : decode b_Law_differs 8 = .ok (.i2l, 1) := by decide +kernel
theorem d_Law_differs_9 : decode b_Law_differs 9 = .ok (.lastore, 1) := by decide +kernel
theorem d_Law_differs_10 : decode b_Law_differs 10 = .ok (.goto 15, 3) := by decide +kernel
theorem d_Law_differs_13 : decode b_Law_differs 13 = .ok (.astore 4, 2) := by decide +kernel
theorem d_Law_differs_15 : decode b_Law_differs 15 = .ok (.iconst 1, 1) := by decide +kernel
theorem d_Law_differs_16 : decode b_Law_differs 16 = .ok (.ireturn, 1) := by decide +kernel
theorem d_Law_differs_17 : decode b_Law_differs 17 = .ok (.astore 4, 2) := by decide +kernel
theorem d_Law_differs_19 : decode b_Law_differs 19 = .ok (.iconst 2, 1) := by decide +kernel
theorem d_Law_differs_20 : decode b_Law_differs 20 = .ok (.ireturn, 1) := by decide +kernel
theorem d_Law_differs_21 : decode b_Law_differs 21 = .ok (.astore 4, 2) := by decide +kernel
theorem d_Law_differs_23 : decode b_Law_differs 23 = .ok (.iconst 3, 1) := by decide +kernel
theorem d_Law_differs_24 : decode b_Law_differs 24 = .ok (.ireturn, 1) := by decide +kernel
theorem d_Law_differs_25 : decode b_Law_differs 25 = .ok (.iconst 0, 1) := by decide +kernel
theorem d_Law_differs_26 : decode b_Law_differs 26 = .ok (.ireturn, 1) := by decide +kernel
theorem d_Law_limit_0 : decode b_Law_limit 0 = .ok (.aload_n 3, 1) := by decide +kernel
theorem d_Law_limit_1 : decode b_Law_limit 1 = .ok (.iconst 0, 1) := by decide +kernel
theorem d_Law_limit_2 : decode b_Law_limit 2 = .ok (.aload_n 0, 1) := by decide +kernel
theorem d_Law_limit_3 : decode b_Law_limit 3 = .ok (.iload_n 1, 1) := by decide +kernel
theorem d_Law_limit_4 : decode b_Law_limit 4 = .ok (.iload_n 2, 1) := by decide +kernel
theorem d_Law_limit_5 : decode b_Law_limit 5 = .ok (.invokevirtual 48, 3) := by decide +kernel
theorem d_Law_limit_8 : decode b_Law_limit 8 = .ok (.i2l, 1) := by decide +kernel
theorem d_Law_limit_9 : decode b_Law_limit 9 = .ok (.lastore, 1) := by decide +kernel
theorem d_Law_limit_10 : decode b_Law_limit 10 = .ok (.goto 11, 3) := by decide +kernel
theorem d_Law_limit_13 : decode b_Law_limit 13 = .ok (.astore 4, 2) := by decide +kernel
theorem d_Law_limit_15 : decode b_Law_limit 15 = .ok (.iconst 1, 1) := by decide +kernel
theorem d_Law_limit_16 : decode b_Law_limit 16 = .ok (.ireturn, 1) := by decide +kernel
theorem d_Law_limit_17 : decode b_Law_limit 17 = .ok (.astore 4, 2) := by decide +kernel
theorem d_Law_limit_19 : decode b_Law_limit 19 = .ok (.iconst 2, 1) := by decide +kernel
theorem d_Law_limit_20 : decode b_Law_limit 20 = .ok (.ireturn, 1) := by decide +kernel
theorem d_Law_limit_21 : decode b_Law_limit 21 = .ok (.iconst 0, 1) := by decide +kernel
theorem d_Law_limit_22 : decode b_Law_limit 22 = .ok (.ireturn, 1) := by decide +kernel
theorem d_Law_line_0 : decode b_Law_line 0 = .ok (.aload_n 3, 1) := by decide +kernel
theorem d_Law_line_1 : decode b_Law_line 1 = .ok (.iconst 0, 1) := by decide +kernel
theorem d_Law_line_2 : decode b_Law_line 2 = .ok (.aload_n 0, 1) := by decide +kernel
theorem d_Law_line_3 : decode b_Law_line 3 = .ok (.iload_n 1, 1) := by decide +kernel
theorem d_Law_line_4 : decode b_Law_line 4 = .ok (.iload_n 2, 1) := by decide +kernel
theorem d_Law_line_5 : decode b_Law_line 5 = .ok (.invokevirtual 41, 3) := by decide +kernel
theorem d_Law_line_8 : decode b_Law_line 8 = .ok (.i2l, 1) := by decide +kernel
theorem d_Law_line_9 : decode b_Law_line 9 = .ok (.lastore, 1) := by decide +kernel
theorem d_Law_line_10 : decode b_Law_line 10 = .ok (.goto 11, 3) := by decide +kernel
theorem d_Law_line_13 : decode b_Law_line 13 = .ok (.astore 4, 2) := by decide +kernel
theorem d_Law_line_15 : decode b_Law_line 15 = .ok (.iconst 1, 1) := by decide +kernel
theorem d_Law_line_16 : decode b_Law_line 16 = .ok (.ireturn, 1) := by decide +kernel
theorem d_Law_line_17 : decode b_Law_line 17 = .ok (.astore 4, 2) := by decide +kernel
theorem d_Law_line_19 : decode b_Law_line 19 = .ok (.iconst 2, 1) := by decide +kernel
theorem d_Law_line_20 : decode b_Law_line 20 = .ok (.ireturn, 1) := by decide +kernel
theorem d_Law_line_21 : decode b_Law_line 21 = .ok (.iconst 0, 1) := by decide +kernel
theorem d_Law_line_22 : decode b_Law_line 22 = .ok (.ireturn, 1) := by decide +kernel
theorem d_Law_needs_0 : decode b_Law_needs 0 = .ok (.aload_n 3, 1) := by decide +kernel
theorem d_Law_needs_1 : decode b_Law_needs 1 = .ok (.iconst 0, 1) := by decide +kernel
theorem d_Law_needs_2 : decode b_Law_needs 2 = .ok (.aload_n 0, 1) := by decide +kernel
theorem d_Law_needs_3 : decode b_Law_needs 3 = .ok (.iload_n 1, 1) := by decide +kernel
theorem d_Law_needs_4 : decode b_Law_needs 4 = .ok (.iload_n 2, 1) := by decide +kernel
theorem d_Law_needs_5 : decode b_Law_needs 5 = .ok (.invokevirtual 44, 3) := by decide +kernel
theorem d_Law_needs_8 : decode b_Law_needs 8 = .ok (.ifCond .eq 7, 3) := by decide +kernel
theorem d_Law_needs_11 : decode b_Law_needs 11 = .ok (.lconst 1, 1) := by decide +kernel
theorem d_Law_needs_12 : decode b_Law_needs 12 = .ok (.goto 4, 3) := by decide +kernel
theorem d_Law_needs_15 : decode b_Law_needs 15 = .ok (.lconst 0, 1) := by decide +kernel
theorem d_Law_needs_16 : decode b_Law_needs 16 = .ok (.lastore, 1) := by decide +kernel
theorem d_Law_needs_17 : decode b_Law_needs 17 = .ok (.goto 11, 3) := by decide +kernel
theorem d_Law_needs_20 : decode b_Law_needs 20 = .ok (.astore 4, 2) := by decide +kernel
theorem d_Law_needs_22 : decode b_Law_needs 22 = .ok (.iconst 1, 1) := by decide +kernel
theorem d_Law_needs_23 : decode b_Law_needs 23 = .ok (.ireturn, 1) := by decide +kernel
theorem d_Law_needs_24 : decode b_Law_needs 24 = .ok (.astore 4, 2) := by decide +kernel
theorem d_Law_needs_26 : decode b_Law_needs 26 = .ok (.iconst 2, 1) := by decide +kernel
theorem d_Law_needs_27 : decode b_Law_needs 27 = .ok (.ireturn, 1) := by decide +kernel
theorem d_Law_needs_28 : decode b_Law_needs 28 = .ok (.iconst 0, 1) := by decide +kernel
theorem d_Law_needs_29 : decode b_Law_needs 29 = .ok (.ireturn, 1) := by decide +kernel
theorem d_Law_ring_0 : decode b_Law_ring 0 = .ok (.aload_n 2, 1) := by decide +kernel
theorem d_Law_ring_1 : decode b_Law_ring 1 = .ok (.iconst 0, 1) := by decide +kernel
theorem d_Law_ring_2 : decode b_Law_ring 2 = .ok (.aload_n 0, 1) := by decide +kernel
theorem d_Law_ring_3 : decode b_Law_ring 3 = .ok (.iload_n 1, 1) := by decide +kernel
theorem d_Law_ring_4 : decode b_Law_ring 4 = .ok (.invokevirtual 35, 3) := by decide +kernel
theorem d_Law_ring_7 : decode b_Law_ring 7 = .ok (.i2l, 1) := by decide +kernel
theorem d_Law_ring_8 : decode b_Law_ring 8 = .ok (.lastore, 1) := by decide +kernel
theorem d_Law_ring_9 : decode b_Law_ring 9 = .ok (.goto 9, 3) := by decide +kernel
theorem d_Law_ring_12 : decode b_Law_ring 12 = .ok (.astore_n 3, 1) := by decide +kernel
theorem d_Law_ring_13 : decode b_Law_ring 13 = .ok (.iconst 1, 1) := by decide +kernel
theorem d_Law_ring_14 : decode b_Law_ring 14 = .ok (.ireturn, 1) := by decide +kernel
theorem d_Law_ring_15 : decode b_Law_ring 15 = .ok (.astore_n 3, 1) := by decide +kernel
theorem d_Law_ring_16 : decode b_Law_ring 16 = .ok (.iconst 2, 1) := by decide +kernel
theorem d_Law_ring_17 : decode b_Law_ring 17 = .ok (.ireturn, 1) := by decide +kernel
theorem d_Law_ring_18 : decode b_Law_ring 18 = .ok (.iconst 0, 1) := by decide +kernel
theorem d_Law_ring_19 : decode b_Law_ring 19 = .ok (.ireturn, 1) := by decide +kernel
theorem d_Law_run_0 : decode b_Law_run 0 = .ok (.aload_n 1, 1) := by decide +kernel
theorem d_Law_run_1 : decode b_Law_run 1 = .ok (.iconst 0, 1) := by decide +kernel
theorem d_Law_run_2 : decode b_Law_run 2 = .ok (.aload_n 0, 1) := by decide +kernel
theorem d_Law_run_3 : decode b_Law_run 3 = .ok (.invokevirtual 23, 3) := by decide +kernel
theorem d_Law_run_6 : decode b_Law_run 6 = .ok (.i2l, 1) := by decide +kernel
theorem d_Law_run_7 : decode b_Law_run 7 = .ok (.lastore, 1) := by decide +kernel
theorem d_Law_run_8 : decode b_Law_run 8 = .ok (.goto 6, 3) := by decide +kernel
theorem d_Law_run_11 : decode b_Law_run 11 = .ok (.astore_n 2, 1) := by decide +kernel
theorem d_Law_run_12 : decode b_Law_run 12 = .ok (.iconst 1, 1) := by decide +kernel
theorem d_Law_run_13 : decode b_Law_run 13 = .ok (.ireturn, 1) := by decide +kernel
theorem d_Law_run_14 : decode b_Law_run 14 = .ok (.iconst 0, 1) := by decide +kernel
theorem d_Law_run_15 : decode b_Law_run 15 = .ok (.ireturn, 1) := by decide +kernel
theorem d_Law_same_0 : decode b_Law_same 0 = .ok (.aload_n 1, 1) := by decide +kernel
theorem d_Law_same_1 : decode b_Law_same 1 = .ok (.iconst 0, 1) := by decide +kernel
theorem d_Law_same_2 : decode b_Law_same 2 = .ok (.aload_n 0, 1) := by decide +kernel
theorem d_Law_same_3 : decode b_Law_same 3 = .ok (.invokevirtual 60, 3) := by decide +kernel
theorem d_Law_same_6 : decode b_Law_same 6 = .ok (.ifCond .eq 7, 3) := by decide +kernel
theorem d_Law_same_9 : decode b_Law_same 9 = .ok (.lconst 1, 1) := by decide +kernel
theorem d_Law_same_10 : decode b_Law_same 10 = .ok (.goto 4, 3) := by decide +kernel
theorem d_Law_same_13 : decode b_Law_same 13 = .ok (.lconst 0, 1) := by decide +kernel
theorem d_Law_same_14 : decode b_Law_same 14 = .ok (.lastore, 1) := by decide +kernel
theorem d_Law_same_15 : decode b_Law_same 15 = .ok (.goto 6, 3) := by decide +kernel
theorem d_Law_same_18 : decode b_Law_same 18 = .ok (.astore_n 2, 1) := by decide +kernel
theorem d_Law_same_19 : decode b_Law_same 19 = .ok (.iconst 1, 1) := by decide +kernel
theorem d_Law_same_20 : decode b_Law_same 20 = .ok (.ireturn, 1) := by decide +kernel
theorem d_Law_same_21 : decode b_Law_same 21 = .ok (.iconst 0, 1) := by decide +kernel
theorem d_Law_same_22 : decode b_Law_same 22 = .ok (.ireturn, 1) := by decide +kernel
theorem d_Law_set_0 : decode b_Law_set 0 = .ok (.aload 6, 2) := by decide +kernel
theorem d_Law_set_2 : decode b_Law_set 2 = .ok (.iconst 0, 1) := by decide +kernel
theorem d_Law_set_3 : decode b_Law_set 3 = .ok (.aload_n 0, 1) := by decide +kernel
theorem d_Law_set_4 : decode b_Law_set 4 = .ok (.iload_n 1, 1) := by decide +kernel
theorem d_Law_set_5 : decode b_Law_set 5 = .ok (.lload_n 2, 1) := by decide +kernel
theorem d_Law_set_6 : decode b_Law_set 6 = .ok (.lload 4, 2) := by decide +kernel
theorem d_Law_set_8 : decode b_Law_set 8 = .ok (.invokevirtual 17, 3) := by decide +kernel
theorem d_Law_set_11 : decode b_Law_set 11 = .ok (.ifCond .eq 7, 3) := by decide +kernel
theorem d_Law_set_14 : decode b_Law_set 14 = .ok (.lconst 1, 1) := by decide +kernel
theorem d_Law_set_15 : decode b_Law_set 15 = .ok (.goto 4, 3) := by decide +kernel
theorem d_Law_set_18 : decode b_Law_set 18 = .ok (.lconst 0, 1) := by decide +kernel
theorem d_Law_set_19 : decode b_Law_set 19 = .ok (.lastore, 1) := by decide +kernel
theorem d_Law_set_20 : decode b_Law_set 20 = .ok (.goto 11, 3) := by decide +kernel
theorem d_Law_set_23 : decode b_Law_set 23 = .ok (.astore 7, 2) := by decide +kernel
theorem d_Law_set_25 : decode b_Law_set 25 = .ok (.iconst 1, 1) := by decide +kernel
theorem d_Law_set_26 : decode b_Law_set 26 = .ok (.ireturn, 1) := by decide +kernel
theorem d_Law_set_27 : decode b_Law_set 27 = .ok (.astore 7, 2) := by decide +kernel
theorem d_Law_set_29 : decode b_Law_set 29 = .ok (.iconst 2, 1) := by decide +kernel
theorem d_Law_set_30 : decode b_Law_set 30 = .ok (.ireturn, 1) := by decide +kernel
theorem d_Law_set_31 : decode b_Law_set 31 = .ok (.iconst 0, 1) := by decide +kernel
theorem d_Law_set_32 : decode b_Law_set 32 = .ok (.ireturn, 1) := by decide +kernel
theorem d_Law_size_0 : decode b_Law_size 0 = .ok (.aload 4, 2) := by decide +kernel
theorem d_Law_size_2 : decode b_Law_size 2 = .ok (.iconst 0, 1) := by decide +kernel
theorem d_Law_size_3 : decode b_Law_size 3 = .ok (.aload_n 0, 1) := by decide +kernel
theorem d_Law_size_4 : decode b_Law_size 4 = .ok (.iload_n 1, 1) := by decide +kernel
theorem d_Law_size_5 : decode b_Law_size 5 = .ok (.iload_n 2, 1) := by decide +kernel
theorem d_Law_size_6 : decode b_Law_size 6 = .ok (.iload_n 3, 1) := by decide +kernel
theorem d_Law_size_7 : decode b_Law_size 7 = .ok (.invokevirtual 31, 3) := by decide +kernel
theorem d_Law_size_10 : decode b_Law_size 10 = .ok (.lastore, 1) := by decide +kernel
theorem d_Law_size_11 : decode b_Law_size 11 = .ok (.goto 15, 3) := by decide +kernel
theorem d_Law_size_14 : decode b_Law_size 14 = .ok (.astore 5, 2) := by decide +kernel
theorem d_Law_size_16 : decode b_Law_size 16 = .ok (.iconst 1, 1) := by decide +kernel
theorem d_Law_size_17 : decode b_Law_size 17 = .ok (.ireturn, 1) := by decide +kernel
theorem d_Law_size_18 : decode b_Law_size 18 = .ok (.astore 5, 2) := by decide +kernel
theorem d_Law_size_20 : decode b_Law_size 20 = .ok (.iconst 2, 1) := by decide +kernel
theorem d_Law_size_21 : decode b_Law_size 21 = .ok (.ireturn, 1) := by decide +kernel
theorem d_Law_size_22 : decode b_Law_size 22 = .ok (.astore 5, 2) := by decide +kernel
theorem d_Law_size_24 : decode b_Law_size 24 = .ok (.iconst 3, 1) := by decide +kernel
theorem d_Law_size_25 : decode b_Law_size 25 = .ok (.ireturn, 1) := by decide +kernel
theorem d_Law_size_26 : decode b_Law_size 26 = .ok (.iconst 0, 1) := by decide +kernel
theorem d_Law_size_27 : decode b_Law_size 27 = .ok (.ireturn, 1) := by decide +kernel
theorem d_Law_state_0 : decode b_Law_state 0 = .ok (.aload_n 3, 1) := by decide +kernel
theorem d_Law_state_1 : decode b_Law_state 1 = .ok (.iconst 0, 1) := by decide +kernel
theorem d_Law_state_2 : decode b_Law_state 2 = .ok (.aload_n 0, 1) := by decide +kernel
theorem d_Law_state_3 : decode b_Law_state 3 = .ok (.iload_n 1, 1) := by decide +kernel
theorem d_Law_state_4 : decode b_Law_state 4 = .ok (.iload_n 2, 1) := by decide +kernel
theorem d_Law_state_5 : decode b_Law_state 5 = .ok (.invokevirtual 27, 3) := by decide +kernel
theorem d_Law_state_8 : decode b_Law_state 8 = .ok (.i2l, 1) := by decide +kernel
theorem d_Law_state_9 : decode b_Law_state 9 = .ok (.lastore, 1) := by decide +kernel
theorem d_Law_state_10 : decode b_Law_state 10 = .ok (.goto 11, 3) := by decide +kernel
theorem d_Law_state_13 : decode b_Law_state 13 = .ok (.astore 4, 2) := by decide +kernel
theorem d_Law_state_15 : decode b_Law_state 15 = .ok (.iconst 1, 1) := by decide +kernel
theorem d_Law_state_16 : decode b_Law_state 16 = .ok (.ireturn, 1) := by decide +kernel
theorem d_Law_state_17 : decode b_Law_state 17 = .ok (.astore 4, 2) := by decide +kernel
theorem d_Law_state_19 : decode b_Law_state 19 = .ok (.iconst 2, 1) := by decide +kernel
theorem d_Law_state_20 : decode b_Law_state 20 = .ok (.ireturn, 1) := by decide +kernel
theorem d_Law_state_21 : decode b_Law_state 21 = .ok (.iconst 0, 1) := by decide +kernel
theorem d_Law_state_22 : decode b_Law_state 22 = .ok (.ireturn, 1) := by decide +kernel
theorem d_Law_version_0 : decode b_Law_version 0 = .ok (.aload_n 1, 1) := by decide +kernel
theorem d_Law_version_1 : decode b_Law_version 1 = .ok (.iconst 0, 1) := by decide +kernel
theorem d_Law_version_2 : decode b_Law_version 2 = .ok (.aload_n 0, 1) := by decide +kernel
theorem d_Law_version_3 : decode b_Law_version 3 = .ok (.invokevirtual 54, 3) := by decide +kernel
theorem d_Law_version_6 : decode b_Law_version 6 = .ok (.i2l, 1) := by decide +kernel
theorem d_Law_version_7 : decode b_Law_version 7 = .ok (.lastore, 1) := by decide +kernel
theorem d_Law_version_8 : decode b_Law_version 8 = .ok (.goto 6, 3) := by decide +kernel
theorem d_Law_version_11 : decode b_Law_version 11 = .ok (.astore_n 2, 1) := by decide +kernel
theorem d_Law_version_12 : decode b_Law_version 12 = .ok (.iconst 1, 1) := by decide +kernel
theorem d_Law_version_13 : decode b_Law_version 13 = .ok (.ireturn, 1) := by decide +kernel
theorem d_Law_version_14 : decode b_Law_version 14 = .ok (.iconst 0, 1) := by decide +kernel
theorem d_Law_version_15 : decode b_Law_version 15 = .ok (.ireturn, 1) := by decide +kernel
theorem d_Law_write_0 : decode b_Law_write 0 = .ok (.aload_n 2, 1) := by decide +kernel
theorem d_Law_write_1 : decode b_Law_write 1 = .ok (.iconst 0, 1) := by decide +kernel
theorem d_Law_write_2 : decode b_Law_write 2 = .ok (.aload_n 0, 1) := by decide +kernel
theorem d_Law_write_3 : decode b_Law_write 3 = .ok (.iload_n 1, 1) := by decide +kernel
theorem d_Law_write_4 : decode b_Law_write 4 = .ok (.invokevirtual 7, 3) := by decide +kernel
theorem d_Law_write_7 : decode b_Law_write 7 = .ok (.i2l, 1) := by decide +kernel
theorem d_Law_write_8 : decode b_Law_write 8 = .ok (.lastore, 1) := by decide +kernel
theorem d_Law_write_9 : decode b_Law_write 9 = .ok (.goto 9, 3) := by decide +kernel
theorem d_Law_write_12 : decode b_Law_write 12 = .ok (.astore_n 3, 1) := by decide +kernel
theorem d_Law_write_13 : decode b_Law_write 13 = .ok (.iconst 1, 1) := by decide +kernel
theorem d_Law_write_14 : decode b_Law_write 14 = .ok (.ireturn, 1) := by decide +kernel
theorem d_Law_write_15 : decode b_Law_write 15 = .ok (.astore_n 3, 1) := by decide +kernel
theorem d_Law_write_16 : decode b_Law_write 16 = .ok (.iconst 2, 1) := by decide +kernel
theorem d_Law_write_17 : decode b_Law_write 17 = .ok (.ireturn, 1) := by decide +kernel
theorem d_Law_write_18 : decode b_Law_write 18 = .ok (.iconst 0, 1) := by decide +kernel
theorem d_Law_write_19 : decode b_Law_write 19 = .ok (.ireturn, 1) := by decide +kernel
theorem g_Law_7 : GoodIn wsAll (wsV R_Law 7 R_PF y_PF_write ws_PF_write) := gd_V ml_Law_7 im_PF_write se_PF_write ini_PF cd_PF_write
def F_Law_write (x1 : Int32) (o0 o1 o2 : Ob) : Option (Int32 × Ob) :=
  bind2 (F_PF_write x1 o0 o1) (fun k_3 v2 => if k_3 = 0 then (chk (inb (0 : Int32) 1) (some ((0 : Int32), (s64 o2 0 (Int32.toNatClampNeg (0 : Int32)) (Int32.toInt64 v2))))) else (if k_3 = 1 then (some ((1 : Int32), o2)) else (if k_3 = 2 then (some ((2 : Int32), o2)) else (none))))
abbrev ws_Law_write : List Cond := Cond.codeWith y_Law_write b_Law_write 4 (some .int) [(0, 9, 12, 13), (0, 9, 15, 15)] :: wsAll
abbrev rm_Law_write : Room := { frames := 8, cells := 1, slots := 6, locals := 141 }
set_option maxHeartbeats 4000000 in
set_option maxRecDepth 100000 in
theorem c_Law_write (l : Launch) (hl0 : l.stackTraces = false) (ct dC : Nat → ClassId) (dI : Nat → Nat → Nat) (a0 a1 a2 : Nat → Nat) (r0_0 : Nat) (r0_4 : Nat) (r0_5 : Nat) (r0_6 : Nat) (v0 : Nat → Nat) (r1_2 : Nat) (sz : Nat) (x1 : Int32) (o0 o1 o2 : Ob) (r : Int32) (n2 : Ob) (hF : F_Law_write x1 o0 o1 o2 = some (r, n2)) : Met l y_Law_write ws_Law_write rm_Law_write (bw_Pc [.ref (a0 0), .int x1, .ref (a2 0)] (dC, dI) vwCl (tyA ct) [wPF ct a0 r0_0 (a1 0) r0_4 r0_5 r0_6 v0 o0, wText ct a1 r1_2 o1, wOut ct a2 o2] sz thh) (bw_Q (dC, dI) vwCl (some (.int r)) [wPF ct a0 r0_0 (a1 0) r0_4 r0_5 r0_6 v0 o0, wText ct a1 r1_2 o1, wOut ct a2 n2] (bw_A [adPF a0, adText a1, adOut a2] sz)) 1 6 (bw_A [adPF a0, adText a1, adOut a2] sz) := by
  refine va_MetW (cc := b_Law_write) (maxL := 4) (ret := (some .int)) (hh := [(0, 9, 12, 13), (0, 9, 15, 15)]) (by decide) rfl ?_
  intro p e s m args below meth c s₁ B hml hv0
  obtain ⟨rfl, hsz, hP, hK, hN0, hnx, hth, hex9⟩ := hv0
  obtain ⟨te1, te2, htab, hte1, hte2⟩ := ct_rows2 (ct_table (hh := [(0, 9, 12, 13), (0, 9, 15, 15)]) B List.mem_cons_self)
  have hx := B.exec
  have hb := B.bytes
  have hr := B.returns
  have hts : ∀ w ∈ wsAll, w.before [.ref (a0 0), .int x1, .ref (a2 0)].toArray s = true := fun w h9 => atoms_spec (ws := ws_Law_write) B.pre w (List.mem_cons_of_mem _ h9)
  have hown : s.vm.findClass R_Law = some m.cls := findClass_of_methodNamed B.named
  have hlocks := B.notSynchronized
  subst hsz
  have hN : bw_N (bw_A [adPF a0, adText a1, adOut a2] s.heap.size) [adPF a0, adText a1, adOut a2] := hN0.self s.heap.size
  generalize hAe : bw_A [adPF a0, adText a1, adOut a2] s.heap.size = A at hN ⊢
  have hA : ∀ q : Nat, s.heap.size ≤ q → A q := fun q h => by rw [← hAe]; exact Or.inr h
  have hS : va_S A s.heap s.heap [] := va_S.rf
  have hl := lv_entry ([.ref (a0 0), .int x1, .ref (a2 0)]) (n := 4) (Nat.le_of_ble_eq_true rfl)
  rw [lg_entry_eq]
  generalize (lg_sl ([.ref (a0 0), .int x1, .ref (a2 0)]) ++ List.replicate (4 - (lg_sl ([.ref (a0 0), .int x1, .ref (a2 0)])).length) Slot.unset).toArray = ls at hl ⊢
  have hl : lv_has ls 4 [(0, .ref (a0 0)), (1, .int x1), (2, .ref (a2 0))] := hl
  have h := hF
  rw [F_Law_write] at h
  refine lv_aload_n hx hb d_Law_write_0 rfl (lv_at hl 2 rfl) ?_
  refine lv_iconst (v := 0) hx hb d_Law_write_1 (by decide) ?_
  refine lv_aload_n hx hb d_Law_write_2 rfl (lv_at hl 0 rfl) ?_
  refine lv_iload_n hx hb d_Law_write_3 rfl (lv_at hl 1 rfl) ?_
  obtain ⟨k_3, v2, hG1, h⟩ := bind2_some h
  by_cases hk7 : k_3 = 0
  · subst hk7
    have h := ite_t rfl h
    refine W.widen (k := 1) (n := 6) (by omega) (by omega) ?_
    refine bw_callR (va_runV (As := [.int x1]) (rest := [.int (0 : Int32), .ref (a2 0)]) ⟨hx, hb, hml, hown, hts⟩ (c_PF_write l ct dC dI a0 a1 r0_0 r0_4 r0_5 r0_6 v0 r1_2 _ x1 o0 o1 v2 hG1) (cwV 1 hts g_Law_7 rfl rfl rfl (by decide +kernel) ⟨Nat.le_of_ble_eq_true rfl, Nat.le_of_ble_eq_true rfl⟩) ⟨bw_blind nx_call, va_recv hK (hP 0 _ rfl) (ci := 5) (q0 := 0) rfl rfl, fun U hU hW => ⟨rfl, by rw [hU], by rw [hU]; exact hP.sub [0, 1] rfl, va_K.moved hW.alike hK, (hN.sub [0, 1] (by decide) rfl).weaken (fun _ _ => trivial), nx_warm hW hnx⟩⟩ rfl rfl hl.1 rfl (Nat.le_of_ble_eq_true rfl) d_Law_write_4 ⟨Nat.le_of_ble_eq_true rfl, Nat.le_of_ble_eq_true rfl⟩) ?_
    refine lv_i2l (v := (Int32.toInt64 v2)) hx hb d_Law_write_7 rfl ?_
    obtain ⟨hi4, h⟩ := chk_some h
    refine st_Out_0 hx hb hK hP hN hS 2 rfl (inb_in hi4) d_Law_write_8 (fun H locs hP hS => ?_)
    have hP : bw_P (dC, dI) vwCl [wPF ct a0 r0_0 (a1 0) r0_4 r0_5 r0_6 v0 o0, wText ct a1 r1_2 o1, wOut ct a2 (s64 o2 0 (Int32.toNatClampNeg (0 : Int32)) (Int32.toInt64 v2))] H := hP
    refine lv_goto (tgt := 18) hx hb d_Law_write_9 (by decide) ?_
    refine lv_iconst (v := 0) hx hb d_Law_write_18 (by decide) ?_
    obtain ⟨rfl, rfl⟩ := res2 h
    exact W.iret hx hb hr (fun t ht hW => ⟨rfl, by rw [ht]; exact hP, hS.F ht⟩) hS.2.2 d_Law_write_19
  · have h := ite_f hk7 h
    by_cases c6 : k_3 = 1
    · subst c6
      have h := ite_t rfl h
      refine bt_catV (As := [.int x1]) (rest := [.int (0 : Int32), .ref (a2 0)]) (hd := 12) (H := s.heap) ⟨hx, hb, hml, hown, hts⟩ (x_PF_write l hl0 ct dC dI a0 a1 r0_0 r0_4 r0_5 r0_6 v0 r1_2 _ x1 o0 o1 1 v2 hG1 (by decide)) (cwV 1 hts g_Law_7 rfl rfl rfl (by decide +kernel) ⟨Nat.le_of_ble_eq_true rfl, Nat.le_of_ble_eq_true rfl⟩) ⟨bw_blind thx_call, va_recv hK (hP 0 _ rfl) (ci := 5) (q0 := 0) rfl rfl, fun U hU hW => ⟨rfl, by rw [hU], by rw [hU]; exact hP.sub [0, 1] rfl, va_K.moved hW.alike hK, (hN.sub [0, 1] (by decide) rfl).weaken (fun _ _ => trivial), ⟨nx_warm hW hnx, thx_warm hW hU hth⟩⟩⟩ rfl hl.1 rfl (Nat.le_of_ble_eq_true rfl) d_Law_write_4 ⟨Nat.le_of_ble_eq_true rfl, Nat.le_of_ble_eq_true rfl⟩ (fun t9 ht9 => exX.at hex9 1 (by decide) ht9) (fun t9 ht9 => ⟨[], te1, [te2], htab, (fun _ h9 => by cases h9), ct_row hex9 (i := 1) (j := 1) (by decide) (by decide) hte1 (by decide) (by decide) (hts _ cl_Law_13) ht9, congrArg (fun q => q.2.2.1) hte1⟩) (fun x9 H9 ho9 hz9 => ?_)
      have hP := bw_P.old hP ho9
      have hS := va_S.old hS ho9 hz9
      refine lv_astore_n (lv' := [(3, .ref x9), (0, .ref (a0 0)), (1, .int x1), (2, .ref (a2 0))]) hx hb d_Law_write_12 rfl hl (by decide) rfl (fun ls hl => ?_)
      refine lv_iconst (v := 1) hx hb d_Law_write_13 (by decide) ?_
      obtain ⟨rfl, rfl⟩ := res2 h
      exact W.iret hx hb hr (fun t ht hW => ⟨rfl, by rw [ht]; exact hP, hS.F ht⟩) hS.2.2 d_Law_write_14
    · have h := ite_f c6 h
      by_cases c5 : k_3 = 2
      · subst c5
        have h := ite_t rfl h
        refine bt_catV (As := [.int x1]) (rest := [.int (0 : Int32), .ref (a2 0)]) (hd := 15) (H := s.heap) ⟨hx, hb, hml, hown, hts⟩ (x_PF_write l hl0 ct dC dI a0 a1 r0_0 r0_4 r0_5 r0_6 v0 r1_2 _ x1 o0 o1 2 v2 hG1 (by decide)) (cwV 1 hts g_Law_7 rfl rfl rfl (by decide +kernel) ⟨Nat.le_of_ble_eq_true rfl, Nat.le_of_ble_eq_true rfl⟩) ⟨bw_blind thx_call, va_recv hK (hP 0 _ rfl) (ci := 5) (q0 := 0) rfl rfl, fun U hU hW => ⟨rfl, by rw [hU], by rw [hU]; exact hP.sub [0, 1] rfl, va_K.moved hW.alike hK, (hN.sub [0, 1] (by decide) rfl).weaken (fun _ _ => trivial), ⟨nx_warm hW hnx, thx_warm hW hU hth⟩⟩⟩ rfl hl.1 rfl (Nat.le_of_ble_eq_true rfl) d_Law_write_4 ⟨Nat.le_of_ble_eq_true rfl, Nat.le_of_ble_eq_true rfl⟩ (fun t9 ht9 => exX.at hex9 2 (by decide) ht9) (fun t9 ht9 => ⟨[te1], te2, [], htab, (List.forall_mem_cons.mpr ⟨ct_row hex9 (i := 2) (j := 1) (by decide) (by decide) hte1 (by decide) (by decide) (hts _ cl_Law_13) ht9, (fun _ h9 => by cases h9)⟩), ct_row hex9 (i := 2) (j := 2) (by decide) (by decide) hte2 (by decide) (by decide) (hts _ cl_Law_15) ht9, congrArg (fun q => q.2.2.1) hte2⟩) (fun x9 H9 ho9 hz9 => ?_)
        have hP := bw_P.old hP ho9
        have hS := va_S.old hS ho9 hz9
        refine lv_astore_n (lv' := [(3, .ref x9), (0, .ref (a0 0)), (1, .int x1), (2, .ref (a2 0))]) hx hb d_Law_write_15 rfl hl (by decide) rfl (fun ls hl => ?_)
        refine lv_iconst (v := 2) hx hb d_Law_write_16 (by decide) ?_
        obtain ⟨rfl, rfl⟩ := res2 h
        exact W.iret hx hb hr (fun t ht hW => ⟨rfl, by rw [ht]; exact hP, hS.F ht⟩) hS.2.2 d_Law_write_17
      · have h := ite_f c5 h
        cases h
theorem g_Law_17 : GoodIn wsAll (wsV R_Law 17 R_PF y_PF_set ws_PF_set) := gd_V ml_Law_17 im_PF_set se_PF_set ini_PF cd_PF_set
def F_Law_set (x1 : Int32) (x2 : Int64) (x4 : Int64) (o0 o1 o2 o3 o4 o5 : Ob) : Option (Int32 × Ob × Ob × Ob × Ob) :=
  bind5 (F_PF_set x1 x2 x4 o0 o1 o2 o3 o4) (fun k_6 v2 o_3 o_4 o_5 => if k_6 = 0 then (if (b2i v2) = 0 then (chk (inb (0 : Int32) 1) (some ((0 : Int32), o_3, o_4, o_5, (s64 o5 0 (Int32.toNatClampNeg (0 : Int32)) (0 : Int64))))) else (chk (inb (0 : Int32) 1) (some ((0 : Int32), o_3, o_4, o_5, (s64 o5 0 (Int32.toNatClampNeg (0 : Int32)) (1 : Int64)))))) else (if k_6 = 3 then (some ((1 : Int32), o0, o1, o2, o5)) else (if k_6 = 2 then (some ((2 : Int32), o0, o1, o2, o5)) else (none))))
abbrev ws_Law_set : List Cond := Cond.codeWith y_Law_set b_Law_set 8 (some .int) [(0, 20, 23, 21), (0, 20, 27, 15)] :: wsAll
abbrev rm_Law_set : Room := { frames := 8, cells := 1, slots := 6, locals := 223 }
set_option maxHeartbeats 4000000 in
set_option maxRecDepth 100000 in
theorem c_Law_set (l : Launch) (hl0 : l.stackTraces = false) (ct dC : Nat → ClassId) (dI : Nat → Nat → Nat) (a0 a1 a2 a3 a4 a5 : Nat → Nat) (r0_0 : Nat) (r0_6 : Nat) (v0 : Nat → Nat) (sz : Nat) (x1 : Int32) (x2 : Int64) (x4 : Int64) (o0 o1 o2 o3 o4 o5 : Ob) (r : Int32) (n0 n1 n2 n5 : Ob) (hF : F_Law_set x1 x2 x4 o0 o1 o2 o3 o4 o5 = some (r, n0, n1, n2, n5)) : Met l y_Law_set ws_Law_set rm_Law_set (bw_Pc [.ref (a0 0), .int x1, .long x2, .long x4, .ref (a5 0)] (dC, dI) vwCl (tyA ct) [wPF ct a0 r0_0 (a3 0) (a2 0) (a1 0) r0_6 v0 o0, wCells ct a1 o1, wReckoner ct a2 o2, wText ct a3 (a4 0) o3, wSteps ct a4 o4, wOut ct a5 o5] sz thh) (bw_Q (dC, dI) vwCl (some (.int r)) [wPF ct a0 r0_0 (a3 0) (a2 0) (a1 0) r0_6 v0 n0, wCells ct a1 n1, wReckoner ct a2 n2, wText ct a3 (a4 0) o3, wSteps ct a4 o4, wOut ct a5 n5] (bw_A [adPF a0, adCells a1, adReckoner a2, adText a3, adSteps a4, adOut a5] sz)) 1 6 (bw_A [adPF a0, adCells a1, adReckoner a2, adText a3, adSteps a4, adOut a5] sz) := by
  refine va_MetW (cc := b_Law_set) (maxL := 8) (ret := (some .int)) (hh := [(0, 20, 23, 21), (0, 20, 27, 15)]) (by decide) rfl ?_
  intro p e s m args below meth c s₁ B hml hv0
  obtain ⟨rfl, hsz, hP, hK, hN0, hnx, hth, hex9⟩ := hv0
  obtain ⟨te1, te2, htab, hte1, hte2⟩ := ct_rows2 (ct_table (hh := [(0, 20, 23, 21), (0, 20, 27, 15)]) B List.mem_cons_self)
  have hx := B.exec
  have hb := B.bytes
  have hr := B.returns
  have hts : ∀ w ∈ wsAll, w.before [.ref (a0 0), .int x1, .long x2, .long x4, .ref (a5 0)].toArray s = true := fun w h9 => atoms_spec (ws := ws_Law_set) B.pre w (List.mem_cons_of_mem _ h9)
  have hown : s.vm.findClass R_Law = some m.cls := findClass_of_methodNamed B.named
  have hlocks := B.notSynchronized
  subst hsz
  have hN : bw_N (bw_A [adPF a0, adCells a1, adReckoner a2, adText a3, adSteps a4, adOut a5] s.heap.size) [adPF a0, adCells a1, adReckoner a2, adText a3, adSteps a4, adOut a5] := hN0.self s.heap.size
  generalize hAe : bw_A [adPF a0, adCells a1, adReckoner a2, adText a3, adSteps a4, adOut a5] s.heap.size = A at hN ⊢
  have hA : ∀ q : Nat, s.heap.size ≤ q → A q := fun q h => by rw [← hAe]; exact Or.inr h
  have hS : va_S A s.heap s.heap [] := va_S.rf
  have hl := lv_entry ([.ref (a0 0), .int x1, .long x2, .long x4, .ref (a5 0)]) (n := 8) (Nat.le_of_ble_eq_true rfl)
  rw [lg_entry_eq]
  generalize (lg_sl ([.ref (a0 0), .int x1, .long x2, .long x4, .ref (a5 0)]) ++ List.replicate (8 - (lg_sl ([.ref (a0 0), .int x1, .long x2, .long x4, .ref (a5 0)])).length) Slot.unset).toArray = ls at hl ⊢
  have hl : lv_has ls 8 [(0, .ref (a0 0)), (1, .int x1), (2, .long x2), (4, .long x4), (6, .ref (a5 0))] := hl
  have h := hF
  rw [F_Law_set] at h
  refine lv_aload hx hb d_Law_set_0 (lv_at hl 4 rfl) ?_
  refine lv_iconst (v := 0) hx hb d_Law_set_2 (by decide) ?_
  refine lv_aload_n hx hb d_Law_set_3 rfl (lv_at hl 0 rfl) ?_
  refine lv_iload_n hx hb d_Law_set_4 rfl (lv_at hl 1 rfl) ?_
  refine lv_lload_n hx hb d_Law_set_5 rfl (lv_at hl 2 rfl) ?_
  refine lv_lload hx hb d_Law_set_6 (lv_at hl 3 rfl) ?_
  obtain ⟨k_6, v2, o_3, o_4, o_5, hG1, h⟩ := bind5_some h
  by_cases hk12 : k_6 = 0
  · subst hk12
    have h := ite_t rfl h
    refine W.widen (k := 1) (n := 6) (by omega) (by omega) ?_
    refine bw_call (Lc := [wPF ct a0 r0_0 (a3 0) (a2 0) (a1 0) r0_6 v0 o0, wCells ct a1 o1, wReckoner ct a2 o2, wText ct a3 (a4 0) o3, wSteps ct a4 o4]) (Lc' := [wPF ct a0 r0_0 (a3 0) (a2 0) (a1 0) r0_6 v0 o_3, wCells ct a1 o_4, wReckoner ct a2 o_5, wText ct a3 (a4 0) o3, wSteps ct a4 o4]) (L' := [wPF ct a0 r0_0 (a3 0) (a2 0) (a1 0) r0_6 v0 o_3, wCells ct a1 o_4, wReckoner ct a2 o_5, wText ct a3 (a4 0) o3, wSteps ct a4 o4, wOut ct a5 o5]) [0, 1, 2, 3, 4] (va_runV (As := [.int x1, .long x2, .long x4]) (rest := [.int (0 : Int32), .ref (a5 0)]) ⟨hx, hb, hml, hown, hts⟩ (c_PF_set l ct dC dI a0 a1 a2 a3 a4 r0_0 r0_6 v0 _ x1 x2 x4 o0 o1 o2 o3 o4 v2 o_3 o_4 o_5 hG1) (cwV 3 hts g_Law_17 rfl rfl rfl (by decide +kernel) ⟨Nat.le_of_ble_eq_true rfl, Nat.le_of_ble_eq_true rfl⟩) ⟨bw_blind nx_call, va_recv hK (hP 0 _ rfl) (ci := 5) (q0 := 0) rfl rfl, fun U hU hW => ⟨rfl, by rw [hU], by rw [hU]; exact hP.sub [0, 1, 2, 3, 4] rfl, va_K.moved hW.alike hK, (hN.sub [0, 1, 2, 3, 4] (by decide) rfl).weaken (fun _ _ => trivial), nx_warm hW hnx⟩⟩ rfl rfl hl.1 rfl (Nat.le_of_ble_eq_true rfl) d_Law_set_8 ⟨Nat.le_of_ble_eq_true rfl, Nat.le_of_ble_eq_true rfl⟩) hP hN hS hA rfl rfl rfl (fun H locs hP hS => ?_)
    refine lv_if_eq (tgt := 18) hx hb d_Law_set_11 (by decide) (fun c7 => ?_) (fun c7 => ?_)
    · have h := ite_t c7 h
      refine lv_lconst (v := 0) hx hb d_Law_set_18 (by decide) ?_
      obtain ⟨hi8, h⟩ := chk_some h
      refine st_Out_0 hx hb hK hP hN hS 5 rfl (inb_in hi8) d_Law_set_19 (fun H locs hP hS => ?_)
      have hP : bw_P (dC, dI) vwCl [wPF ct a0 r0_0 (a3 0) (a2 0) (a1 0) r0_6 v0 o_3, wCells ct a1 o_4, wReckoner ct a2 o_5, wText ct a3 (a4 0) o3, wSteps ct a4 o4, wOut ct a5 (s64 o5 0 (Int32.toNatClampNeg (0 : Int32)) (0 : Int64))] H := hP
      refine lv_goto (tgt := 31) hx hb d_Law_set_20 (by decide) ?_
      refine lv_iconst (v := 0) hx hb d_Law_set_31 (by decide) ?_
      obtain ⟨rfl, rfl, rfl, rfl, rfl⟩ := res5 h
      exact W.iret hx hb hr (fun t ht hW => ⟨rfl, by rw [ht]; exact hP, hS.F ht⟩) hS.2.2 d_Law_set_32
    · have h := ite_f c7 h
      refine lv_lconst (v := 1) hx hb d_Law_set_14 (by decide) ?_
      refine lv_goto (tgt := 19) hx hb d_Law_set_15 (by decide) ?_
      obtain ⟨hi9, h⟩ := chk_some h
      refine st_Out_0 hx hb hK hP hN hS 5 rfl (inb_in hi9) d_Law_set_19 (fun H locs hP hS => ?_)
      have hP : bw_P (dC, dI) vwCl [wPF ct a0 r0_0 (a3 0) (a2 0) (a1 0) r0_6 v0 o_3, wCells ct a1 o_4, wReckoner ct a2 o_5, wText ct a3 (a4 0) o3, wSteps ct a4 o4, wOut ct a5 (s64 o5 0 (Int32.toNatClampNeg (0 : Int32)) (1 : Int64))] H := hP
      refine lv_goto (tgt := 31) hx hb d_Law_set_20 (by decide) ?_
      refine lv_iconst (v := 0) hx hb d_Law_set_31 (by decide) ?_
      obtain ⟨rfl, rfl, rfl, rfl, rfl⟩ := res5 h
      exact W.iret hx hb hr (fun t ht hW => ⟨rfl, by rw [ht]; exact hP, hS.F ht⟩) hS.2.2 d_Law_set_32
  · have h := ite_f hk12 h
    by_cases c11 : k_6 = 3
    · subst c11
      have h := ite_t rfl h
      refine bt_catV (As := [.int x1, .long x2, .long x4]) (rest := [.int (0 : Int32), .ref (a5 0)]) (hd := 23) (H := s.heap) ⟨hx, hb, hml, hown, hts⟩ (x_PF_set l hl0 ct dC dI a0 a1 a2 a3 a4 r0_0 r0_6 v0 _ x1 x2 x4 o0 o1 o2 o3 o4 3 v2 o_3 o_4 o_5 hG1 (by decide)) (cwV 3 hts g_Law_17 rfl rfl rfl (by decide +kernel) ⟨Nat.le_of_ble_eq_true rfl, Nat.le_of_ble_eq_true rfl⟩) ⟨bw_blind thx_call, va_recv hK (hP 0 _ rfl) (ci := 5) (q0 := 0) rfl rfl, fun U hU hW => ⟨rfl, by rw [hU], by rw [hU]; exact hP.sub [0, 1, 2, 3, 4] rfl, va_K.moved hW.alike hK, (hN.sub [0, 1, 2, 3, 4] (by decide) rfl).weaken (fun _ _ => trivial), ⟨nx_warm hW hnx, thx_warm hW hU hth⟩⟩⟩ rfl hl.1 rfl (Nat.le_of_ble_eq_true rfl) d_Law_set_8 ⟨Nat.le_of_ble_eq_true rfl, Nat.le_of_ble_eq_true rfl⟩ (fun t9 ht9 => exX.at hex9 3 (by decide) ht9) (fun t9 ht9 => ⟨[], te1, [te2], htab, (fun _ h9 => by cases h9), ct_row hex9 (i := 3) (j := 3) (by decide) (by decide) hte1 (by decide) (by decide) (hts _ cl_Law_21) ht9, congrArg (fun q => q.2.2.1) hte1⟩) (fun x9 H9 ho9 hz9 => ?_)
      have hP := bw_P.old hP ho9
      have hS := va_S.old hS ho9 hz9
      refine lv_astore (lv' := [(7, .ref x9), (0, .ref (a0 0)), (1, .int x1), (2, .long x2), (4, .long x4), (6, .ref (a5 0))]) hx hb d_Law_set_23 hl (by decide) rfl (fun ls hl => ?_)
      refine lv_iconst (v := 1) hx hb d_Law_set_25 (by decide) ?_
      obtain ⟨rfl, rfl, rfl, rfl, rfl⟩ := res5 h
      exact W.iret hx hb hr (fun t ht hW => ⟨rfl, by rw [ht]; exact hP, hS.F ht⟩) hS.2.2 d_Law_set_26
    · have h := ite_f c11 h
      by_cases c10 : k_6 = 2
      · subst c10
        have h := ite_t rfl h
        refine bt_catV (As := [.int x1, .long x2, .long x4]) (rest := [.int (0 : Int32), .ref (a5 0)]) (hd := 27) (H := s.heap) ⟨hx, hb, hml, hown, hts⟩ (x_PF_set l hl0 ct dC dI a0 a1 a2 a3 a4 r0_0 r0_6 v0 _ x1 x2 x4 o0 o1 o2 o3 o4 2 v2 o_3 o_4 o_5 hG1 (by decide)) (cwV 3 hts g_Law_17 rfl rfl rfl (by decide +kernel) ⟨Nat.le_of_ble_eq_true rfl, Nat.le_of_ble_eq_true rfl⟩) ⟨bw_blind thx_call, va_recv hK (hP 0 _ rfl) (ci := 5) (q0 := 0) rfl rfl, fun U hU hW => ⟨rfl, by rw [hU], by rw [hU]; exact hP.sub [0, 1, 2, 3, 4] rfl, va_K.moved hW.alike hK, (hN.sub [0, 1, 2, 3, 4] (by decide) rfl).weaken (fun _ _ => trivial), ⟨nx_warm hW hnx, thx_warm hW hU hth⟩⟩⟩ rfl hl.1 rfl (Nat.le_of_ble_eq_true rfl) d_Law_set_8 ⟨Nat.le_of_ble_eq_true rfl, Nat.le_of_ble_eq_true rfl⟩ (fun t9 ht9 => exX.at hex9 2 (by decide) ht9) (fun t9 ht9 => ⟨[te1], te2, [], htab, (List.forall_mem_cons.mpr ⟨ct_row hex9 (i := 2) (j := 3) (by decide) (by decide) hte1 (by decide) (by decide) (hts _ cl_Law_21) ht9, (fun _ h9 => by cases h9)⟩), ct_row hex9 (i := 2) (j := 2) (by decide) (by decide) hte2 (by decide) (by decide) (hts _ cl_Law_15) ht9, congrArg (fun q => q.2.2.1) hte2⟩) (fun x9 H9 ho9 hz9 => ?_)
        have hP := bw_P.old hP ho9
        have hS := va_S.old hS ho9 hz9
        refine lv_astore (lv' := [(7, .ref x9), (0, .ref (a0 0)), (1, .int x1), (2, .long x2), (4, .long x4), (6, .ref (a5 0))]) hx hb d_Law_set_27 hl (by decide) rfl (fun ls hl => ?_)
        refine lv_iconst (v := 2) hx hb d_Law_set_29 (by decide) ?_
        obtain ⟨rfl, rfl, rfl, rfl, rfl⟩ := res5 h
        exact W.iret hx hb hr (fun t ht hW => ⟨rfl, by rw [ht]; exact hP, hS.F ht⟩) hS.2.2 d_Law_set_30
      · have h := ite_f c10 h
        cases h
theorem g_Law_23 : GoodIn wsAll (wsV R_Law 23 R_PF y_PF_run ws_PF_run) := gd_V ml_Law_23 im_PF_run se_PF_run ini_PF cd_PF_run
def F_Law_run  (o0 o1 o2 o3 o4 o5 : Ob) : Option (Int32 × Ob × Ob × Ob × Ob) :=
  bind5 (F_PF_run o0 o1 o2 o3 o4) (fun k_6 v2 o_3 o_4 o_5 => if k_6 = 0 then (chk (inb (0 : Int32) 1) (some ((0 : Int32), o_3, o_4, o_5, (s64 o5 0 (Int32.toNatClampNeg (0 : Int32)) (Int32.toInt64 v2))))) else (if k_6 = 1 then (some ((1 : Int32), o0, o1, o2, o5)) else (none)))
abbrev ws_Law_run : List Cond := Cond.codeWith y_Law_run b_Law_run 3 (some .int) [(0, 8, 11, 13)] :: wsAll
abbrev rm_Law_run : Room := { frames := 8, cells := 1, slots := 6, locals := 216 }
set_option maxHeartbeats 4000000 in
set_option maxRecDepth 100000 in
theorem c_Law_run (l : Launch) (hl0 : l.stackTraces = false) (ct dC : Nat → ClassId) (dI : Nat → Nat → Nat) (a0 a1 a2 a3 a4 a5 : Nat → Nat) (r0_0 : Nat) (r0_6 : Nat) (v0 : Nat → Nat) (sz : Nat)  (o0 o1 o2 o3 o4 o5 : Ob) (r : Int32) (n0 n1 n2 n5 : Ob) (hF : F_Law_run o0 o1 o2 o3 o4 o5 = some (r, n0, n1, n2, n5)) : Met l y_Law_run ws_Law_run rm_Law_run (bw_Pc [.ref (a0 0), .ref (a5 0)] (dC, dI) vwCl (tyA ct) [wPF ct a0 r0_0 (a3 0) (a2 0) (a1 0) r0_6 v0 o0, wCells ct a1 o1, wReckoner ct a2 o2, wText ct a3 (a4 0) o3, wSteps ct a4 o4, wOut ct a5 o5] sz thh) (bw_Q (dC, dI) vwCl (some (.int r)) [wPF ct a0 r0_0 (a3 0) (a2 0) (a1 0) r0_6 v0 n0, wCells ct a1 n1, wReckoner ct a2 n2, wText ct a3 (a4 0) o3, wSteps ct a4 o4, wOut ct a5 n5] (bw_A [adPF a0, adCells a1, adReckoner a2, adText a3, adSteps a4, adOut a5] sz)) 1 6 (bw_A [adPF a0, adCells a1, adReckoner a2, adText a3, adSteps a4, adOut a5] sz) := by
  refine va_MetW (cc := b_Law_run) (maxL := 3) (ret := (some .int)) (hh := [(0, 8, 11, 13)]) (by decide) rfl ?_
  intro p e s m args below meth c s₁ B hml hv0
  obtain ⟨rfl, hsz, hP, hK, hN0, hnx, hth, hex9⟩ := hv0
  obtain ⟨te1, htab, hte1⟩ := ct_rows1 (ct_table (hh := [(0, 8, 11, 13)]) B List.mem_cons_self)
  have hx := B.exec
  have hb := B.bytes
  have hr := B.returns
  have hts : ∀ w ∈ wsAll, w.before [.ref (a0 0), .ref (a5 0)].toArray s = true := fun w h9 => atoms_spec (ws := ws_Law_run) B.pre w (List.mem_cons_of_mem _ h9)
  have hown : s.vm.findClass R_Law = some m.cls := findClass_of_methodNamed B.named
  have hlocks := B.notSynchronized
  subst hsz
  have hN : bw_N (bw_A [adPF a0, adCells a1, adReckoner a2, adText a3, adSteps a4, adOut a5] s.heap.size) [adPF a0, adCells a1, adReckoner a2, adText a3, adSteps a4, adOut a5] := hN0.self s.heap.size
  generalize hAe : bw_A [adPF a0, adCells a1, adReckoner a2, adText a3, adSteps a4, adOut a5] s.heap.size = A at hN ⊢
  have hA : ∀ q : Nat, s.heap.size ≤ q → A q := fun q h => by rw [← hAe]; exact Or.inr h
  have hS : va_S A s.heap s.heap [] := va_S.rf
  have hl := lv_entry ([.ref (a0 0), .ref (a5 0)]) (n := 3) (Nat.le_of_ble_eq_true rfl)
  rw [lg_entry_eq]
  generalize (lg_sl ([.ref (a0 0), .ref (a5 0)]) ++ List.replicate (3 - (lg_sl ([.ref (a0 0), .ref (a5 0)])).length) Slot.unset).toArray = ls at hl ⊢
  have hl : lv_has ls 3 [(0, .ref (a0 0)), (1, .ref (a5 0))] := hl
  have h := hF
  rw [F_Law_run] at h
  refine lv_aload_n hx hb d_Law_run_0 rfl (lv_at hl 1 rfl) ?_
  refine lv_iconst (v := 0) hx hb d_Law_run_1 (by decide) ?_
  refine lv_aload_n hx hb d_Law_run_2 rfl (lv_at hl 0 rfl) ?_
  obtain ⟨k_6, v2, o_3, o_4, o_5, hG1, h⟩ := bind5_some h
  by_cases hk9 : k_6 = 0
  · subst hk9
    have h := ite_t rfl h
    refine W.widen (k := 1) (n := 6) (by omega) (by omega) ?_
    refine bw_call (Lc := [wPF ct a0 r0_0 (a3 0) (a2 0) (a1 0) r0_6 v0 o0, wCells ct a1 o1, wReckoner ct a2 o2, wText ct a3 (a4 0) o3, wSteps ct a4 o4]) (Lc' := [wPF ct a0 r0_0 (a3 0) (a2 0) (a1 0) r0_6 v0 o_3, wCells ct a1 o_4, wReckoner ct a2 o_5, wText ct a3 (a4 0) o3, wSteps ct a4 o4]) (L' := [wPF ct a0 r0_0 (a3 0) (a2 0) (a1 0) r0_6 v0 o_3, wCells ct a1 o_4, wReckoner ct a2 o_5, wText ct a3 (a4 0) o3, wSteps ct a4 o4, wOut ct a5 o5]) [0, 1, 2, 3, 4] (va_runV (As := []) (rest := [.int (0 : Int32), .ref (a5 0)]) ⟨hx, hb, hml, hown, hts⟩ (c_PF_run l ct dC dI a0 a1 a2 a3 a4 r0_0 r0_6 v0 _ o0 o1 o2 o3 o4 v2 o_3 o_4 o_5 hG1) (cwV 0 hts g_Law_23 rfl rfl rfl (by decide +kernel) ⟨Nat.le_of_ble_eq_true rfl, Nat.le_of_ble_eq_true rfl⟩) ⟨bw_blind nx_call, va_recv hK (hP 0 _ rfl) (ci := 5) (q0 := 0) rfl rfl, fun U hU hW => ⟨rfl, by rw [hU], by rw [hU]; exact hP.sub [0, 1, 2, 3, 4] rfl, va_K.moved hW.alike hK, (hN.sub [0, 1, 2, 3, 4] (by decide) rfl).weaken (fun _ _ => trivial), nx_warm hW hnx⟩⟩ rfl rfl hl.1 rfl (Nat.le_of_ble_eq_true rfl) d_Law_run_3 ⟨Nat.le_of_ble_eq_true rfl, Nat.le_of_ble_eq_true rfl⟩) hP hN hS hA rfl rfl rfl (fun H locs hP hS => ?_)
    refine lv_i2l (v := (Int32.toInt64 v2)) hx hb d_Law_run_6 rfl ?_
    obtain ⟨hi7, h⟩ := chk_some h
    refine st_Out_0 hx hb hK hP hN hS 5 rfl (inb_in hi7) d_Law_run_7 (fun H locs hP hS => ?_)
    have hP : bw_P (dC, dI) vwCl [wPF ct a0 r0_0 (a3 0) (a2 0) (a1 0) r0_6 v0 o_3, wCells ct a1 o_4, wReckoner ct a2 o_5, wText ct a3 (a4 0) o3, wSteps ct a4 o4, wOut ct a5 (s64 o5 0 (Int32.toNatClampNeg (0 : Int32)) (Int32.toInt64 v2))] H := hP
    refine lv_goto (tgt := 14) hx hb d_Law_run_8 (by decide) ?_
    refine lv_iconst (v := 0) hx hb d_Law_run_14 (by decide) ?_
    obtain ⟨rfl, rfl, rfl, rfl, rfl⟩ := res5 h
    exact W.iret hx hb hr (fun t ht hW => ⟨rfl, by rw [ht]; exact hP, hS.F ht⟩) hS.2.2 d_Law_run_15
  · have h := ite_f hk9 h
    by_cases c8 : k_6 = 1
    · subst c8
      have h := ite_t rfl h
      refine bt_catV (As := []) (rest := [.int (0 : Int32), .ref (a5 0)]) (hd := 11) (H := s.heap) ⟨hx, hb, hml, hown, hts⟩ (x_PF_run l hl0 ct dC dI a0 a1 a2 a3 a4 r0_0 r0_6 v0 _ o0 o1 o2 o3 o4 1 v2 o_3 o_4 o_5 hG1 (by decide)) (cwV 0 hts g_Law_23 rfl rfl rfl (by decide +kernel) ⟨Nat.le_of_ble_eq_true rfl, Nat.le_of_ble_eq_true rfl⟩) ⟨bw_blind thx_call, va_recv hK (hP 0 _ rfl) (ci := 5) (q0 := 0) rfl rfl, fun U hU hW => ⟨rfl, by rw [hU], by rw [hU]; exact hP.sub [0, 1, 2, 3, 4] rfl, va_K.moved hW.alike hK, (hN.sub [0, 1, 2, 3, 4] (by decide) rfl).weaken (fun _ _ => trivial), ⟨nx_warm hW hnx, thx_warm hW hU hth⟩⟩⟩ rfl hl.1 rfl (Nat.le_of_ble_eq_true rfl) d_Law_run_3 ⟨Nat.le_of_ble_eq_true rfl, Nat.le_of_ble_eq_true rfl⟩ (fun t9 ht9 => exX.at hex9 1 (by decide) ht9) (fun t9 ht9 => ⟨[], te1, [], htab, (fun _ h9 => by cases h9), ct_row hex9 (i := 1) (j := 1) (by decide) (by decide) hte1 (by decide) (by decide) (hts _ cl_Law_13) ht9, congrArg (fun q => q.2.2.1) hte1⟩) (fun x9 H9 ho9 hz9 => ?_)
      have hP := bw_P.old hP ho9
      have hS := va_S.old hS ho9 hz9
      refine lv_astore_n (lv' := [(2, .ref x9), (0, .ref (a0 0)), (1, .ref (a5 0))]) hx hb d_Law_run_11 rfl hl (by decide) rfl (fun ls hl => ?_)
      refine lv_iconst (v := 1) hx hb d_Law_run_12 (by decide) ?_
      obtain ⟨rfl, rfl, rfl, rfl, rfl⟩ := res5 h
      exact W.iret hx hb hr (fun t ht hW => ⟨rfl, by rw [ht]; exact hP, hS.F ht⟩) hS.2.2 d_Law_run_13
    · have h := ite_f c8 h
      cases h
theorem g_Law_27 : GoodIn wsAll (wsV R_Law 27 R_PF y_PF_state ws_PF_state) := gd_V ml_Law_27 im_PF_state se_PF_state ini_PF cd_PF_state
def F_Law_state (x1 : Int32) (x2 : Int32) (o0 o1 o2 : Ob) : Option (Int32 × Ob) :=
  bind2 (F_PF_state x1 x2 o0 o1) (fun k_3 v2 => if k_3 = 0 then (chk (inb (0 : Int32) 1) (some ((0 : Int32), (s64 o2 0 (Int32.toNatClampNeg (0 : Int32)) (Int32.toInt64 v2))))) else (if k_3 = 1 then (some ((1 : Int32), o2)) else (if k_3 = 3 then (some ((2 : Int32), o2)) else (none))))
abbrev ws_Law_state : List Cond := Cond.codeWith y_Law_state b_Law_state 5 (some .int) [(0, 10, 13, 13), (0, 10, 17, 21)] :: wsAll
abbrev rm_Law_state : Room := { frames := 9, cells := 1, slots := 6, locals := 164 }
set_option maxHeartbeats 4000000 in
set_option maxRecDepth 100000 in
theorem c_Law_state (l : Launch) (hl0 : l.stackTraces = false) (ct dC : Nat → ClassId) (dI : Nat → Nat → Nat) (a0 a1 a2 : Nat → Nat) (r0_0 : Nat) (r0_1 : Nat) (r0_4 : Nat) (r0_6 : Nat) (v0 : Nat → Nat) (sz : Nat) (x1 : Int32) (x2 : Int32) (o0 o1 o2 : Ob) (r : Int32) (n2 : Ob) (hF : F_Law_state x1 x2 o0 o1 o2 = some (r, n2)) : Met l y_Law_state ws_Law_state rm_Law_state (bw_Pc [.ref (a0 0), .int x1, .int x2, .ref (a2 0)] (dC, dI) vwCl (tyA ct) [wPF ct a0 r0_0 r0_1 r0_4 (a1 0) r0_6 v0 o0, wCells ct a1 o1, wOut ct a2 o2] sz thh) (bw_Q (dC, dI) vwCl (some (.int r)) [wPF ct a0 r0_0 r0_1 r0_4 (a1 0) r0_6 v0 o0, wCells ct a1 o1, wOut ct a2 n2] (bw_A [adPF a0, adCells a1, adOut a2] sz)) 1 6 (bw_A [adPF a0, adCells a1, adOut a2] sz) := by
  refine va_MetW (cc := b_Law_state) (maxL := 5) (ret := (some .int)) (hh := [(0, 10, 13, 13), (0, 10, 17, 21)]) (by decide) rfl ?_
  intro p e s m args below meth c s₁ B hml hv0
  obtain ⟨rfl, hsz, hP, hK, hN0, hnx, hth, hex9⟩ := hv0
  obtain ⟨te1, te2, htab, hte1, hte2⟩ := ct_rows2 (ct_table (hh := [(0, 10, 13, 13), (0, 10, 17, 21)]) B List.mem_cons_self)
  have hx := B.exec
  have hb := B.bytes
  have hr := B.returns
  have hts : ∀ w ∈ wsAll, w.before [.ref (a0 0), .int x1, .int x2, .ref (a2 0)].toArray s = true := fun w h9 => atoms_spec (ws := ws_Law_state) B.pre w (List.mem_cons_of_mem _ h9)
  have hown : s.vm.findClass R_Law = some m.cls := findClass_of_methodNamed B.named
  have hlocks := B.notSynchronized
  subst hsz
  have hN : bw_N (bw_A [adPF a0, adCells a1, adOut a2] s.heap.size) [adPF a0, adCells a1, adOut a2] := hN0.self s.heap.size
  generalize hAe : bw_A [adPF a0, adCells a1, adOut a2] s.heap.size = A at hN ⊢
  have hA : ∀ q : Nat, s.heap.size ≤ q → A q := fun q h => by rw [← hAe]; exact Or.inr h
  have hS : va_S A s.heap s.heap [] := va_S.rf
  have hl := lv_entry ([.ref (a0 0), .int x1, .int x2, .ref (a2 0)]) (n := 5) (Nat.le_of_ble_eq_true rfl)
  rw [lg_entry_eq]
  generalize (lg_sl ([.ref (a0 0), .int x1, .int x2, .ref (a2 0)]) ++ List.replicate (5 - (lg_sl ([.ref (a0 0), .int x1, .int x2, .ref (a2 0)])).length) Slot.unset).toArray = ls at hl ⊢
  have hl : lv_has ls 5 [(0, .ref (a0 0)), (1, .int x1), (2, .int x2), (3, .ref (a2 0))] := hl
  have h := hF
  rw [F_Law_state] at h
  refine lv_aload_n hx hb d_Law_state_0 rfl (lv_at hl 3 rfl) ?_
  refine lv_iconst (v := 0) hx hb d_Law_state_1 (by decide) ?_
  refine lv_aload_n hx hb d_Law_state_2 rfl (lv_at hl 0 rfl) ?_
  refine lv_iload_n hx hb d_Law_state_3 rfl (lv_at hl 1 rfl) ?_
  refine lv_iload_n hx hb d_Law_state_4 rfl (lv_at hl 2 rfl) ?_
  obtain ⟨k_3, v2, hG1, h⟩ := bind2_some h
  by_cases hk7 : k_3 = 0
  · subst hk7
    have h := ite_t rfl h
    refine W.widen (k := 1) (n := 6) (by omega) (by omega) ?_
    refine bw_callR (va_runV (As := [.int x1, .int x2]) (rest := [.int (0 : Int32), .ref (a2 0)]) ⟨hx, hb, hml, hown, hts⟩ (c_PF_state l ct dC dI a0 a1 r0_0 r0_1 r0_4 r0_6 v0 _ x1 x2 o0 o1 v2 hG1) (cwV 2 hts g_Law_27 rfl rfl rfl (by decide +kernel) ⟨Nat.le_of_ble_eq_true rfl, Nat.le_of_ble_eq_true rfl⟩) ⟨bw_blind nx_call, va_recv hK (hP 0 _ rfl) (ci := 5) (q0 := 0) rfl rfl, fun U hU hW => ⟨rfl, by rw [hU], by rw [hU]; exact hP.sub [0, 1] rfl, va_K.moved hW.alike hK, (hN.sub [0, 1] (by decide) rfl).weaken (fun _ _ => trivial), nx_warm hW hnx⟩⟩ rfl rfl hl.1 rfl (Nat.le_of_ble_eq_true rfl) d_Law_state_5 ⟨Nat.le_of_ble_eq_true rfl, Nat.le_of_ble_eq_true rfl⟩) ?_
    refine lv_i2l (v := (Int32.toInt64 v2)) hx hb d_Law_state_8 rfl ?_
    obtain ⟨hi4, h⟩ := chk_some h
    refine st_Out_0 hx hb hK hP hN hS 2 rfl (inb_in hi4) d_Law_state_9 (fun H locs hP hS => ?_)
    have hP : bw_P (dC, dI) vwCl [wPF ct a0 r0_0 r0_1 r0_4 (a1 0) r0_6 v0 o0, wCells ct a1 o1, wOut ct a2 (s64 o2 0 (Int32.toNatClampNeg (0 : Int32)) (Int32.toInt64 v2))] H := hP
    refine lv_goto (tgt := 21) hx hb d_Law_state_10 (by decide) ?_
    refine lv_iconst (v := 0) hx hb d_Law_state_21 (by decide) ?_
    obtain ⟨rfl, rfl⟩ := res2 h
    exact W.iret hx hb hr (fun t ht hW => ⟨rfl, by rw [ht]; exact hP, hS.F ht⟩) hS.2.2 d_Law_state_22
  · have h := ite_f hk7 h
    by_cases c6 : k_3 = 1
    · subst c6
      have h := ite_t rfl h
      refine bt_catV (As := [.int x1, .int x2]) (rest := [.int (0 : Int32), .ref (a2 0)]) (hd := 13) (H := s.heap) ⟨hx, hb, hml, hown, hts⟩ (x_PF_state l hl0 ct dC dI a0 a1 r0_0 r0_1 r0_4 r0_6 v0 _ x1 x2 o0 o1 1 v2 hG1 (by decide)) (cwV 2 hts g_Law_27 rfl rfl rfl (by decide +kernel) ⟨Nat.le_of_ble_eq_true rfl, Nat.le_of_ble_eq_true rfl⟩) ⟨bw_blind thx_call, va_recv hK (hP 0 _ rfl) (ci := 5) (q0 := 0) rfl rfl, fun U hU hW => ⟨rfl, by rw [hU], by rw [hU]; exact hP.sub [0, 1] rfl, va_K.moved hW.alike hK, (hN.sub [0, 1] (by decide) rfl).weaken (fun _ _ => trivial), ⟨nx_warm hW hnx, thx_warm hW hU hth⟩⟩⟩ rfl hl.1 rfl (Nat.le_of_ble_eq_true rfl) d_Law_state_5 ⟨Nat.le_of_ble_eq_true rfl, Nat.le_of_ble_eq_true rfl⟩ (fun t9 ht9 => exX.at hex9 1 (by decide) ht9) (fun t9 ht9 => ⟨[], te1, [te2], htab, (fun _ h9 => by cases h9), ct_row hex9 (i := 1) (j := 1) (by decide) (by decide) hte1 (by decide) (by decide) (hts _ cl_Law_13) ht9, congrArg (fun q => q.2.2.1) hte1⟩) (fun x9 H9 ho9 hz9 => ?_)
      have hP := bw_P.old hP ho9
      have hS := va_S.old hS ho9 hz9
      refine lv_astore (lv' := [(4, .ref x9), (0, .ref (a0 0)), (1, .int x1), (2, .int x2), (3, .ref (a2 0))]) hx hb d_Law_state_13 hl (by decide) rfl (fun ls hl => ?_)
      refine lv_iconst (v := 1) hx hb d_Law_state_15 (by decide) ?_
      obtain ⟨rfl, rfl⟩ := res2 h
      exact W.iret hx hb hr (fun t ht hW => ⟨rfl, by rw [ht]; exact hP, hS.F ht⟩) hS.2.2 d_Law_state_16
    · have h := ite_f c6 h
      by_cases c5 : k_3 = 3
      · subst c5
        have h := ite_t rfl h
        refine bt_catV (As := [.int x1, .int x2]) (rest := [.int (0 : Int32), .ref (a2 0)]) (hd := 17) (H := s.heap) ⟨hx, hb, hml, hown, hts⟩ (x_PF_state l hl0 ct dC dI a0 a1 r0_0 r0_1 r0_4 r0_6 v0 _ x1 x2 o0 o1 3 v2 hG1 (by decide)) (cwV 2 hts g_Law_27 rfl rfl rfl (by decide +kernel) ⟨Nat.le_of_ble_eq_true rfl, Nat.le_of_ble_eq_true rfl⟩) ⟨bw_blind thx_call, va_recv hK (hP 0 _ rfl) (ci := 5) (q0 := 0) rfl rfl, fun U hU hW => ⟨rfl, by rw [hU], by rw [hU]; exact hP.sub [0, 1] rfl, va_K.moved hW.alike hK, (hN.sub [0, 1] (by decide) rfl).weaken (fun _ _ => trivial), ⟨nx_warm hW hnx, thx_warm hW hU hth⟩⟩⟩ rfl hl.1 rfl (Nat.le_of_ble_eq_true rfl) d_Law_state_5 ⟨Nat.le_of_ble_eq_true rfl, Nat.le_of_ble_eq_true rfl⟩ (fun t9 ht9 => exX.at hex9 3 (by decide) ht9) (fun t9 ht9 => ⟨[te1], te2, [], htab, (List.forall_mem_cons.mpr ⟨ct_row hex9 (i := 3) (j := 1) (by decide) (by decide) hte1 (by decide) (by decide) (hts _ cl_Law_13) ht9, (fun _ h9 => by cases h9)⟩), ct_row hex9 (i := 3) (j := 3) (by decide) (by decide) hte2 (by decide) (by decide) (hts _ cl_Law_21) ht9, congrArg (fun q => q.2.2.1) hte2⟩) (fun x9 H9 ho9 hz9 => ?_)
        have hP := bw_P.old hP ho9
        have hS := va_S.old hS ho9 hz9
        refine lv_astore (lv' := [(4, .ref x9), (0, .ref (a0 0)), (1, .int x1), (2, .int x2), (3, .ref (a2 0))]) hx hb d_Law_state_17 hl (by decide) rfl (fun ls hl => ?_)
        refine lv_iconst (v := 2) hx hb d_Law_state_19 (by decide) ?_
        obtain ⟨rfl, rfl⟩ := res2 h
        exact W.iret hx hb hr (fun t ht hW => ⟨rfl, by rw [ht]; exact hP, hS.F ht⟩) hS.2.2 d_Law_state_20
      · have h := ite_f c5 h
        cases h
theorem g_Law_31 : GoodIn wsAll (wsV R_Law 31 R_PF y_PF_size ws_PF_size) := gd_V ml_Law_31 im_PF_size se_PF_size ini_PF cd_PF_size
def F_Law_size (x1 : Int32) (x2 : Int32) (x3 : Int32) (o0 o1 o2 : Ob) : Option (Int32 × Ob) :=
  bind2 (F_PF_size x1 x2 x3 o0 o1) (fun k_3 v2 => if k_3 = 0 then (chk (inb (0 : Int32) 1) (some ((0 : Int32), (s64 o2 0 (Int32.toNatClampNeg (0 : Int32)) v2)))) else (if k_3 = 3 then (some ((1 : Int32), o2)) else (if k_3 = 2 then (some ((2 : Int32), o2)) else (if k_3 = 1 then (some ((3 : Int32), o2)) else (none)))))
abbrev ws_Law_size : List Cond := Cond.codeWith y_Law_size b_Law_size 6 (some .int) [(0, 11, 14, 21), (0, 11, 18, 15), (0, 11, 22, 13)] :: wsAll
abbrev rm_Law_size : Room := { frames := 9, cells := 1, slots := 6, locals := 166 }
set_option maxHeartbeats 4000000 in
set_option maxRecDepth 100000 in
theorem c_Law_size (l : Launch) (hl0 : l.stackTraces = false) (ct dC : Nat → ClassId) (dI : Nat → Nat → Nat) (a0 a1 a2 : Nat → Nat) (r0_0 : Nat) (r0_1 : Nat) (r0_4 : Nat) (r0_6 : Nat) (v0 : Nat → Nat) (sz : Nat) (x1 : Int32) (x2 : Int32) (x3 : Int32) (o0 o1 o2 : Ob) (r : Int32) (n2 : Ob) (hF : F_Law_size x1 x2 x3 o0 o1 o2 = some (r, n2)) : Met l y_Law_size ws_Law_size rm_Law_size (bw_Pc [.ref (a0 0), .int x1, .int x2, .int x3, .ref (a2 0)] (dC, dI) vwCl (tyA ct) [wPF ct a0 r0_0 r0_1 r0_4 (a1 0) r0_6 v0 o0, wCells ct a1 o1, wOut ct a2 o2] sz thh) (bw_Q (dC, dI) vwCl (some (.int r)) [wPF ct a0 r0_0 r0_1 r0_4 (a1 0) r0_6 v0 o0, wCells ct a1 o1, wOut ct a2 n2] (bw_A [adPF a0, adCells a1, adOut a2] sz)) 1 6 (bw_A [adPF a0, adCells a1, adOut a2] sz) := by
  refine va_MetW (cc := b_Law_size) (maxL := 6) (ret := (some .int)) (hh := [(0, 11, 14, 21), (0, 11, 18, 15), (0, 11, 22, 13)]) (by decide) rfl ?_
  intro p e s m args below meth c s₁ B hml hv0
  obtain ⟨rfl, hsz, hP, hK, hN0, hnx, hth, hex9⟩ := hv0
  obtain ⟨te1, te2, te3, htab, hte1, hte2, hte3⟩ := ct_rows3 (ct_table (hh := [(0, 11, 14, 21), (0, 11, 18, 15), (0, 11, 22, 13)]) B List.mem_cons_self)
  have hx := B.exec
  have hb := B.bytes
  have hr := B.returns
  have hts : ∀ w ∈ wsAll, w.before [.ref (a0 0), .int x1, .int x2, .int x3, .ref (a2 0)].toArray s = true := fun w h9 => atoms_spec (ws := ws_Law_size) B.pre w (List.mem_cons_of_mem _ h9)
  have hown : s.vm.findClass R_Law = some m.cls := findClass_of_methodNamed B.named
  have hlocks := B.notSynchronized
  subst hsz
  have hN : bw_N (bw_A [adPF a0, adCells a1, adOut a2] s.heap.size) [adPF a0, adCells a1, adOut a2] := hN0.self s.heap.size
  generalize hAe : bw_A [adPF a0, adCells a1, adOut a2] s.heap.size = A at hN ⊢
  have hA : ∀ q : Nat, s.heap.size ≤ q → A q := fun q h => by rw [← hAe]; exact Or.inr h
  have hS : va_S A s.heap s.heap [] := va_S.rf
  have hl := lv_entry ([.ref (a0 0), .int x1, .int x2, .int x3, .ref (a2 0)]) (n := 6) (Nat.le_of_ble_eq_true rfl)
  rw [lg_entry_eq]
  generalize (lg_sl ([.ref (a0 0), .int x1, .int x2, .int x3, .ref (a2 0)]) ++ List.replicate (6 - (lg_sl ([.ref (a0 0), .int x1, .int x2, .int x3, .ref (a2 0)])).length) Slot.unset).toArray = ls at hl ⊢
  have hl : lv_has ls 6 [(0, .ref (a0 0)), (1, .int x1), (2, .int x2), (3, .int x3), (4, .ref (a2 0))] := hl
  have h := hF
  rw [F_Law_size] at h
  refine lv_aload hx hb d_Law_size_0 (lv_at hl 4 rfl) ?_
  refine lv_iconst (v := 0) hx hb d_Law_size_2 (by decide) ?_
  refine lv_aload_n hx hb d_Law_size_3 rfl (lv_at hl 0 rfl) ?_
  refine lv_iload_n hx hb d_Law_size_4 rfl (lv_at hl 1 rfl) ?_
  refine lv_iload_n hx hb d_Law_size_5 rfl (lv_at hl 2 rfl) ?_
  refine lv_iload_n hx hb d_Law_size_6 rfl (lv_at hl 3 rfl) ?_
  obtain ⟨k_3, v2, hG1, h⟩ := bind2_some h
  by_cases hk8 : k_3 = 0
  · subst hk8
    have h := ite_t rfl h
    refine W.widen (k := 1) (n := 6) (by omega) (by omega) ?_
    refine bw_callR (va_runV (As := [.int x1, .int x2, .int x3]) (rest := [.int (0 : Int32), .ref (a2 0)]) ⟨hx, hb, hml, hown, hts⟩ (c_PF_size l ct dC dI a0 a1 r0_0 r0_1 r0_4 r0_6 v0 _ x1 x2 x3 o0 o1 v2 hG1) (cwV 3 hts g_Law_31 rfl rfl rfl (by decide +kernel) ⟨Nat.le_of_ble_eq_true rfl, Nat.le_of_ble_eq_true rfl⟩) ⟨bw_blind nx_call, va_recv hK (hP 0 _ rfl) (ci := 5) (q0 := 0) rfl rfl, fun U hU hW => ⟨rfl, by rw [hU], by rw [hU]; exact hP.sub [0, 1] rfl, va_K.moved hW.alike hK, (hN.sub [0, 1] (by decide) rfl).weaken (fun _ _ => trivial), nx_warm hW hnx⟩⟩ rfl rfl hl.1 rfl (Nat.le_of_ble_eq_true rfl) d_Law_size_7 ⟨Nat.le_of_ble_eq_true rfl, Nat.le_of_ble_eq_true rfl⟩) ?_
    obtain ⟨hi4, h⟩ := chk_some h
    refine st_Out_0 hx hb hK hP hN hS 2 rfl (inb_in hi4) d_Law_size_10 (fun H locs hP hS => ?_)
    have hP : bw_P (dC, dI) vwCl [wPF ct a0 r0_0 r0_1 r0_4 (a1 0) r0_6 v0 o0, wCells ct a1 o1, wOut ct a2 (s64 o2 0 (Int32.toNatClampNeg (0 : Int32)) v2)] H := hP
    refine lv_goto (tgt := 26) hx hb d_Law_size_11 (by decide) ?_
    refine lv_iconst (v := 0) hx hb d_Law_size_26 (by decide) ?_
    obtain ⟨rfl, rfl⟩ := res2 h
    exact W.iret hx hb hr (fun t ht hW => ⟨rfl, by rw [ht]; exact hP, hS.F ht⟩) hS.2.2 d_Law_size_27
  · have h := ite_f hk8 h
    by_cases c7 : k_3 = 3
    · subst c7
      have h := ite_t rfl h
      refine bt_catV (As := [.int x1, .int x2, .int x3]) (rest := [.int (0 : Int32), .ref (a2 0)]) (hd := 14) (H := s.heap) ⟨hx, hb, hml, hown, hts⟩ (x_PF_size l hl0 ct dC dI a0 a1 r0_0 r0_1 r0_4 r0_6 v0 _ x1 x2 x3 o0 o1 3 v2 hG1 (by decide)) (cwV 3 hts g_Law_31 rfl rfl rfl (by decide +kernel) ⟨Nat.le_of_ble_eq_true rfl, Nat.le_of_ble_eq_true rfl⟩) ⟨bw_blind thx_call, va_recv hK (hP 0 _ rfl) (ci := 5) (q0 := 0) rfl rfl, fun U hU hW => ⟨rfl, by rw [hU], by rw [hU]; exact hP.sub [0, 1] rfl, va_K.moved hW.alike hK, (hN.sub [0, 1] (by decide) rfl).weaken (fun _ _ => trivial), ⟨nx_warm hW hnx, thx_warm hW hU hth⟩⟩⟩ rfl hl.1 rfl (Nat.le_of_ble_eq_true rfl) d_Law_size_7 ⟨Nat.le_of_ble_eq_true rfl, Nat.le_of_ble_eq_true rfl⟩ (fun t9 ht9 => exX.at hex9 3 (by decide) ht9) (fun t9 ht9 => ⟨[], te1, [te2, te3], htab, (fun _ h9 => by cases h9), ct_row hex9 (i := 3) (j := 3) (by decide) (by decide) hte1 (by decide) (by decide) (hts _ cl_Law_21) ht9, congrArg (fun q => q.2.2.1) hte1⟩) (fun x9 H9 ho9 hz9 => ?_)
      have hP := bw_P.old hP ho9
      have hS := va_S.old hS ho9 hz9
      refine lv_astore (lv' := [(5, .ref x9), (0, .ref (a0 0)), (1, .int x1), (2, .int x2), (3, .int x3), (4, .ref (a2 0))]) hx hb d_Law_size_14 hl (by decide) rfl (fun ls hl => ?_)
      refine lv_iconst (v := 1) hx hb d_Law_size_16 (by decide) ?_
      obtain ⟨rfl, rfl⟩ := res2 h
      exact W.iret hx hb hr (fun t ht hW => ⟨rfl, by rw [ht]; exact hP, hS.F ht⟩) hS.2.2 d_Law_size_17
    · have h := ite_f c7 h
      by_cases c6 : k_3 = 2
      · subst c6
        have h := ite_t rfl h
        refine bt_catV (As := [.int x1, .int x2, .int x3]) (rest := [.int (0 : Int32), .ref (a2 0)]) (hd := 18) (H := s.heap) ⟨hx, hb, hml, hown, hts⟩ (x_PF_size l hl0 ct dC dI a0 a1 r0_0 r0_1 r0_4 r0_6 v0 _ x1 x2 x3 o0 o1 2 v2 hG1 (by decide)) (cwV 3 hts g_Law_31 rfl rfl rfl (by decide +kernel) ⟨Nat.le_of_ble_eq_true rfl, Nat.le_of_ble_eq_true rfl⟩) ⟨bw_blind thx_call, va_recv hK (hP 0 _ rfl) (ci := 5) (q0 := 0) rfl rfl, fun U hU hW => ⟨rfl, by rw [hU], by rw [hU]; exact hP.sub [0, 1] rfl, va_K.moved hW.alike hK, (hN.sub [0, 1] (by decide) rfl).weaken (fun _ _ => trivial), ⟨nx_warm hW hnx, thx_warm hW hU hth⟩⟩⟩ rfl hl.1 rfl (Nat.le_of_ble_eq_true rfl) d_Law_size_7 ⟨Nat.le_of_ble_eq_true rfl, Nat.le_of_ble_eq_true rfl⟩ (fun t9 ht9 => exX.at hex9 2 (by decide) ht9) (fun t9 ht9 => ⟨[te1], te2, [te3], htab, (List.forall_mem_cons.mpr ⟨ct_row hex9 (i := 2) (j := 3) (by decide) (by decide) hte1 (by decide) (by decide) (hts _ cl_Law_21) ht9, (fun _ h9 => by cases h9)⟩), ct_row hex9 (i := 2) (j := 2) (by decide) (by decide) hte2 (by decide) (by decide) (hts _ cl_Law_15) ht9, congrArg (fun q => q.2.2.1) hte2⟩) (fun x9 H9 ho9 hz9 => ?_)
        have hP := bw_P.old hP ho9
        have hS := va_S.old hS ho9 hz9
        refine lv_astore (lv' := [(5, .ref x9), (0, .ref (a0 0)), (1, .int x1), (2, .int x2), (3, .int x3), (4, .ref (a2 0))]) hx hb d_Law_size_18 hl (by decide) rfl (fun ls hl => ?_)
        refine lv_iconst (v := 2) hx hb d_Law_size_20 (by decide) ?_
        obtain ⟨rfl, rfl⟩ := res2 h
        exact W.iret hx hb hr (fun t ht hW => ⟨rfl, by rw [ht]; exact hP, hS.F ht⟩) hS.2.2 d_Law_size_21
      · have h := ite_f c6 h
        by_cases c5 : k_3 = 1
        · subst c5
          have h := ite_t rfl h
          refine bt_catV (As := [.int x1, .int x2, .int x3]) (rest := [.int (0 : Int32), .ref (a2 0)]) (hd := 22) (H := s.heap) ⟨hx, hb, hml, hown, hts⟩ (x_PF_size l hl0 ct dC dI a0 a1 r0_0 r0_1 r0_4 r0_6 v0 _ x1 x2 x3 o0 o1 1 v2 hG1 (by decide)) (cwV 3 hts g_Law_31 rfl rfl rfl (by decide +kernel) ⟨Nat.le_of_ble_eq_true rfl, Nat.le_of_ble_eq_true rfl⟩) ⟨bw_blind thx_call, va_recv hK (hP 0 _ rfl) (ci := 5) (q0 := 0) rfl rfl, fun U hU hW => ⟨rfl, by rw [hU], by rw [hU]; exact hP.sub [0, 1] rfl, va_K.moved hW.alike hK, (hN.sub [0, 1] (by decide) rfl).weaken (fun _ _ => trivial), ⟨nx_warm hW hnx, thx_warm hW hU hth⟩⟩⟩ rfl hl.1 rfl (Nat.le_of_ble_eq_true rfl) d_Law_size_7 ⟨Nat.le_of_ble_eq_true rfl, Nat.le_of_ble_eq_true rfl⟩ (fun t9 ht9 => exX.at hex9 1 (by decide) ht9) (fun t9 ht9 => ⟨[te1, te2], te3, [], htab, (List.forall_mem_cons.mpr ⟨ct_row hex9 (i := 1) (j := 3) (by decide) (by decide) hte1 (by decide) (by decide) (hts _ cl_Law_21) ht9, (List.forall_mem_cons.mpr ⟨ct_row hex9 (i := 1) (j := 2) (by decide) (by decide) hte2 (by decide) (by decide) (hts _ cl_Law_15) ht9, (fun _ h9 => by cases h9)⟩)⟩), ct_row hex9 (i := 1) (j := 1) (by decide) (by decide) hte3 (by decide) (by decide) (hts _ cl_Law_13) ht9, congrArg (fun q => q.2.2.1) hte3⟩) (fun x9 H9 ho9 hz9 => ?_)
          have hP := bw_P.old hP ho9
          have hS := va_S.old hS ho9 hz9
          refine lv_astore (lv' := [(5, .ref x9), (0, .ref (a0 0)), (1, .int x1), (2, .int x2), (3, .int x3), (4, .ref (a2 0))]) hx hb d_Law_size_22 hl (by decide) rfl (fun ls hl => ?_)
          refine lv_iconst (v := 3) hx hb d_Law_size_24 (by decide) ?_
          obtain ⟨rfl, rfl⟩ := res2 h
          exact W.iret hx hb hr (fun t ht hW => ⟨rfl, by rw [ht]; exact hP, hS.F ht⟩) hS.2.2 d_Law_size_25
        · have h := ite_f c5 h
          cases h
theorem g_Law_35 : GoodIn wsAll (wsV R_Law 35 R_PF y_PF_ring ws_PF_ring) := gd_V ml_Law_35 im_PF_ring se_PF_ring ini_PF cd_PF_ring
def F_Law_ring (x1 : Int32) (o0 o1 o2 : Ob) : Option (Int32 × Ob) :=
  bind2 (F_PF_ring x1 o0 o1) (fun k_3 v2 => if k_3 = 0 then (chk (inb (0 : Int32) 1) (some ((0 : Int32), (s64 o2 0 (Int32.toNatClampNeg (0 : Int32)) (Int32.toInt64 v2))))) else (if k_3 = 1 then (some ((1 : Int32), o2)) else (if k_3 = 2 then (some ((2 : Int32), o2)) else (none))))
abbrev ws_Law_ring : List Cond := Cond.codeWith y_Law_ring b_Law_ring 4 (some .int) [(0, 9, 12, 13), (0, 9, 15, 15)] :: wsAll
abbrev rm_Law_ring : Room := { frames := 8, cells := 1, slots := 6, locals := 143 }
set_option maxHeartbeats 4000000 in
set_option maxRecDepth 100000 in
theorem c_Law_ring (l : Launch) (hl0 : l.stackTraces = false) (ct dC : Nat → ClassId) (dI : Nat → Nat → Nat) (a0 a1 a2 : Nat → Nat) (r0_0 : Nat) (r0_4 : Nat) (r0_5 : Nat) (r0_6 : Nat) (v0 : Nat → Nat) (r1_2 : Nat) (sz : Nat) (x1 : Int32) (o0 o1 o2 : Ob) (r : Int32) (n2 : Ob) (hF : F_Law_ring x1 o0 o1 o2 = some (r, n2)) : Met l y_Law_ring ws_Law_ring rm_Law_ring (bw_Pc [.ref (a0 0), .int x1, .ref (a2 0)] (dC, dI) vwCl (tyA ct) [wPF ct a0 r0_0 (a1 0) r0_4 r0_5 r0_6 v0 o0, wText ct a1 r1_2 o1, wOut ct a2 o2] sz thh) (bw_Q (dC, dI) vwCl (some (.int r)) [wPF ct a0 r0_0 (a1 0) r0_4 r0_5 r0_6 v0 o0, wText ct a1 r1_2 o1, wOut ct a2 n2] (bw_A [adPF a0, adText a1, adOut a2] sz)) 1 6 (bw_A [adPF a0, adText a1, adOut a2] sz) := by
  refine va_MetW (cc := b_Law_ring) (maxL := 4) (ret := (some .int)) (hh := [(0, 9, 12, 13), (0, 9, 15, 15)]) (by decide) rfl ?_
  intro p e s m args below meth c s₁ B hml hv0
  obtain ⟨rfl, hsz, hP, hK, hN0, hnx, hth, hex9⟩ := hv0
  obtain ⟨te1, te2, htab, hte1, hte2⟩ := ct_rows2 (ct_table (hh := [(0, 9, 12, 13), (0, 9, 15, 15)]) B List.mem_cons_self)
  have hx := B.exec
  have hb := B.bytes
  have hr := B.returns
  have hts : ∀ w ∈ wsAll, w.before [.ref (a0 0), .int x1, .ref (a2 0)].toArray s = true := fun w h9 => atoms_spec (ws := ws_Law_ring) B.pre w (List.mem_cons_of_mem _ h9)
  have hown : s.vm.findClass R_Law = some m.cls := findClass_of_methodNamed B.named
  have hlocks := B.notSynchronized
  subst hsz
  have hN : bw_N (bw_A [adPF a0, adText a1, adOut a2] s.heap.size) [adPF a0, adText a1, adOut a2] := hN0.self s.heap.size
  generalize hAe : bw_A [adPF a0, adText a1, adOut a2] s.heap.size = A at hN ⊢
  have hA : ∀ q : Nat, s.heap.size ≤ q → A q := fun q h => by rw [← hAe]; exact Or.inr h
  have hS : va_S A s.heap s.heap [] := va_S.rf
  have hl := lv_entry ([.ref (a0 0), .int x1, .ref (a2 0)]) (n := 4) (Nat.le_of_ble_eq_true rfl)
  rw [lg_entry_eq]
  generalize (lg_sl ([.ref (a0 0), .int x1, .ref (a2 0)]) ++ List.replicate (4 - (lg_sl ([.ref (a0 0), .int x1, .ref (a2 0)])).length) Slot.unset).toArray = ls at hl ⊢
  have hl : lv_has ls 4 [(0, .ref (a0 0)), (1, .int x1), (2, .ref (a2 0))] := hl
  have h := hF
  rw [F_Law_ring] at h
  refine lv_aload_n hx hb d_Law_ring_0 rfl (lv_at hl 2 rfl) ?_
  refine lv_iconst (v := 0) hx hb d_Law_ring_1 (by decide) ?_
  refine lv_aload_n hx hb d_Law_ring_2 rfl (lv_at hl 0 rfl) ?_
  refine lv_iload_n hx hb d_Law_ring_3 rfl (lv_at hl 1 rfl) ?_
  obtain ⟨k_3, v2, hG1, h⟩ := bind2_some h
  by_cases hk7 : k_3 = 0
  · subst hk7
    have h := ite_t rfl h
    refine W.widen (k := 1) (n := 6) (by omega) (by omega) ?_
    refine bw_callR (va_runV (As := [.int x1]) (rest := [.int (0 : Int32), .ref (a2 0)]) ⟨hx, hb, hml, hown, hts⟩ (c_PF_ring l ct dC dI a0 a1 r0_0 r0_4 r0_5 r0_6 v0 r1_2 _ x1 o0 o1 v2 hG1) (cwV 1 hts g_Law_35 rfl rfl rfl (by decide +kernel) ⟨Nat.le_of_ble_eq_true rfl, Nat.le_of_ble_eq_true rfl⟩) ⟨bw_blind nx_call, va_recv hK (hP 0 _ rfl) (ci := 5) (q0 := 0) rfl rfl, fun U hU hW => ⟨rfl, by rw [hU], by rw [hU]; exact hP.sub [0, 1] rfl, va_K.moved hW.alike hK, (hN.sub [0, 1] (by decide) rfl).weaken (fun _ _ => trivial), nx_warm hW hnx⟩⟩ rfl rfl hl.1 rfl (Nat.le_of_ble_eq_true rfl) d_Law_ring_4 ⟨Nat.le_of_ble_eq_true rfl, Nat.le_of_ble_eq_true rfl⟩) ?_
    refine lv_i2l (v := (Int32.toInt64 v2)) hx hb d_Law_ring_7 rfl ?_
    obtain ⟨hi4, h⟩ := chk_some h
    refine st_Out_0 hx hb hK hP hN hS 2 rfl (inb_in hi4) d_Law_ring_8 (fun H locs hP hS => ?_)
    have hP : bw_P (dC, dI) vwCl [wPF ct a0 r0_0 (a1 0) r0_4 r0_5 r0_6 v0 o0, wText ct a1 r1_2 o1, wOut ct a2 (s64 o2 0 (Int32.toNatClampNeg (0 : Int32)) (Int32.toInt64 v2))] H := hP
    refine lv_goto (tgt := 18) hx hb d_Law_ring_9 (by decide) ?_
    refine lv_iconst (v := 0) hx hb d_Law_ring_18 (by decide) ?_
    obtain ⟨rfl, rfl⟩ := res2 h
    exact W.iret hx hb hr (fun t ht hW => ⟨rfl, by rw [ht]; exact hP, hS.F ht⟩) hS.2.2 d_Law_ring_19
  · have h := ite_f hk7 h
    by_cases c6 : k_3 = 1
    · subst c6
      have h := ite_t rfl h
      refine bt_catV (As := [.int x1]) (rest := [.int (0 : Int32), .ref (a2 0)]) (hd := 12) (H := s.heap) ⟨hx, hb, hml, hown, hts⟩ (x_PF_ring l hl0 ct dC dI a0 a1 r0_0 r0_4 r0_5 r0_6 v0 r1_2 _ x1 o0 o1 1 v2 hG1 (by decide)) (cwV 1 hts g_Law_35 rfl rfl rfl (by decide +kernel) ⟨Nat.le_of_ble_eq_true rfl, Nat.le_of_ble_eq_true rfl⟩) ⟨bw_blind thx_call, va_recv hK (hP 0 _ rfl) (ci := 5) (q0 := 0) rfl rfl, fun U hU hW => ⟨rfl, by rw [hU], by rw [hU]; exact hP.sub [0, 1] rfl, va_K.moved hW.alike hK, (hN.sub [0, 1] (by decide) rfl).weaken (fun _ _ => trivial), ⟨nx_warm hW hnx, thx_warm hW hU hth⟩⟩⟩ rfl hl.1 rfl (Nat.le_of_ble_eq_true rfl) d_Law_ring_4 ⟨Nat.le_of_ble_eq_true rfl, Nat.le_of_ble_eq_true rfl⟩ (fun t9 ht9 => exX.at hex9 1 (by decide) ht9) (fun t9 ht9 => ⟨[], te1, [te2], htab, (fun _ h9 => by cases h9), ct_row hex9 (i := 1) (j := 1) (by decide) (by decide) hte1 (by decide) (by decide) (hts _ cl_Law_13) ht9, congrArg (fun q => q.2.2.1) hte1⟩) (fun x9 H9 ho9 hz9 => ?_)
      have hP := bw_P.old hP ho9
      have hS := va_S.old hS ho9 hz9
      refine lv_astore_n (lv' := [(3, .ref x9), (0, .ref (a0 0)), (1, .int x1), (2, .ref (a2 0))]) hx hb d_Law_ring_12 rfl hl (by decide) rfl (fun ls hl => ?_)
      refine lv_iconst (v := 1) hx hb d_Law_ring_13 (by decide) ?_
      obtain ⟨rfl, rfl⟩ := res2 h
      exact W.iret hx hb hr (fun t ht hW => ⟨rfl, by rw [ht]; exact hP, hS.F ht⟩) hS.2.2 d_Law_ring_14
    · have h := ite_f c6 h
      by_cases c5 : k_3 = 2
      · subst c5
        have h := ite_t rfl h
        refine bt_catV (As := [.int x1]) (rest := [.int (0 : Int32), .ref (a2 0)]) (hd := 15) (H := s.heap) ⟨hx, hb, hml, hown, hts⟩ (x_PF_ring l hl0 ct dC dI a0 a1 r0_0 r0_4 r0_5 r0_6 v0 r1_2 _ x1 o0 o1 2 v2 hG1 (by decide)) (cwV 1 hts g_Law_35 rfl rfl rfl (by decide +kernel) ⟨Nat.le_of_ble_eq_true rfl, Nat.le_of_ble_eq_true rfl⟩) ⟨bw_blind thx_call, va_recv hK (hP 0 _ rfl) (ci := 5) (q0 := 0) rfl rfl, fun U hU hW => ⟨rfl, by rw [hU], by rw [hU]; exact hP.sub [0, 1] rfl, va_K.moved hW.alike hK, (hN.sub [0, 1] (by decide) rfl).weaken (fun _ _ => trivial), ⟨nx_warm hW hnx, thx_warm hW hU hth⟩⟩⟩ rfl hl.1 rfl (Nat.le_of_ble_eq_true rfl) d_Law_ring_4 ⟨Nat.le_of_ble_eq_true rfl, Nat.le_of_ble_eq_true rfl⟩ (fun t9 ht9 => exX.at hex9 2 (by decide) ht9) (fun t9 ht9 => ⟨[te1], te2, [], htab, (List.forall_mem_cons.mpr ⟨ct_row hex9 (i := 2) (j := 1) (by decide) (by decide) hte1 (by decide) (by decide) (hts _ cl_Law_13) ht9, (fun _ h9 => by cases h9)⟩), ct_row hex9 (i := 2) (j := 2) (by decide) (by decide) hte2 (by decide) (by decide) (hts _ cl_Law_15) ht9, congrArg (fun q => q.2.2.1) hte2⟩) (fun x9 H9 ho9 hz9 => ?_)
        have hP := bw_P.old hP ho9
        have hS := va_S.old hS ho9 hz9
        refine lv_astore_n (lv' := [(3, .ref x9), (0, .ref (a0 0)), (1, .int x1), (2, .ref (a2 0))]) hx hb d_Law_ring_15 rfl hl (by decide) rfl (fun ls hl => ?_)
        refine lv_iconst (v := 2) hx hb d_Law_ring_16 (by decide) ?_
        obtain ⟨rfl, rfl⟩ := res2 h
        exact W.iret hx hb hr (fun t ht hW => ⟨rfl, by rw [ht]; exact hP, hS.F ht⟩) hS.2.2 d_Law_ring_17
      · have h := ite_f c5 h
        cases h
theorem g_Law_38 : GoodIn wsAll (wsV R_Law 38 R_PF y_PF_condition ws_PF_condition) := gd_V ml_Law_38 im_PF_condition se_PF_condition ini_PF cd_PF_condition
def F_Law_condition (x1 : Int32) (x2 : Int32) (o0 o1 o2 : Ob) : Option (Int32 × Ob) :=
  bind2 (F_PF_condition x1 x2 o0 o1) (fun k_3 v2 => if k_3 = 0 then (chk (inb (0 : Int32) 1) (some ((0 : Int32), (s64 o2 0 (Int32.toNatClampNeg (0 : Int32)) (Int32.toInt64 v2))))) else (if k_3 = 1 then (some ((1 : Int32), o2)) else (if k_3 = 3 then (some ((2 : Int32), o2)) else (none))))
abbrev ws_Law_condition : List Cond := Cond.codeWith y_Law_condition b_Law_condition 5 (some .int) [(0, 10, 13, 13), (0, 10, 17, 21)] :: wsAll
abbrev rm_Law_condition : Room := { frames := 9, cells := 1, slots := 6, locals := 164 }
set_option maxHeartbeats 4000000 in
set_option maxRecDepth 100000 in
theorem c_Law_condition (l : Launch) (hl0 : l.stackTraces = false) (ct dC : Nat → ClassId) (dI : Nat → Nat → Nat) (a0 a1 a2 : Nat → Nat) (r0_0 : Nat) (r0_1 : Nat) (r0_4 : Nat) (r0_6 : Nat) (v0 : Nat → Nat) (sz : Nat) (x1 : Int32) (x2 : Int32) (o0 o1 o2 : Ob) (r : Int32) (n2 : Ob) (hF : F_Law_condition x1 x2 o0 o1 o2 = some (r, n2)) : Met l y_Law_condition ws_Law_condition rm_Law_condition (bw_Pc [.ref (a0 0), .int x1, .int x2, .ref (a2 0)] (dC, dI) vwCl (tyA ct) [wPF ct a0 r0_0 r0_1 r0_4 (a1 0) r0_6 v0 o0, wCells ct a1 o1, wOut ct a2 o2] sz thh) (bw_Q (dC, dI) vwCl (some (.int r)) [wPF ct a0 r0_0 r0_1 r0_4 (a1 0) r0_6 v0 o0, wCells ct a1 o1, wOut ct a2 n2] (bw_A [adPF a0, adCells a1, adOut a2] sz)) 1 6 (bw_A [adPF a0, adCells a1, adOut a2] sz) := by
  refine va_MetW (cc := b_Law_condition) (maxL := 5) (ret := (some .int)) (hh := [(0, 10, 13, 13), (0, 10, 17, 21)]) (by decide) rfl ?_
  intro p e s m args below meth c s₁ B hml hv0
  obtain ⟨rfl, hsz, hP, hK, hN0, hnx, hth, hex9⟩ := hv0
  obtain ⟨te1, te2, htab, hte1, hte2⟩ := ct_rows2 (ct_table (hh := [(0, 10, 13, 13), (0, 10, 17, 21)]) B List.mem_cons_self)
  have hx := B.exec
  have hb := B.bytes
  have hr := B.returns
  have hts : ∀ w ∈ wsAll, w.before [.ref (a0 0), .int x1, .int x2, .ref (a2 0)].toArray s = true := fun w h9 => atoms_spec (ws := ws_Law_condition) B.pre w (List.mem_cons_of_mem _ h9)
  have hown : s.vm.findClass R_Law = some m.cls := findClass_of_methodNamed B.named
  have hlocks := B.notSynchronized
  subst hsz
  have hN : bw_N (bw_A [adPF a0, adCells a1, adOut a2] s.heap.size) [adPF a0, adCells a1, adOut a2] := hN0.self s.heap.size
  generalize hAe : bw_A [adPF a0, adCells a1, adOut a2] s.heap.size = A at hN ⊢
  have hA : ∀ q : Nat, s.heap.size ≤ q → A q := fun q h => by rw [← hAe]; exact Or.inr h
  have hS : va_S A s.heap s.heap [] := va_S.rf
  have hl := lv_entry ([.ref (a0 0), .int x1, .int x2, .ref (a2 0)]) (n := 5) (Nat.le_of_ble_eq_true rfl)
  rw [lg_entry_eq]
  generalize (lg_sl ([.ref (a0 0), .int x1, .int x2, .ref (a2 0)]) ++ List.replicate (5 - (lg_sl ([.ref (a0 0), .int x1, .int x2, .ref (a2 0)])).length) Slot.unset).toArray = ls at hl ⊢
  have hl : lv_has ls 5 [(0, .ref (a0 0)), (1, .int x1), (2, .int x2), (3, .ref (a2 0))] := hl
  have h := hF
  rw [F_Law_condition] at h
  refine lv_aload_n hx hb d_Law_condition_0 rfl (lv_at hl 3 rfl) ?_
  refine lv_iconst (v := 0) hx hb d_Law_condition_1 (by decide) ?_
  refine lv_aload_n hx hb d_Law_condition_2 rfl (lv_at hl 0 rfl) ?_
  refine lv_iload_n hx hb d_Law_condition_3 rfl (lv_at hl 1 rfl) ?_
  refine lv_iload_n hx hb d_Law_condition_4 rfl (lv_at hl 2 rfl) ?_
  obtain ⟨k_3, v2, hG1, h⟩ := bind2_some h
  by_cases hk7 : k_3 = 0
  · subst hk7
    have h := ite_t rfl h
    refine W.widen (k := 1) (n := 6) (by omega) (by omega) ?_
    refine bw_callR (va_runV (As := [.int x1, .int x2]) (rest := [.int (0 : Int32), .ref (a2 0)]) ⟨hx, hb, hml, hown, hts⟩ (c_PF_condition l ct dC dI a0 a1 r0_0 r0_1 r0_4 r0_6 v0 _ x1 x2 o0 o1 v2 hG1) (cwV 2 hts g_Law_38 rfl rfl rfl (by decide +kernel) ⟨Nat.le_of_ble_eq_true rfl, Nat.le_of_ble_eq_true rfl⟩) ⟨bw_blind nx_call, va_recv hK (hP 0 _ rfl) (ci := 5) (q0 := 0) rfl rfl, fun U hU hW => ⟨rfl, by rw [hU], by rw [hU]; exact hP.sub [0, 1] rfl, va_K.moved hW.alike hK, (hN.sub [0, 1] (by decide) rfl).weaken (fun _ _ => trivial), nx_warm hW hnx⟩⟩ rfl rfl hl.1 rfl (Nat.le_of_ble_eq_true rfl) d_Law_condition_5 ⟨Nat.le_of_ble_eq_true rfl, Nat.le_of_ble_eq_true rfl⟩) ?_
    refine lv_i2l (v := (Int32.toInt64 v2)) hx hb d_Law_condition_8 rfl ?_
    obtain ⟨hi4, h⟩ := chk_some h
    refine st_Out_0 hx hb hK hP hN hS 2 rfl (inb_in hi4) d_Law_condition_9 (fun H locs hP hS => ?_)
    have hP : bw_P (dC, dI) vwCl [wPF ct a0 r0_0 r0_1 r0_4 (a1 0) r0_6 v0 o0, wCells ct a1 o1, wOut ct a2 (s64 o2 0 (Int32.toNatClampNeg (0 : Int32)) (Int32.toInt64 v2))] H := hP
    refine lv_goto (tgt := 21) hx hb d_Law_condition_10 (by decide) ?_
    refine lv_iconst (v := 0) hx hb d_Law_condition_21 (by decide) ?_
    obtain ⟨rfl, rfl⟩ := res2 h
    exact W.iret hx hb hr (fun t ht hW => ⟨rfl, by rw [ht]; exact hP, hS.F ht⟩) hS.2.2 d_Law_condition_22
  · have h := ite_f hk7 h
    by_cases c6 : k_3 = 1
    · subst c6
      have h := ite_t rfl h
      refine bt_catV (As := [.int x1, .int x2]) (rest := [.int (0 : Int32), .ref (a2 0)]) (hd := 13) (H := s.heap) ⟨hx, hb, hml, hown, hts⟩ (x_PF_condition l hl0 ct dC dI a0 a1 r0_0 r0_1 r0_4 r0_6 v0 _ x1 x2 o0 o1 1 v2 hG1 (by decide)) (cwV 2 hts g_Law_38 rfl rfl rfl (by decide +kernel) ⟨Nat.le_of_ble_eq_true rfl, Nat.le_of_ble_eq_true rfl⟩) ⟨bw_blind thx_call, va_recv hK (hP 0 _ rfl) (ci := 5) (q0 := 0) rfl rfl, fun U hU hW => ⟨rfl, by rw [hU], by rw [hU]; exact hP.sub [0, 1] rfl, va_K.moved hW.alike hK, (hN.sub [0, 1] (by decide) rfl).weaken (fun _ _ => trivial), ⟨nx_warm hW hnx, thx_warm hW hU hth⟩⟩⟩ rfl hl.1 rfl (Nat.le_of_ble_eq_true rfl) d_Law_condition_5 ⟨Nat.le_of_ble_eq_true rfl, Nat.le_of_ble_eq_true rfl⟩ (fun t9 ht9 => exX.at hex9 1 (by decide) ht9) (fun t9 ht9 => ⟨[], te1, [te2], htab, (fun _ h9 => by cases h9), ct_row hex9 (i := 1) (j := 1) (by decide) (by decide) hte1 (by decide) (by decide) (hts _ cl_Law_13) ht9, congrArg (fun q => q.2.2.1) hte1⟩) (fun x9 H9 ho9 hz9 => ?_)
      have hP := bw_P.old hP ho9
      have hS := va_S.old hS ho9 hz9
      refine lv_astore (lv' := [(4, .ref x9), (0, .ref (a0 0)), (1, .int x1), (2, .int x2), (3, .ref (a2 0))]) hx hb d_Law_condition_13 hl (by decide) rfl (fun ls hl => ?_)
      refine lv_iconst (v := 1) hx hb d_Law_condition_15 (by decide) ?_
      obtain ⟨rfl, rfl⟩ := res2 h
      exact W.iret hx hb hr (fun t ht hW => ⟨rfl, by rw [ht]; exact hP, hS.F ht⟩) hS.2.2 d_Law_condition_16
    · have h := ite_f c6 h
      by_cases c5 : k_3 = 3
      · subst c5
        have h := ite_t rfl h
        refine bt_catV (As := [.int x1, .int x2]) (rest := [.int (0 : Int32), .ref (a2 0)]) (hd := 17) (H := s.heap) ⟨hx, hb, hml, hown, hts⟩ (x_PF_condition l hl0 ct dC dI a0 a1 r0_0 r0_1 r0_4 r0_6 v0 _ x1 x2 o0 o1 3 v2 hG1 (by decide)) (cwV 2 hts g_Law_38 rfl rfl rfl (by decide +kernel) ⟨Nat.le_of_ble_eq_true rfl, Nat.le_of_ble_eq_true rfl⟩) ⟨bw_blind thx_call, va_recv hK (hP 0 _ rfl) (ci := 5) (q0 := 0) rfl rfl, fun U hU hW => ⟨rfl, by rw [hU], by rw [hU]; exact hP.sub [0, 1] rfl, va_K.moved hW.alike hK, (hN.sub [0, 1] (by decide) rfl).weaken (fun _ _ => trivial), ⟨nx_warm hW hnx, thx_warm hW hU hth⟩⟩⟩ rfl hl.1 rfl (Nat.le_of_ble_eq_true rfl) d_Law_condition_5 ⟨Nat.le_of_ble_eq_true rfl, Nat.le_of_ble_eq_true rfl⟩ (fun t9 ht9 => exX.at hex9 3 (by decide) ht9) (fun t9 ht9 => ⟨[te1], te2, [], htab, (List.forall_mem_cons.mpr ⟨ct_row hex9 (i := 3) (j := 1) (by decide) (by decide) hte1 (by decide) (by decide) (hts _ cl_Law_13) ht9, (fun _ h9 => by cases h9)⟩), ct_row hex9 (i := 3) (j := 3) (by decide) (by decide) hte2 (by decide) (by decide) (hts _ cl_Law_21) ht9, congrArg (fun q => q.2.2.1) hte2⟩) (fun x9 H9 ho9 hz9 => ?_)
        have hP := bw_P.old hP ho9
        have hS := va_S.old hS ho9 hz9
        refine lv_astore (lv' := [(4, .ref x9), (0, .ref (a0 0)), (1, .int x1), (2, .int x2), (3, .ref (a2 0))]) hx hb d_Law_condition_17 hl (by decide) rfl (fun ls hl => ?_)
        refine lv_iconst (v := 2) hx hb d_Law_condition_19 (by decide) ?_
        obtain ⟨rfl, rfl⟩ := res2 h
        exact W.iret hx hb hr (fun t ht hW => ⟨rfl, by rw [ht]; exact hP, hS.F ht⟩) hS.2.2 d_Law_condition_20
      · have h := ite_f c5 h
        cases h
theorem g_Law_41 : GoodIn wsAll (wsV R_Law 41 R_PF y_PF_line ws_PF_line) := gd_V ml_Law_41 im_PF_line se_PF_line ini_PF cd_PF_line
def F_Law_line (x1 : Int32) (x2 : Int32) (o0 o1 o2 : Ob) : Option (Int32 × Ob) :=
  bind2 (F_PF_line x1 x2 o0 o1) (fun k_3 v2 => if k_3 = 0 then (chk (inb (0 : Int32) 1) (some ((0 : Int32), (s64 o2 0 (Int32.toNatClampNeg (0 : Int32)) (Int32.toInt64 v2))))) else (if k_3 = 1 then (some ((1 : Int32), o2)) else (if k_3 = 3 then (some ((2 : Int32), o2)) else (none))))
abbrev ws_Law_line : List Cond := Cond.codeWith y_Law_line b_Law_line 5 (some .int) [(0, 10, 13, 13), (0, 10, 17, 21)] :: wsAll
abbrev rm_Law_line : Room := { frames := 9, cells := 1, slots := 6, locals := 164 }
set_option maxHeartbeats 4000000 in
set_option maxRecDepth 100000 in
theorem c_Law_line (l : Launch) (hl0 : l.stackTraces = false) (ct dC : Nat → ClassId) (dI : Nat → Nat → Nat) (a0 a1 a2 : Nat → Nat) (r0_0 : Nat) (r0_4 : Nat) (r0_5 : Nat) (r0_6 : Nat) (v0 : Nat → Nat) (r1_2 : Nat) (sz : Nat) (x1 : Int32) (x2 : Int32) (o0 o1 o2 : Ob) (r : Int32) (n2 : Ob) (hF : F_Law_line x1 x2 o0 o1 o2 = some (r, n2)) : Met l y_Law_line ws_Law_line rm_Law_line (bw_Pc [.ref (a0 0), .int x1, .int x2, .ref (a2 0)] (dC, dI) vwCl (tyA ct) [wPF ct a0 r0_0 (a1 0) r0_4 r0_5 r0_6 v0 o0, wText ct a1 r1_2 o1, wOut ct a2 o2] sz thh) (bw_Q (dC, dI) vwCl (some (.int r)) [wPF ct a0 r0_0 (a1 0) r0_4 r0_5 r0_6 v0 o0, wText ct a1 r1_2 o1, wOut ct a2 n2] (bw_A [adPF a0, adText a1, adOut a2] sz)) 1 6 (bw_A [adPF a0, adText a1, adOut a2] sz) := by
  refine va_MetW (cc := b_Law_line) (maxL := 5) (ret := (some .int)) (hh := [(0, 10, 13, 13), (0, 10, 17, 21)]) (by decide) rfl ?_
  intro p e s m args below meth c s₁ B hml hv0
  obtain ⟨rfl, hsz, hP, hK, hN0, hnx, hth, hex9⟩ := hv0
  obtain ⟨te1, te2, htab, hte1, hte2⟩ := ct_rows2 (ct_table (hh := [(0, 10, 13, 13), (0, 10, 17, 21)]) B List.mem_cons_self)
  have hx := B.exec
  have hb := B.bytes
  have hr := B.returns
  have hts : ∀ w ∈ wsAll, w.before [.ref (a0 0), .int x1, .int x2, .ref (a2 0)].toArray s = true := fun w h9 => atoms_spec (ws := ws_Law_line) B.pre w (List.mem_cons_of_mem _ h9)
  have hown : s.vm.findClass R_Law = some m.cls := findClass_of_methodNamed B.named
  have hlocks := B.notSynchronized
  subst hsz
  have hN : bw_N (bw_A [adPF a0, adText a1, adOut a2] s.heap.size) [adPF a0, adText a1, adOut a2] := hN0.self s.heap.size
  generalize hAe : bw_A [adPF a0, adText a1, adOut a2] s.heap.size = A at hN ⊢
  have hA : ∀ q : Nat, s.heap.size ≤ q → A q := fun q h => by rw [← hAe]; exact Or.inr h
  have hS : va_S A s.heap s.heap [] := va_S.rf
  have hl := lv_entry ([.ref (a0 0), .int x1, .int x2, .ref (a2 0)]) (n := 5) (Nat.le_of_ble_eq_true rfl)
  rw [lg_entry_eq]
  generalize (lg_sl ([.ref (a0 0), .int x1, .int x2, .ref (a2 0)]) ++ List.replicate (5 - (lg_sl ([.ref (a0 0), .int x1, .int x2, .ref (a2 0)])).length) Slot.unset).toArray = ls at hl ⊢
  have hl : lv_has ls 5 [(0, .ref (a0 0)), (1, .int x1), (2, .int x2), (3, .ref (a2 0))] := hl
  have h := hF
  rw [F_Law_line] at h
  refine lv_aload_n hx hb d_Law_line_0 rfl (lv_at hl 3 rfl) ?_
  refine lv_iconst (v := 0) hx hb d_Law_line_1 (by decide) ?_
  refine lv_aload_n hx hb d_Law_line_2 rfl (lv_at hl 0 rfl) ?_
  refine lv_iload_n hx hb d_Law_line_3 rfl (lv_at hl 1 rfl) ?_
  refine lv_iload_n hx hb d_Law_line_4 rfl (lv_at hl 2 rfl) ?_
  obtain ⟨k_3, v2, hG1, h⟩ := bind2_some h
  by_cases hk7 : k_3 = 0
  · subst hk7
    have h := ite_t rfl h
    refine W.widen (k := 1) (n := 6) (by omega) (by omega) ?_
    refine bw_callR (va_runV (As := [.int x1, .int x2]) (rest := [.int (0 : Int32), .ref (a2 0)]) ⟨hx, hb, hml, hown, hts⟩ (c_PF_line l ct dC dI a0 a1 r0_0 r0_4 r0_5 r0_6 v0 r1_2 _ x1 x2 o0 o1 v2 hG1) (cwV 2 hts g_Law_41 rfl rfl rfl (by decide +kernel) ⟨Nat.le_of_ble_eq_true rfl, Nat.le_of_ble_eq_true rfl⟩) ⟨bw_blind nx_call, va_recv hK (hP 0 _ rfl) (ci := 5) (q0 := 0) rfl rfl, fun U hU hW => ⟨rfl, by rw [hU], by rw [hU]; exact hP.sub [0, 1] rfl, va_K.moved hW.alike hK, (hN.sub [0, 1] (by decide) rfl).weaken (fun _ _ => trivial), nx_warm hW hnx⟩⟩ rfl rfl hl.1 rfl (Nat.le_of_ble_eq_true rfl) d_Law_line_5 ⟨Nat.le_of_ble_eq_true rfl, Nat.le_of_ble_eq_true rfl⟩) ?_
    refine lv_i2l (v := (Int32.toInt64 v2)) hx hb d_Law_line_8 rfl ?_
    obtain ⟨hi4, h⟩ := chk_some h
    refine st_Out_0 hx hb hK hP hN hS 2 rfl (inb_in hi4) d_Law_line_9 (fun H locs hP hS => ?_)
    have hP : bw_P (dC, dI) vwCl [wPF ct a0 r0_0 (a1 0) r0_4 r0_5 r0_6 v0 o0, wText ct a1 r1_2 o1, wOut ct a2 (s64 o2 0 (Int32.toNatClampNeg (0 : Int32)) (Int32.toInt64 v2))] H := hP
    refine lv_goto (tgt := 21) hx hb d_Law_line_10 (by decide) ?_
    refine lv_iconst (v := 0) hx hb d_Law_line_21 (by decide) ?_
    obtain ⟨rfl, rfl⟩ := res2 h
    exact W.iret hx hb hr (fun t ht hW => ⟨rfl, by rw [ht]; exact hP, hS.F ht⟩) hS.2.2 d_Law_line_22
  · have h := ite_f hk7 h
    by_cases c6 : k_3 = 1
    · subst c6
      have h := ite_t rfl h
      refine bt_catV (As := [.int x1, .int x2]) (rest := [.int (0 : Int32), .ref (a2 0)]) (hd := 13) (H := s.heap) ⟨hx, hb, hml, hown, hts⟩ (x_PF_line l hl0 ct dC dI a0 a1 r0_0 r0_4 r0_5 r0_6 v0 r1_2 _ x1 x2 o0 o1 1 v2 hG1 (by decide)) (cwV 2 hts g_Law_41 rfl rfl rfl (by decide +kernel) ⟨Nat.le_of_ble_eq_true rfl, Nat.le_of_ble_eq_true rfl⟩) ⟨bw_blind thx_call, va_recv hK (hP 0 _ rfl) (ci := 5) (q0 := 0) rfl rfl, fun U hU hW => ⟨rfl, by rw [hU], by rw [hU]; exact hP.sub [0, 1] rfl, va_K.moved hW.alike hK, (hN.sub [0, 1] (by decide) rfl).weaken (fun _ _ => trivial), ⟨nx_warm hW hnx, thx_warm hW hU hth⟩⟩⟩ rfl hl.1 rfl (Nat.le_of_ble_eq_true rfl) d_Law_line_5 ⟨Nat.le_of_ble_eq_true rfl, Nat.le_of_ble_eq_true rfl⟩ (fun t9 ht9 => exX.at hex9 1 (by decide) ht9) (fun t9 ht9 => ⟨[], te1, [te2], htab, (fun _ h9 => by cases h9), ct_row hex9 (i := 1) (j := 1) (by decide) (by decide) hte1 (by decide) (by decide) (hts _ cl_Law_13) ht9, congrArg (fun q => q.2.2.1) hte1⟩) (fun x9 H9 ho9 hz9 => ?_)
      have hP := bw_P.old hP ho9
      have hS := va_S.old hS ho9 hz9
      refine lv_astore (lv' := [(4, .ref x9), (0, .ref (a0 0)), (1, .int x1), (2, .int x2), (3, .ref (a2 0))]) hx hb d_Law_line_13 hl (by decide) rfl (fun ls hl => ?_)
      refine lv_iconst (v := 1) hx hb d_Law_line_15 (by decide) ?_
      obtain ⟨rfl, rfl⟩ := res2 h
      exact W.iret hx hb hr (fun t ht hW => ⟨rfl, by rw [ht]; exact hP, hS.F ht⟩) hS.2.2 d_Law_line_16
    · have h := ite_f c6 h
      by_cases c5 : k_3 = 3
      · subst c5
        have h := ite_t rfl h
        refine bt_catV (As := [.int x1, .int x2]) (rest := [.int (0 : Int32), .ref (a2 0)]) (hd := 17) (H := s.heap) ⟨hx, hb, hml, hown, hts⟩ (x_PF_line l hl0 ct dC dI a0 a1 r0_0 r0_4 r0_5 r0_6 v0 r1_2 _ x1 x2 o0 o1 3 v2 hG1 (by decide)) (cwV 2 hts g_Law_41 rfl rfl rfl (by decide +kernel) ⟨Nat.le_of_ble_eq_true rfl, Nat.le_of_ble_eq_true rfl⟩) ⟨bw_blind thx_call, va_recv hK (hP 0 _ rfl) (ci := 5) (q0 := 0) rfl rfl, fun U hU hW => ⟨rfl, by rw [hU], by rw [hU]; exact hP.sub [0, 1] rfl, va_K.moved hW.alike hK, (hN.sub [0, 1] (by decide) rfl).weaken (fun _ _ => trivial), ⟨nx_warm hW hnx, thx_warm hW hU hth⟩⟩⟩ rfl hl.1 rfl (Nat.le_of_ble_eq_true rfl) d_Law_line_5 ⟨Nat.le_of_ble_eq_true rfl, Nat.le_of_ble_eq_true rfl⟩ (fun t9 ht9 => exX.at hex9 3 (by decide) ht9) (fun t9 ht9 => ⟨[te1], te2, [], htab, (List.forall_mem_cons.mpr ⟨ct_row hex9 (i := 3) (j := 1) (by decide) (by decide) hte1 (by decide) (by decide) (hts _ cl_Law_13) ht9, (fun _ h9 => by cases h9)⟩), ct_row hex9 (i := 3) (j := 3) (by decide) (by decide) hte2 (by decide) (by decide) (hts _ cl_Law_21) ht9, congrArg (fun q => q.2.2.1) hte2⟩) (fun x9 H9 ho9 hz9 => ?_)
        have hP := bw_P.old hP ho9
        have hS := va_S.old hS ho9 hz9
        refine lv_astore (lv' := [(4, .ref x9), (0, .ref (a0 0)), (1, .int x1), (2, .int x2), (3, .ref (a2 0))]) hx hb d_Law_line_17 hl (by decide) rfl (fun ls hl => ?_)
        refine lv_iconst (v := 2) hx hb d_Law_line_19 (by decide) ?_
        obtain ⟨rfl, rfl⟩ := res2 h
        exact W.iret hx hb hr (fun t ht hW => ⟨rfl, by rw [ht]; exact hP, hS.F ht⟩) hS.2.2 d_Law_line_20
      · have h := ite_f c5 h
        cases h
theorem g_Law_44 : GoodIn wsAll (wsV R_Law 44 R_PF y_PF_needs ws_PF_needs) := gd_V ml_Law_44 im_PF_needs se_PF_needs ini_PF cd_PF_needs
def F_Law_needs (x1 : Int32) (x2 : Int32) (o0 o1 o2 : Ob) : Option (Int32 × Ob) :=
  bind2 (F_PF_needs x1 x2 o0 o1) (fun k_3 v2 => if k_3 = 0 then (if (b2i v2) = 0 then (chk (inb (0 : Int32) 1) (some ((0 : Int32), (s64 o2 0 (Int32.toNatClampNeg (0 : Int32)) (0 : Int64))))) else (chk (inb (0 : Int32) 1) (some ((0 : Int32), (s64 o2 0 (Int32.toNatClampNeg (0 : Int32)) (1 : Int64)))))) else (if k_3 = 1 then (some ((1 : Int32), o2)) else (if k_3 = 3 then (some ((2 : Int32), o2)) else (none))))
abbrev ws_Law_needs : List Cond := Cond.codeWith y_Law_needs b_Law_needs 5 (some .int) [(0, 17, 20, 13), (0, 17, 24, 21)] :: wsAll
abbrev rm_Law_needs : Room := { frames := 8, cells := 1, slots := 6, locals := 143 }
set_option maxHeartbeats 4000000 in
set_option maxRecDepth 100000 in
theorem c_Law_needs (l : Launch) (hl0 : l.stackTraces = false) (ct dC : Nat → ClassId) (dI : Nat → Nat → Nat) (a0 a1 a2 : Nat → Nat) (r0_0 : Nat) (r0_4 : Nat) (r0_5 : Nat) (r0_6 : Nat) (v0 : Nat → Nat) (r1_2 : Nat) (sz : Nat) (x1 : Int32) (x2 : Int32) (o0 o1 o2 : Ob) (r : Int32) (n2 : Ob) (hF : F_Law_needs x1 x2 o0 o1 o2 = some (r, n2)) : Met l y_Law_needs ws_Law_needs rm_Law_needs (bw_Pc [.ref (a0 0), .int x1, .int x2, .ref (a2 0)] (dC, dI) vwCl (tyA ct) [wPF ct a0 r0_0 (a1 0) r0_4 r0_5 r0_6 v0 o0, wText ct a1 r1_2 o1, wOut ct a2 o2] sz thh) (bw_Q (dC, dI) vwCl (some (.int r)) [wPF ct a0 r0_0 (a1 0) r0_4 r0_5 r0_6 v0 o0, wText ct a1 r1_2 o1, wOut ct a2 n2] (bw_A [adPF a0, adText a1, adOut a2] sz)) 1 6 (bw_A [adPF a0, adText a1, adOut a2] sz) := by
  refine va_MetW (cc := b_Law_needs) (maxL := 5) (ret := (some .int)) (hh := [(0, 17, 20, 13), (0, 17, 24, 21)]) (by decide) rfl ?_
  intro p e s m args below meth c s₁ B hml hv0
  obtain ⟨rfl, hsz, hP, hK, hN0, hnx, hth, hex9⟩ := hv0
  obtain ⟨te1, te2, htab, hte1, hte2⟩ := ct_rows2 (ct_table (hh := [(0, 17, 20, 13), (0, 17, 24, 21)]) B List.mem_cons_self)
  have hx := B.exec
  have hb := B.bytes
  have hr := B.returns
  have hts : ∀ w ∈ wsAll, w.before [.ref (a0 0), .int x1, .int x2, .ref (a2 0)].toArray s = true := fun w h9 => atoms_spec (ws := ws_Law_needs) B.pre w (List.mem_cons_of_mem _ h9)
  have hown : s.vm.findClass R_Law = some m.cls := findClass_of_methodNamed B.named
  have hlocks := B.notSynchronized
  subst hsz
  have hN : bw_N (bw_A [adPF a0, adText a1, adOut a2] s.heap.size) [adPF a0, adText a1, adOut a2] := hN0.self s.heap.size
  generalize hAe : bw_A [adPF a0, adText a1, adOut a2] s.heap.size = A at hN ⊢
  have hA : ∀ q : Nat, s.heap.size ≤ q → A q := fun q h => by rw [← hAe]; exact Or.inr h
  have hS : va_S A s.heap s.heap [] := va_S.rf
  have hl := lv_entry ([.ref (a0 0), .int x1, .int x2, .ref (a2 0)]) (n := 5) (Nat.le_of_ble_eq_true rfl)
  rw [lg_entry_eq]
  generalize (lg_sl ([.ref (a0 0), .int x1, .int x2, .ref (a2 0)]) ++ List.replicate (5 - (lg_sl ([.ref (a0 0), .int x1, .int x2, .ref (a2 0)])).length) Slot.unset).toArray = ls at hl ⊢
  have hl : lv_has ls 5 [(0, .ref (a0 0)), (1, .int x1), (2, .int x2), (3, .ref (a2 0))] := hl
  have h := hF
  rw [F_Law_needs] at h
  refine lv_aload_n hx hb d_Law_needs_0 rfl (lv_at hl 3 rfl) ?_
  refine lv_iconst (v := 0) hx hb d_Law_needs_1 (by decide) ?_
  refine lv_aload_n hx hb d_Law_needs_2 rfl (lv_at hl 0 rfl) ?_
  refine lv_iload_n hx hb d_Law_needs_3 rfl (lv_at hl 1 rfl) ?_
  refine lv_iload_n hx hb d_Law_needs_4 rfl (lv_at hl 2 rfl) ?_
  obtain ⟨k_3, v2, hG1, h⟩ := bind2_some h
  by_cases hk9 : k_3 = 0
  · subst hk9
    have h := ite_t rfl h
    refine W.widen (k := 1) (n := 6) (by omega) (by omega) ?_
    refine bw_callR (va_runV (As := [.int x1, .int x2]) (rest := [.int (0 : Int32), .ref (a2 0)]) ⟨hx, hb, hml, hown, hts⟩ (c_PF_needs l ct dC dI a0 a1 r0_0 r0_4 r0_5 r0_6 v0 r1_2 _ x1 x2 o0 o1 v2 hG1) (cwV 2 hts g_Law_44 rfl rfl rfl (by decide +kernel) ⟨Nat.le_of_ble_eq_true rfl, Nat.le_of_ble_eq_true rfl⟩) ⟨bw_blind nx_call, va_recv hK (hP 0 _ rfl) (ci := 5) (q0 := 0) rfl rfl, fun U hU hW => ⟨rfl, by rw [hU], by rw [hU]; exact hP.sub [0, 1] rfl, va_K.moved hW.alike hK, (hN.sub [0, 1] (by decide) rfl).weaken (fun _ _ => trivial), nx_warm hW hnx⟩⟩ rfl rfl hl.1 rfl (Nat.le_of_ble_eq_true rfl) d_Law_needs_5 ⟨Nat.le_of_ble_eq_true rfl, Nat.le_of_ble_eq_true rfl⟩) ?_
    refine lv_if_eq (tgt := 15) hx hb d_Law_needs_8 (by decide) (fun c4 => ?_) (fun c4 => ?_)
    · have h := ite_t c4 h
      refine lv_lconst (v := 0) hx hb d_Law_needs_15 (by decide) ?_
      obtain ⟨hi5, h⟩ := chk_some h
      refine st_Out_0 hx hb hK hP hN hS 2 rfl (inb_in hi5) d_Law_needs_16 (fun H locs hP hS => ?_)
      have hP : bw_P (dC, dI) vwCl [wPF ct a0 r0_0 (a1 0) r0_4 r0_5 r0_6 v0 o0, wText ct a1 r1_2 o1, wOut ct a2 (s64 o2 0 (Int32.toNatClampNeg (0 : Int32)) (0 : Int64))] H := hP
      refine lv_goto (tgt := 28) hx hb d_Law_needs_17 (by decide) ?_
      refine lv_iconst (v := 0) hx hb d_Law_needs_28 (by decide) ?_
      obtain ⟨rfl, rfl⟩ := res2 h
      exact W.iret hx hb hr (fun t ht hW => ⟨rfl, by rw [ht]; exact hP, hS.F ht⟩) hS.2.2 d_Law_needs_29
    · have h := ite_f c4 h
      refine lv_lconst (v := 1) hx hb d_Law_needs_11 (by decide) ?_
      refine lv_goto (tgt := 16) hx hb d_Law_needs_12 (by decide) ?_
      obtain ⟨hi6, h⟩ := chk_some h
      refine st_Out_0 hx hb hK hP hN hS 2 rfl (inb_in hi6) d_Law_needs_16 (fun H locs hP hS => ?_)
      have hP : bw_P (dC, dI) vwCl [wPF ct a0 r0_0 (a1 0) r0_4 r0_5 r0_6 v0 o0, wText ct a1 r1_2 o1, wOut ct a2 (s64 o2 0 (Int32.toNatClampNeg (0 : Int32)) (1 : Int64))] H := hP
      refine lv_goto (tgt := 28) hx hb d_Law_needs_17 (by decide) ?_
      refine lv_iconst (v := 0) hx hb d_Law_needs_28 (by decide) ?_
      obtain ⟨rfl, rfl⟩ := res2 h
      exact W.iret hx hb hr (fun t ht hW => ⟨rfl, by rw [ht]; exact hP, hS.F ht⟩) hS.2.2 d_Law_needs_29
  · have h := ite_f hk9 h
    by_cases c8 : k_3 = 1
    · subst c8
      have h := ite_t rfl h
      refine bt_catV (As := [.int x1, .int x2]) (rest := [.int (0 : Int32), .ref (a2 0)]) (hd := 20) (H := s.heap) ⟨hx, hb, hml, hown, hts⟩ (x_PF_needs l hl0 ct dC dI a0 a1 r0_0 r0_4 r0_5 r0_6 v0 r1_2 _ x1 x2 o0 o1 1 v2 hG1 (by decide)) (cwV 2 hts g_Law_44 rfl rfl rfl (by decide +kernel) ⟨Nat.le_of_ble_eq_true rfl, Nat.le_of_ble_eq_true rfl⟩) ⟨bw_blind thx_call, va_recv hK (hP 0 _ rfl) (ci := 5) (q0 := 0) rfl rfl, fun U hU hW => ⟨rfl, by rw [hU], by rw [hU]; exact hP.sub [0, 1] rfl, va_K.moved hW.alike hK, (hN.sub [0, 1] (by decide) rfl).weaken (fun _ _ => trivial), ⟨nx_warm hW hnx, thx_warm hW hU hth⟩⟩⟩ rfl hl.1 rfl (Nat.le_of_ble_eq_true rfl) d_Law_needs_5 ⟨Nat.le_of_ble_eq_true rfl, Nat.le_of_ble_eq_true rfl⟩ (fun t9 ht9 => exX.at hex9 1 (by decide) ht9) (fun t9 ht9 => ⟨[], te1, [te2], htab, (fun _ h9 => by cases h9), ct_row hex9 (i := 1) (j := 1) (by decide) (by decide) hte1 (by decide) (by decide) (hts _ cl_Law_13) ht9, congrArg (fun q => q.2.2.1) hte1⟩) (fun x9 H9 ho9 hz9 => ?_)
      have hP := bw_P.old hP ho9
      have hS := va_S.old hS ho9 hz9
      refine lv_astore (lv' := [(4, .ref x9), (0, .ref (a0 0)), (1, .int x1), (2, .int x2), (3, .ref (a2 0))]) hx hb d_Law_needs_20 hl (by decide) rfl (fun ls hl => ?_)
      refine lv_iconst (v := 1) hx hb d_Law_needs_22 (by decide) ?_
      obtain ⟨rfl, rfl⟩ := res2 h
      exact W.iret hx hb hr (fun t ht hW => ⟨rfl, by rw [ht]; exact hP, hS.F ht⟩) hS.2.2 d_Law_needs_23
    · have h := ite_f c8 h
      by_cases c7 : k_3 = 3
      · subst c7
        have h := ite_t rfl h
        refine bt_catV (As := [.int x1, .int x2]) (rest := [.int (0 : Int32), .ref (a2 0)]) (hd := 24) (H := s.heap) ⟨hx, hb, hml, hown, hts⟩ (x_PF_needs l hl0 ct dC dI a0 a1 r0_0 r0_4 r0_5 r0_6 v0 r1_2 _ x1 x2 o0 o1 3 v2 hG1 (by decide)) (cwV 2 hts g_Law_44 rfl rfl rfl (by decide +kernel) ⟨Nat.le_of_ble_eq_true rfl, Nat.le_of_ble_eq_true rfl⟩) ⟨bw_blind thx_call, va_recv hK (hP 0 _ rfl) (ci := 5) (q0 := 0) rfl rfl, fun U hU hW => ⟨rfl, by rw [hU], by rw [hU]; exact hP.sub [0, 1] rfl, va_K.moved hW.alike hK, (hN.sub [0, 1] (by decide) rfl).weaken (fun _ _ => trivial), ⟨nx_warm hW hnx, thx_warm hW hU hth⟩⟩⟩ rfl hl.1 rfl (Nat.le_of_ble_eq_true rfl) d_Law_needs_5 ⟨Nat.le_of_ble_eq_true rfl, Nat.le_of_ble_eq_true rfl⟩ (fun t9 ht9 => exX.at hex9 3 (by decide) ht9) (fun t9 ht9 => ⟨[te1], te2, [], htab, (List.forall_mem_cons.mpr ⟨ct_row hex9 (i := 3) (j := 1) (by decide) (by decide) hte1 (by decide) (by decide) (hts _ cl_Law_13) ht9, (fun _ h9 => by cases h9)⟩), ct_row hex9 (i := 3) (j := 3) (by decide) (by decide) hte2 (by decide) (by decide) (hts _ cl_Law_21) ht9, congrArg (fun q => q.2.2.1) hte2⟩) (fun x9 H9 ho9 hz9 => ?_)
        have hP := bw_P.old hP ho9
        have hS := va_S.old hS ho9 hz9
        refine lv_astore (lv' := [(4, .ref x9), (0, .ref (a0 0)), (1, .int x1), (2, .int x2), (3, .ref (a2 0))]) hx hb d_Law_needs_24 hl (by decide) rfl (fun ls hl => ?_)
        refine lv_iconst (v := 2) hx hb d_Law_needs_26 (by decide) ?_
        obtain ⟨rfl, rfl⟩ := res2 h
        exact W.iret hx hb hr (fun t ht hW => ⟨rfl, by rw [ht]; exact hP, hS.F ht⟩) hS.2.2 d_Law_needs_27
      · have h := ite_f c7 h
        cases h
theorem g_Law_48 : GoodIn wsAll (wsV R_Law 48 R_PF y_PF_limit ws_PF_limit) := gd_V ml_Law_48 im_PF_limit se_PF_limit ini_PF cd_PF_limit
def F_Law_limit (x1 : Int32) (x2 : Int32) (o0 o1 o2 o3 o4 o5 : Ob) : Option (Int32 × Ob × Ob) :=
  bind3 (F_PF_limit x1 x2 o0 o1 o2 o3 o4) (fun k_4 v2 o_3 => if k_4 = 0 then (chk (inb (0 : Int32) 1) (some ((0 : Int32), o_3, (s64 o5 0 (Int32.toNatClampNeg (0 : Int32)) (Int32.toInt64 v2))))) else (if k_4 = 1 then (some ((1 : Int32), o2, o5)) else (if k_4 = 2 then (some ((2 : Int32), o2, o5)) else (none))))
abbrev ws_Law_limit : List Cond := Cond.codeWith y_Law_limit b_Law_limit 5 (some .int) [(0, 10, 13, 13), (0, 10, 17, 15)] :: wsAll
abbrev rm_Law_limit : Room := { frames := 8, cells := 1, slots := 6, locals := 192 }
set_option maxHeartbeats 4000000 in
set_option maxRecDepth 100000 in
theorem c_Law_limit (l : Launch) (hl0 : l.stackTraces = false) (ct dC : Nat → ClassId) (dI : Nat → Nat → Nat) (a0 a1 a2 a3 a4 a5 : Nat → Nat) (r0_0 : Nat) (r0_6 : Nat) (v0 : Nat → Nat) (sz : Nat) (x1 : Int32) (x2 : Int32) (o0 o1 o2 o3 o4 o5 : Ob) (r : Int32) (n2 n5 : Ob) (hF : F_Law_limit x1 x2 o0 o1 o2 o3 o4 o5 = some (r, n2, n5)) : Met l y_Law_limit ws_Law_limit rm_Law_limit (bw_Pc [.ref (a0 0), .int x1, .int x2, .ref (a5 0)] (dC, dI) vwCl (tyA ct) [wPF ct a0 r0_0 (a3 0) (a2 0) (a1 0) r0_6 v0 o0, wCells ct a1 o1, wReckoner ct a2 o2, wText ct a3 (a4 0) o3, wSteps ct a4 o4, wOut ct a5 o5] sz thh) (bw_Q (dC, dI) vwCl (some (.int r)) [wPF ct a0 r0_0 (a3 0) (a2 0) (a1 0) r0_6 v0 o0, wCells ct a1 o1, wReckoner ct a2 n2, wText ct a3 (a4 0) o3, wSteps ct a4 o4, wOut ct a5 n5] (bw_A [adPF a0, adCells a1, adReckoner a2, adText a3, adSteps a4, adOut a5] sz)) 1 6 (bw_A [adPF a0, adCells a1, adReckoner a2, adText a3, adSteps a4, adOut a5] sz) := by
  refine va_MetW (cc := b_Law_limit) (maxL := 5) (ret := (some .int)) (hh := [(0, 10, 13, 13), (0, 10, 17, 15)]) (by decide) rfl ?_
  intro p e s m args below meth c s₁ B hml hv0
  obtain ⟨rfl, hsz, hP, hK, hN0, hnx, hth, hex9⟩ := hv0
  obtain ⟨te1, te2, htab, hte1, hte2⟩ := ct_rows2 (ct_table (hh := [(0, 10, 13, 13), (0, 10, 17, 15)]) B List.mem_cons_self)
  have hx := B.exec
  have hb := B.bytes
  have hr := B.returns
  have hts : ∀ w ∈ wsAll, w.before [.ref (a0 0), .int x1, .int x2, .ref (a5 0)].toArray s = true := fun w h9 => atoms_spec (ws := ws_Law_limit) B.pre w (List.mem_cons_of_mem _ h9)
  have hown : s.vm.findClass R_Law = some m.cls := findClass_of_methodNamed B.named
  have hlocks := B.notSynchronized
  subst hsz
  have hN : bw_N (bw_A [adPF a0, adCells a1, adReckoner a2, adText a3, adSteps a4, adOut a5] s.heap.size) [adPF a0, adCells a1, adReckoner a2, adText a3, adSteps a4, adOut a5] := hN0.self s.heap.size
  generalize hAe : bw_A [adPF a0, adCells a1, adReckoner a2, adText a3, adSteps a4, adOut a5] s.heap.size = A at hN ⊢
  have hA : ∀ q : Nat, s.heap.size ≤ q → A q := fun q h => by rw [← hAe]; exact Or.inr h
  have hS : va_S A s.heap s.heap [] := va_S.rf
  have hl := lv_entry ([.ref (a0 0), .int x1, .int x2, .ref (a5 0)]) (n := 5) (Nat.le_of_ble_eq_true rfl)
  rw [lg_entry_eq]
  generalize (lg_sl ([.ref (a0 0), .int x1, .int x2, .ref (a5 0)]) ++ List.replicate (5 - (lg_sl ([.ref (a0 0), .int x1, .int x2, .ref (a5 0)])).length) Slot.unset).toArray = ls at hl ⊢
  have hl : lv_has ls 5 [(0, .ref (a0 0)), (1, .int x1), (2, .int x2), (3, .ref (a5 0))] := hl
  have h := hF
  rw [F_Law_limit] at h
  refine lv_aload_n hx hb d_Law_limit_0 rfl (lv_at hl 3 rfl) ?_
  refine lv_iconst (v := 0) hx hb d_Law_limit_1 (by decide) ?_
  refine lv_aload_n hx hb d_Law_limit_2 rfl (lv_at hl 0 rfl) ?_
  refine lv_iload_n hx hb d_Law_limit_3 rfl (lv_at hl 1 rfl) ?_
  refine lv_iload_n hx hb d_Law_limit_4 rfl (lv_at hl 2 rfl) ?_
  obtain ⟨k_4, v2, o_3, hG1, h⟩ := bind3_some h
  by_cases hk8 : k_4 = 0
  · subst hk8
    have h := ite_t rfl h
    refine W.widen (k := 1) (n := 6) (by omega) (by omega) ?_
    refine bw_call (Lc := [wPF ct a0 r0_0 (a3 0) (a2 0) (a1 0) r0_6 v0 o0, wCells ct a1 o1, wReckoner ct a2 o2, wText ct a3 (a4 0) o3, wSteps ct a4 o4]) (Lc' := [wPF ct a0 r0_0 (a3 0) (a2 0) (a1 0) r0_6 v0 o0, wCells ct a1 o1, wReckoner ct a2 o_3, wText ct a3 (a4 0) o3, wSteps ct a4 o4]) (L' := [wPF ct a0 r0_0 (a3 0) (a2 0) (a1 0) r0_6 v0 o0, wCells ct a1 o1, wReckoner ct a2 o_3, wText ct a3 (a4 0) o3, wSteps ct a4 o4, wOut ct a5 o5]) [0, 1, 2, 3, 4] (va_runV (As := [.int x1, .int x2]) (rest := [.int (0 : Int32), .ref (a5 0)]) ⟨hx, hb, hml, hown, hts⟩ (c_PF_limit l ct dC dI a0 a1 a2 a3 a4 r0_0 r0_6 v0 _ x1 x2 o0 o1 o2 o3 o4 v2 o_3 hG1) (cwV 2 hts g_Law_48 rfl rfl rfl (by decide +kernel) ⟨Nat.le_of_ble_eq_true rfl, Nat.le_of_ble_eq_true rfl⟩) ⟨bw_blind nx_call, va_recv hK (hP 0 _ rfl) (ci := 5) (q0 := 0) rfl rfl, fun U hU hW => ⟨rfl, by rw [hU], by rw [hU]; exact hP.sub [0, 1, 2, 3, 4] rfl, va_K.moved hW.alike hK, (hN.sub [0, 1, 2, 3, 4] (by decide) rfl).weaken (fun _ _ => trivial), nx_warm hW hnx⟩⟩ rfl rfl hl.1 rfl (Nat.le_of_ble_eq_true rfl) d_Law_limit_5 ⟨Nat.le_of_ble_eq_true rfl, Nat.le_of_ble_eq_true rfl⟩) hP hN hS hA rfl rfl rfl (fun H locs hP hS => ?_)
    refine lv_i2l (v := (Int32.toInt64 v2)) hx hb d_Law_limit_8 rfl ?_
    obtain ⟨hi5, h⟩ := chk_some h
    refine st_Out_0 hx hb hK hP hN hS 5 rfl (inb_in hi5) d_Law_limit_9 (fun H locs hP hS => ?_)
    have hP : bw_P (dC, dI) vwCl [wPF ct a0 r0_0 (a3 0) (a2 0) (a1 0) r0_6 v0 o0, wCells ct a1 o1, wReckoner ct a2 o_3, wText ct a3 (a4 0) o3, wSteps ct a4 o4, wOut ct a5 (s64 o5 0 (Int32.toNatClampNeg (0 : Int32)) (Int32.toInt64 v2))] H := hP
    refine lv_goto (tgt := 21) hx hb d_Law_limit_10 (by decide) ?_
    refine lv_iconst (v := 0) hx hb d_Law_limit_21 (by decide) ?_
    obtain ⟨rfl, rfl, rfl⟩ := res3 h
    exact W.iret hx hb hr (fun t ht hW => ⟨rfl, by rw [ht]; exact hP, hS.F ht⟩) hS.2.2 d_Law_limit_22
  · have h := ite_f hk8 h
    by_cases c7 : k_4 = 1
    · subst c7
      have h := ite_t rfl h
      refine bt_catV (As := [.int x1, .int x2]) (rest := [.int (0 : Int32), .ref (a5 0)]) (hd := 13) (H := s.heap) ⟨hx, hb, hml, hown, hts⟩ (x_PF_limit l hl0 ct dC dI a0 a1 a2 a3 a4 r0_0 r0_6 v0 _ x1 x2 o0 o1 o2 o3 o4 1 v2 o_3 hG1 (by decide)) (cwV 2 hts g_Law_48 rfl rfl rfl (by decide +kernel) ⟨Nat.le_of_ble_eq_true rfl, Nat.le_of_ble_eq_true rfl⟩) ⟨bw_blind thx_call, va_recv hK (hP 0 _ rfl) (ci := 5) (q0 := 0) rfl rfl, fun U hU hW => ⟨rfl, by rw [hU], by rw [hU]; exact hP.sub [0, 1, 2, 3, 4] rfl, va_K.moved hW.alike hK, (hN.sub [0, 1, 2, 3, 4] (by decide) rfl).weaken (fun _ _ => trivial), ⟨nx_warm hW hnx, thx_warm hW hU hth⟩⟩⟩ rfl hl.1 rfl (Nat.le_of_ble_eq_true rfl) d_Law_limit_5 ⟨Nat.le_of_ble_eq_true rfl, Nat.le_of_ble_eq_true rfl⟩ (fun t9 ht9 => exX.at hex9 1 (by decide) ht9) (fun t9 ht9 => ⟨[], te1, [te2], htab, (fun _ h9 => by cases h9), ct_row hex9 (i := 1) (j := 1) (by decide) (by decide) hte1 (by decide) (by decide) (hts _ cl_Law_13) ht9, congrArg (fun q => q.2.2.1) hte1⟩) (fun x9 H9 ho9 hz9 => ?_)
      have hP := bw_P.old hP ho9
      have hS := va_S.old hS ho9 hz9
      refine lv_astore (lv' := [(4, .ref x9), (0, .ref (a0 0)), (1, .int x1), (2, .int x2), (3, .ref (a5 0))]) hx hb d_Law_limit_13 hl (by decide) rfl (fun ls hl => ?_)
      refine lv_iconst (v := 1) hx hb d_Law_limit_15 (by decide) ?_
      obtain ⟨rfl, rfl, rfl⟩ := res3 h
      exact W.iret hx hb hr (fun t ht hW => ⟨rfl, by rw [ht]; exact hP, hS.F ht⟩) hS.2.2 d_Law_limit_16
    · have h := ite_f c7 h
      by_cases c6 : k_4 = 2
      · subst c6
        have h := ite_t rfl h
        refine bt_catV (As := [.int x1, .int x2]) (rest := [.int (0 : Int32), .ref (a5 0)]) (hd := 17) (H := s.heap) ⟨hx, hb, hml, hown, hts⟩ (x_PF_limit l hl0 ct dC dI a0 a1 a2 a3 a4 r0_0 r0_6 v0 _ x1 x2 o0 o1 o2 o3 o4 2 v2 o_3 hG1 (by decide)) (cwV 2 hts g_Law_48 rfl rfl rfl (by decide +kernel) ⟨Nat.le_of_ble_eq_true rfl, Nat.le_of_ble_eq_true rfl⟩) ⟨bw_blind thx_call, va_recv hK (hP 0 _ rfl) (ci := 5) (q0 := 0) rfl rfl, fun U hU hW => ⟨rfl, by rw [hU], by rw [hU]; exact hP.sub [0, 1, 2, 3, 4] rfl, va_K.moved hW.alike hK, (hN.sub [0, 1, 2, 3, 4] (by decide) rfl).weaken (fun _ _ => trivial), ⟨nx_warm hW hnx, thx_warm hW hU hth⟩⟩⟩ rfl hl.1 rfl (Nat.le_of_ble_eq_true rfl) d_Law_limit_5 ⟨Nat.le_of_ble_eq_true rfl, Nat.le_of_ble_eq_true rfl⟩ (fun t9 ht9 => exX.at hex9 2 (by decide) ht9) (fun t9 ht9 => ⟨[te1], te2, [], htab, (List.forall_mem_cons.mpr ⟨ct_row hex9 (i := 2) (j := 1) (by decide) (by decide) hte1 (by decide) (by decide) (hts _ cl_Law_13) ht9, (fun _ h9 => by cases h9)⟩), ct_row hex9 (i := 2) (j := 2) (by decide) (by decide) hte2 (by decide) (by decide) (hts _ cl_Law_15) ht9, congrArg (fun q => q.2.2.1) hte2⟩) (fun x9 H9 ho9 hz9 => ?_)
        have hP := bw_P.old hP ho9
        have hS := va_S.old hS ho9 hz9
        refine lv_astore (lv' := [(4, .ref x9), (0, .ref (a0 0)), (1, .int x1), (2, .int x2), (3, .ref (a5 0))]) hx hb d_Law_limit_17 hl (by decide) rfl (fun ls hl => ?_)
        refine lv_iconst (v := 2) hx hb d_Law_limit_19 (by decide) ?_
        obtain ⟨rfl, rfl, rfl⟩ := res3 h
        exact W.iret hx hb hr (fun t ht hW => ⟨rfl, by rw [ht]; exact hP, hS.F ht⟩) hS.2.2 d_Law_limit_20
      · have h := ite_f c6 h
        cases h
theorem g_Law_51 : GoodIn wsAll (wsV R_Law 51 R_PF y_PF_check ws_PF_check) := gd_V ml_Law_51 im_PF_check se_PF_check ini_PF cd_PF_check
def F_Law_check (x1 : Int32) (o0 o1 o2 o3 o4 o5 o6 : Ob) : Option (Int32 × Ob × Ob × Ob) :=
  bind4 (F_PF_check x1 o0 o1 o2 o3 o4 o5) (fun k_5 v2 o_3 o_4 => if k_5 = 0 then (chk (inb (0 : Int32) 1) (some ((0 : Int32), o_3, o_4, (s64 o6 0 (Int32.toNatClampNeg (0 : Int32)) (Int32.toInt64 v2))))) else (if k_5 = 1 then (some ((1 : Int32), o2, o4, o6)) else (if k_5 = 2 then (some ((2 : Int32), o2, o4, o6)) else (none))))
abbrev ws_Law_check : List Cond := Cond.codeWith y_Law_check b_Law_check 4 (some .int) [(0, 9, 12, 13), (0, 9, 15, 15)] :: wsAll
abbrev rm_Law_check : Room := { frames := 8, cells := 1, slots := 6, locals := 226 }
set_option maxHeartbeats 4000000 in
set_option maxRecDepth 100000 in
theorem c_Law_check (l : Launch) (hl0 : l.stackTraces = false) (ct dC : Nat → ClassId) (dI : Nat → Nat → Nat) (a0 a1 a2 a3 a4 a5 a6 : Nat → Nat) (r0_0 : Nat) (v0 : Nat → Nat) (sz : Nat) (x1 : Int32) (o0 o1 o2 o3 o4 o5 o6 : Ob) (r : Int32) (n2 n4 n6 : Ob) (hF : F_Law_check x1 o0 o1 o2 o3 o4 o5 o6 = some (r, n2, n4, n6)) : Met l y_Law_check ws_Law_check rm_Law_check (bw_Pc [.ref (a0 0), .int x1, .ref (a6 0)] (dC, dI) vwCl (tyA ct) [wPF ct a0 r0_0 (a3 0) (a2 0) (a1 0) (a4 0) v0 o0, wCells ct a1 o1, wReckoner ct a2 o2, wText ct a3 (a5 0) o3, wCells ct a4 o4, wSteps ct a5 o5, wOut ct a6 o6] sz thh) (bw_Q (dC, dI) vwCl (some (.int r)) [wPF ct a0 r0_0 (a3 0) (a2 0) (a1 0) (a4 0) v0 o0, wCells ct a1 o1, wReckoner ct a2 n2, wText ct a3 (a5 0) o3, wCells ct a4 n4, wSteps ct a5 o5, wOut ct a6 n6] (bw_A [adPF a0, adCells a1, adReckoner a2, adText a3, adCells a4, adSteps a5, adOut a6] sz)) 1 6 (bw_A [adPF a0, adCells a1, adReckoner a2, adText a3, adCells a4, adSteps a5, adOut a6] sz) := by
  refine va_MetW (cc := b_Law_check) (maxL := 4) (ret := (some .int)) (hh := [(0, 9, 12, 13), (0, 9, 15, 15)]) (by decide) rfl ?_
  intro p e s m args below meth c s₁ B hml hv0
  obtain ⟨rfl, hsz, hP, hK, hN0, hnx, hth, hex9⟩ := hv0
  obtain ⟨te1, te2, htab, hte1, hte2⟩ := ct_rows2 (ct_table (hh := [(0, 9, 12, 13), (0, 9, 15, 15)]) B List.mem_cons_self)
  have hx := B.exec
  have hb := B.bytes
  have hr := B.returns
  have hts : ∀ w ∈ wsAll, w.before [.ref (a0 0), .int x1, .ref (a6 0)].toArray s = true := fun w h9 => atoms_spec (ws := ws_Law_check) B.pre w (List.mem_cons_of_mem _ h9)
  have hown : s.vm.findClass R_Law = some m.cls := findClass_of_methodNamed B.named
  have hlocks := B.notSynchronized
  subst hsz
  have hN : bw_N (bw_A [adPF a0, adCells a1, adReckoner a2, adText a3, adCells a4, adSteps a5, adOut a6] s.heap.size) [adPF a0, adCells a1, adReckoner a2, adText a3, adCells a4, adSteps a5, adOut a6] := hN0.self s.heap.size
  generalize hAe : bw_A [adPF a0, adCells a1, adReckoner a2, adText a3, adCells a4, adSteps a5, adOut a6] s.heap.size = A at hN ⊢
  have hA : ∀ q : Nat, s.heap.size ≤ q → A q := fun q h => by rw [← hAe]; exact Or.inr h
  have hS : va_S A s.heap s.heap [] := va_S.rf
  have hl := lv_entry ([.ref (a0 0), .int x1, .ref (a6 0)]) (n := 4) (Nat.le_of_ble_eq_true rfl)
  rw [lg_entry_eq]
  generalize (lg_sl ([.ref (a0 0), .int x1, .ref (a6 0)]) ++ List.replicate (4 - (lg_sl ([.ref (a0 0), .int x1, .ref (a6 0)])).length) Slot.unset).toArray = ls at hl ⊢
  have hl : lv_has ls 4 [(0, .ref (a0 0)), (1, .int x1), (2, .ref (a6 0))] := hl
  have h := hF
  rw [F_Law_check] at h
  refine lv_aload_n hx hb d_Law_check_0 rfl (lv_at hl 2 rfl) ?_
  refine lv_iconst (v := 0) hx hb d_Law_check_1 (by decide) ?_
  refine lv_aload_n hx hb d_Law_check_2 rfl (lv_at hl 0 rfl) ?_
  refine lv_iload_n hx hb d_Law_check_3 rfl (lv_at hl 1 rfl) ?_
  obtain ⟨k_5, v2, o_3, o_4, hG1, h⟩ := bind4_some h
  by_cases hk9 : k_5 = 0
  · subst hk9
    have h := ite_t rfl h
    refine W.widen (k := 1) (n := 6) (by omega) (by omega) ?_
    refine bw_call (Lc := [wPF ct a0 r0_0 (a3 0) (a2 0) (a1 0) (a4 0) v0 o0, wCells ct a1 o1, wReckoner ct a2 o2, wText ct a3 (a5 0) o3, wCells ct a4 o4, wSteps ct a5 o5]) (Lc' := [wPF ct a0 r0_0 (a3 0) (a2 0) (a1 0) (a4 0) v0 o0, wCells ct a1 o1, wReckoner ct a2 o_3, wText ct a3 (a5 0) o3, wCells ct a4 o_4, wSteps ct a5 o5]) (L' := [wPF ct a0 r0_0 (a3 0) (a2 0) (a1 0) (a4 0) v0 o0, wCells ct a1 o1, wReckoner ct a2 o_3, wText ct a3 (a5 0) o3, wCells ct a4 o_4, wSteps ct a5 o5, wOut ct a6 o6]) [0, 1, 2, 3, 4, 5] (va_runV (As := [.int x1]) (rest := [.int (0 : Int32), .ref (a6 0)]) ⟨hx, hb, hml, hown, hts⟩ (c_PF_check l ct dC dI a0 a1 a2 a3 a4 a5 r0_0 v0 _ x1 o0 o1 o2 o3 o4 o5 v2 o_3 o_4 hG1) (cwV 1 hts g_Law_51 rfl rfl rfl (by decide +kernel) ⟨Nat.le_of_ble_eq_true rfl, Nat.le_of_ble_eq_true rfl⟩) ⟨bw_blind nx_call, va_recv hK (hP 0 _ rfl) (ci := 5) (q0 := 0) rfl rfl, fun U hU hW => ⟨rfl, by rw [hU], by rw [hU]; exact hP.sub [0, 1, 2, 3, 4, 5] rfl, va_K.moved hW.alike hK, (hN.sub [0, 1, 2, 3, 4, 5] (by decide) rfl).weaken (fun _ _ => trivial), nx_warm hW hnx⟩⟩ rfl rfl hl.1 rfl (Nat.le_of_ble_eq_true rfl) d_Law_check_4 ⟨Nat.le_of_ble_eq_true rfl, Nat.le_of_ble_eq_true rfl⟩) hP hN hS hA rfl rfl rfl (fun H locs hP hS => ?_)
    refine lv_i2l (v := (Int32.toInt64 v2)) hx hb d_Law_check_7 rfl ?_
    obtain ⟨hi6, h⟩ := chk_some h
    refine st_Out_0 hx hb hK hP hN hS 6 rfl (inb_in hi6) d_Law_check_8 (fun H locs hP hS => ?_)
    have hP : bw_P (dC, dI) vwCl [wPF ct a0 r0_0 (a3 0) (a2 0) (a1 0) (a4 0) v0 o0, wCells ct a1 o1, wReckoner ct a2 o_3, wText ct a3 (a5 0) o3, wCells ct a4 o_4, wSteps ct a5 o5, wOut ct a6 (s64 o6 0 (Int32.toNatClampNeg (0 : Int32)) (Int32.toInt64 v2))] H := hP
    refine lv_goto (tgt := 18) hx hb d_Law_check_9 (by decide) ?_
    refine lv_iconst (v := 0) hx hb d_Law_check_18 (by decide) ?_
    obtain ⟨rfl, rfl, rfl, rfl⟩ := res4 h
    exact W.iret hx hb hr (fun t ht hW => ⟨rfl, by rw [ht]; exact hP, hS.F ht⟩) hS.2.2 d_Law_check_19
  · have h := ite_f hk9 h
    by_cases c8 : k_5 = 1
    · subst c8
      have h := ite_t rfl h
      refine bt_catV (As := [.int x1]) (rest := [.int (0 : Int32), .ref (a6 0)]) (hd := 12) (H := s.heap) ⟨hx, hb, hml, hown, hts⟩ (x_PF_check l hl0 ct dC dI a0 a1 a2 a3 a4 a5 r0_0 v0 _ x1 o0 o1 o2 o3 o4 o5 1 v2 o_3 o_4 hG1 (by decide)) (cwV 1 hts g_Law_51 rfl rfl rfl (by decide +kernel) ⟨Nat.le_of_ble_eq_true rfl, Nat.le_of_ble_eq_true rfl⟩) ⟨bw_blind thx_call, va_recv hK (hP 0 _ rfl) (ci := 5) (q0 := 0) rfl rfl, fun U hU hW => ⟨rfl, by rw [hU], by rw [hU]; exact hP.sub [0, 1, 2, 3, 4, 5] rfl, va_K.moved hW.alike hK, (hN.sub [0, 1, 2, 3, 4, 5] (by decide) rfl).weaken (fun _ _ => trivial), ⟨nx_warm hW hnx, thx_warm hW hU hth⟩⟩⟩ rfl hl.1 rfl (Nat.le_of_ble_eq_true rfl) d_Law_check_4 ⟨Nat.le_of_ble_eq_true rfl, Nat.le_of_ble_eq_true rfl⟩ (fun t9 ht9 => exX.at hex9 1 (by decide) ht9) (fun t9 ht9 => ⟨[], te1, [te2], htab, (fun _ h9 => by cases h9), ct_row hex9 (i := 1) (j := 1) (by decide) (by decide) hte1 (by decide) (by decide) (hts _ cl_Law_13) ht9, congrArg (fun q => q.2.2.1) hte1⟩) (fun x9 H9 ho9 hz9 => ?_)
      have hP := bw_P.old hP ho9
      have hS := va_S.old hS ho9 hz9
      refine lv_astore_n (lv' := [(3, .ref x9), (0, .ref (a0 0)), (1, .int x1), (2, .ref (a6 0))]) hx hb d_Law_check_12 rfl hl (by decide) rfl (fun ls hl => ?_)
      refine lv_iconst (v := 1) hx hb d_Law_check_13 (by decide) ?_
      obtain ⟨rfl, rfl, rfl, rfl⟩ := res4 h
      exact W.iret hx hb hr (fun t ht hW => ⟨rfl, by rw [ht]; exact hP, hS.F ht⟩) hS.2.2 d_Law_check_14
    · have h := ite_f c8 h
      by_cases c7 : k_5 = 2
      · subst c7
        have h := ite_t rfl h
        refine bt_catV (As := [.int x1]) (rest := [.int (0 : Int32), .ref (a6 0)]) (hd := 15) (H := s.heap) ⟨hx, hb, hml, hown, hts⟩ (x_PF_check l hl0 ct dC dI a0 a1 a2 a3 a4 a5 r0_0 v0 _ x1 o0 o1 o2 o3 o4 o5 2 v2 o_3 o_4 hG1 (by decide)) (cwV 1 hts g_Law_51 rfl rfl rfl (by decide +kernel) ⟨Nat.le_of_ble_eq_true rfl, Nat.le_of_ble_eq_true rfl⟩) ⟨bw_blind thx_call, va_recv hK (hP 0 _ rfl) (ci := 5) (q0 := 0) rfl rfl, fun U hU hW => ⟨rfl, by rw [hU], by rw [hU]; exact hP.sub [0, 1, 2, 3, 4, 5] rfl, va_K.moved hW.alike hK, (hN.sub [0, 1, 2, 3, 4, 5] (by decide) rfl).weaken (fun _ _ => trivial), ⟨nx_warm hW hnx, thx_warm hW hU hth⟩⟩⟩ rfl hl.1 rfl (Nat.le_of_ble_eq_true rfl) d_Law_check_4 ⟨Nat.le_of_ble_eq_true rfl, Nat.le_of_ble_eq_true rfl⟩ (fun t9 ht9 => exX.at hex9 2 (by decide) ht9) (fun t9 ht9 => ⟨[te1], te2, [], htab, (List.forall_mem_cons.mpr ⟨ct_row hex9 (i := 2) (j := 1) (by decide) (by decide) hte1 (by decide) (by decide) (hts _ cl_Law_13) ht9, (fun _ h9 => by cases h9)⟩), ct_row hex9 (i := 2) (j := 2) (by decide) (by decide) hte2 (by decide) (by decide) (hts _ cl_Law_15) ht9, congrArg (fun q => q.2.2.1) hte2⟩) (fun x9 H9 ho9 hz9 => ?_)
        have hP := bw_P.old hP ho9
        have hS := va_S.old hS ho9 hz9
        refine lv_astore_n (lv' := [(3, .ref x9), (0, .ref (a0 0)), (1, .int x1), (2, .ref (a6 0))]) hx hb d_Law_check_15 rfl hl (by decide) rfl (fun ls hl => ?_)
        refine lv_iconst (v := 2) hx hb d_Law_check_16 (by decide) ?_
        obtain ⟨rfl, rfl, rfl, rfl⟩ := res4 h
        exact W.iret hx hb hr (fun t ht hW => ⟨rfl, by rw [ht]; exact hP, hS.F ht⟩) hS.2.2 d_Law_check_17
      · have h := ite_f c7 h
        cases h
theorem g_Law_54 : GoodIn wsAll (wsV R_Law 54 R_PF y_PF_version ws_PF_version) := gd_V ml_Law_54 im_PF_version se_PF_version ini_PF cd_PF_version
def F_Law_version  (o0 o1 o2 o3 : Ob) : Option (Int32 × Ob × Ob × Ob) :=
  bind4 (F_PF_version o0 o1 o2) (fun k_5 v2 o_3 o_4 => if k_5 = 0 then (chk (inb (0 : Int32) 1) (some ((0 : Int32), o_3, o_4, (s64 o3 0 (Int32.toNatClampNeg (0 : Int32)) (Int32.toInt64 v2))))) else (if k_5 = 1 then (some ((1 : Int32), o0, o2, o3)) else (none)))
abbrev ws_Law_version : List Cond := Cond.codeWith y_Law_version b_Law_version 3 (some .int) [(0, 8, 11, 13)] :: wsAll
abbrev rm_Law_version : Room := { frames := 8, cells := 1, slots := 6, locals := 140 }
set_option maxHeartbeats 4000000 in
set_option maxRecDepth 100000 in
theorem c_Law_version (l : Launch) (hl0 : l.stackTraces = false) (ct dC : Nat → ClassId) (dI : Nat → Nat → Nat) (a0 a1 a2 a3 : Nat → Nat) (r0_0 : Nat) (r0_1 : Nat) (r0_4 : Nat) (r0_6 : Nat) (v0 : Nat → Nat) (sz : Nat)  (o0 o1 o2 o3 : Ob) (r : Int32) (n0 n2 n3 : Ob) (hv : (inb (g32 o0 8 0) 4 = true → v0 (Int32.toNatClampNeg (g32 o0 8 0)) = a2 0)) (hF : F_Law_version o0 o1 o2 o3 = some (r, n0, n2, n3)) : Met l y_Law_version ws_Law_version rm_Law_version (bw_Pc [.ref (a0 0), .ref (a3 0)] (dC, dI) vwCl (tyA ct) [wPF ct a0 r0_0 r0_1 r0_4 (a1 0) r0_6 v0 o0, wCells ct a1 o1, wCells ct a2 o2, wOut ct a3 o3] sz thh) (bw_Q (dC, dI) vwCl (some (.int r)) [wPF ct a0 r0_0 r0_1 r0_4 (a1 0) r0_6 v0 n0, wCells ct a1 o1, wCells ct a2 n2, wOut ct a3 n3] (bw_A [adPF a0, adCells a1, adCells a2, adOut a3] sz)) 1 6 (bw_A [adPF a0, adCells a1, adCells a2, adOut a3] sz) := by
  refine va_MetW (cc := b_Law_version) (maxL := 3) (ret := (some .int)) (hh := [(0, 8, 11, 13)]) (by decide) rfl ?_
  intro p e s m args below meth c s₁ B hml hv0
  obtain ⟨rfl, hsz, hP, hK, hN0, hnx, hth, hex9⟩ := hv0
  obtain ⟨te1, htab, hte1⟩ := ct_rows1 (ct_table (hh := [(0, 8, 11, 13)]) B List.mem_cons_self)
  have hx := B.exec
  have hb := B.bytes
  have hr := B.returns
  have hts : ∀ w ∈ wsAll, w.before [.ref (a0 0), .ref (a3 0)].toArray s = true := fun w h9 => atoms_spec (ws := ws_Law_version) B.pre w (List.mem_cons_of_mem _ h9)
  have hown : s.vm.findClass R_Law = some m.cls := findClass_of_methodNamed B.named
  have hlocks := B.notSynchronized
  subst hsz
  have hN : bw_N (bw_A [adPF a0, adCells a1, adCells a2, adOut a3] s.heap.size) [adPF a0, adCells a1, adCells a2, adOut a3] := hN0.self s.heap.size
  generalize hAe : bw_A [adPF a0, adCells a1, adCells a2, adOut a3] s.heap.size = A at hN ⊢
  have hA : ∀ q : Nat, s.heap.size ≤ q → A q := fun q h => by rw [← hAe]; exact Or.inr h
  have hS : va_S A s.heap s.heap [] := va_S.rf
  have hl := lv_entry ([.ref (a0 0), .ref (a3 0)]) (n := 3) (Nat.le_of_ble_eq_true rfl)
  rw [lg_entry_eq]
  generalize (lg_sl ([.ref (a0 0), .ref (a3 0)]) ++ List.replicate (3 - (lg_sl ([.ref (a0 0), .ref (a3 0)])).length) Slot.unset).toArray = ls at hl ⊢
  have hl : lv_has ls 3 [(0, .ref (a0 0)), (1, .ref (a3 0))] := hl
  have h := hF
  rw [F_Law_version] at h
  refine lv_aload_n hx hb d_Law_version_0 rfl (lv_at hl 1 rfl) ?_
  refine lv_iconst (v := 0) hx hb d_Law_version_1 (by decide) ?_
  refine lv_aload_n hx hb d_Law_version_2 rfl (lv_at hl 0 rfl) ?_
  obtain ⟨k_5, v2, o_3, o_4, hG1, h⟩ := bind4_some h
  by_cases hk8 : k_5 = 0
  · subst hk8
    have h := ite_t rfl h
    refine W.widen (k := 1) (n := 6) (by omega) (by omega) ?_
    refine bw_call (Lc := [wPF ct a0 r0_0 r0_1 r0_4 (a1 0) r0_6 v0 o0, wCells ct a1 o1, wCells ct a2 o2]) (Lc' := [wPF ct a0 r0_0 r0_1 r0_4 (a1 0) r0_6 v0 o_3, wCells ct a1 o1, wCells ct a2 o_4]) (L' := [wPF ct a0 r0_0 r0_1 r0_4 (a1 0) r0_6 v0 o_3, wCells ct a1 o1, wCells ct a2 o_4, wOut ct a3 o3]) [0, 1, 2] (va_runV (As := []) (rest := [.int (0 : Int32), .ref (a3 0)]) ⟨hx, hb, hml, hown, hts⟩ (c_PF_version l ct dC dI a0 a1 a2 r0_0 r0_1 r0_4 r0_6 v0 _ o0 o1 o2 v2 o_3 o_4 hv hG1) (cwV 0 hts g_Law_54 rfl rfl rfl (by decide +kernel) ⟨Nat.le_of_ble_eq_true rfl, Nat.le_of_ble_eq_true rfl⟩) ⟨bw_blind nx_call, va_recv hK (hP 0 _ rfl) (ci := 5) (q0 := 0) rfl rfl, fun U hU hW => ⟨rfl, by rw [hU], by rw [hU]; exact hP.sub [0, 1, 2] rfl, va_K.moved hW.alike hK, (hN.sub [0, 1, 2] (by decide) rfl).weaken (fun _ _ => trivial), nx_warm hW hnx⟩⟩ rfl rfl hl.1 rfl (Nat.le_of_ble_eq_true rfl) d_Law_version_3 ⟨Nat.le_of_ble_eq_true rfl, Nat.le_of_ble_eq_true rfl⟩) hP hN hS hA rfl rfl rfl (fun H locs hP hS => ?_)
    refine lv_i2l (v := (Int32.toInt64 v2)) hx hb d_Law_version_6 rfl ?_
    obtain ⟨hi6, h⟩ := chk_some h
    refine st_Out_0 hx hb hK hP hN hS 3 rfl (inb_in hi6) d_Law_version_7 (fun H locs hP hS => ?_)
    have hP : bw_P (dC, dI) vwCl [wPF ct a0 r0_0 r0_1 r0_4 (a1 0) r0_6 v0 o_3, wCells ct a1 o1, wCells ct a2 o_4, wOut ct a3 (s64 o3 0 (Int32.toNatClampNeg (0 : Int32)) (Int32.toInt64 v2))] H := hP
    refine lv_goto (tgt := 14) hx hb d_Law_version_8 (by decide) ?_
    refine lv_iconst (v := 0) hx hb d_Law_version_14 (by decide) ?_
    obtain ⟨rfl, rfl, rfl, rfl⟩ := res4 h
    exact W.iret hx hb hr (fun t ht hW => ⟨rfl, by rw [ht]; exact hP, hS.F ht⟩) hS.2.2 d_Law_version_15
  · have h := ite_f hk8 h
    by_cases c7 : k_5 = 1
    · subst c7
      have h := ite_t rfl h
      refine bt_catV (As := []) (rest := [.int (0 : Int32), .ref (a3 0)]) (hd := 11) (H := s.heap) ⟨hx, hb, hml, hown, hts⟩ (x_PF_version l hl0 ct dC dI a0 a1 a2 r0_0 r0_1 r0_4 r0_6 v0 _ o0 o1 o2 1 v2 o_3 o_4 hG1 (by decide)) (cwV 0 hts g_Law_54 rfl rfl rfl (by decide +kernel) ⟨Nat.le_of_ble_eq_true rfl, Nat.le_of_ble_eq_true rfl⟩) ⟨bw_blind thx_call, va_recv hK (hP 0 _ rfl) (ci := 5) (q0 := 0) rfl rfl, fun U hU hW => ⟨rfl, by rw [hU], by rw [hU]; exact hP.sub [0, 1, 2] rfl, va_K.moved hW.alike hK, (hN.sub [0, 1, 2] (by decide) rfl).weaken (fun _ _ => trivial), ⟨nx_warm hW hnx, thx_warm hW hU hth⟩⟩⟩ rfl hl.1 rfl (Nat.le_of_ble_eq_true rfl) d_Law_version_3 ⟨Nat.le_of_ble_eq_true rfl, Nat.le_of_ble_eq_true rfl⟩ (fun t9 ht9 => exX.at hex9 1 (by decide) ht9) (fun t9 ht9 => ⟨[], te1, [], htab, (fun _ h9 => by cases h9), ct_row hex9 (i := 1) (j := 1) (by decide) (by decide) hte1 (by decide) (by decide) (hts _ cl_Law_13) ht9, congrArg (fun q => q.2.2.1) hte1⟩) (fun x9 H9 ho9 hz9 => ?_)
      have hP := bw_P.old hP ho9
      have hS := va_S.old hS ho9 hz9
      refine lv_astore_n (lv' := [(2, .ref x9), (0, .ref (a0 0)), (1, .ref (a3 0))]) hx hb d_Law_version_11 rfl hl (by decide) rfl (fun ls hl => ?_)
      refine lv_iconst (v := 1) hx hb d_Law_version_12 (by decide) ?_
      obtain ⟨rfl, rfl, rfl, rfl⟩ := res4 h
      exact W.iret hx hb hr (fun t ht hW => ⟨rfl, by rw [ht]; exact hP, hS.F ht⟩) hS.2.2 d_Law_version_13
    · have h := ite_f c7 h
      cases h
theorem g_Law_57 : GoodIn wsAll (wsV R_Law 57 R_PF y_PF_differs ws_PF_differs) := gd_V ml_Law_57 im_PF_differs se_PF_differs ini_PF cd_PF_differs
def F_Law_differs (x1 : Int32) (x2 : Int32) (o0 o1 o2 o3 : Ob) : Option (Int32 × Ob) :=
  bind2 (F_PF_differs x1 x2 o0 o1 o2) (fun k_3 v2 => if k_3 = 0 then (chk (inb (0 : Int32) 1) (some ((0 : Int32), (s64 o3 0 (Int32.toNatClampNeg (0 : Int32)) (Int32.toInt64 v2))))) else (if k_3 = 1 then (some ((1 : Int32), o3)) else (if k_3 = 3 then (some ((2 : Int32), o3)) else (if k_3 = 2 then (some ((3 : Int32), o3)) else (none)))))
abbrev ws_Law_differs : List Cond := Cond.codeWith y_Law_differs b_Law_differs 5 (some .int) [(0, 10, 13, 13), (0, 10, 17, 21), (0, 10, 21, 15)] :: wsAll
abbrev rm_Law_differs : Room := { frames := 8, cells := 1, slots := 6, locals := 145 }
set_option maxHeartbeats 4000000 in
set_option maxRecDepth 100000 in
theorem c_Law_differs (l : Launch) (hl0 : l.stackTraces = false) (ct dC : Nat → ClassId) (dI : Nat → Nat → Nat) (a0 a1 a2 a3 : Nat → Nat) (r0_0 : Nat) (r0_1 : Nat) (r0_4 : Nat) (r0_6 : Nat) (v0 : Nat → Nat) (sz : Nat) (x1 : Int32) (x2 : Int32) (o0 o1 o2 o3 : Ob) (r : Int32) (n3 : Ob) (hv : (inb x1 4 = true → v0 (Int32.toNatClampNeg x1) = a2 0)) (hF : F_Law_differs x1 x2 o0 o1 o2 o3 = some (r, n3)) : Met l y_Law_differs ws_Law_differs rm_Law_differs (bw_Pc [.ref (a0 0), .int x1, .int x2, .ref (a3 0)] (dC, dI) vwCl (tyA ct) [wPF ct a0 r0_0 r0_1 r0_4 (a1 0) r0_6 v0 o0, wCells ct a1 o1, wCells ct a2 o2, wOut ct a3 o3] sz thh) (bw_Q (dC, dI) vwCl (some (.int r)) [wPF ct a0 r0_0 r0_1 r0_4 (a1 0) r0_6 v0 o0, wCells ct a1 o1, wCells ct a2 o2, wOut ct a3 n3] (bw_A [adPF a0, adCells a1, adCells a2, adOut a3] sz)) 1 6 (bw_A [adPF a0, adCells a1, adCells a2, adOut a3] sz) := by
  refine va_MetW (cc := b_Law_differs) (maxL := 5) (ret := (some .int)) (hh := [(0, 10, 13, 13), (0, 10, 17, 21), (0, 10, 21, 15)]) (by decide) rfl ?_
  intro p e s m args below meth c s₁ B hml hv0
  obtain ⟨rfl, hsz, hP, hK, hN0, hnx, hth, hex9⟩ := hv0
  obtain ⟨te1, te2, te3, htab, hte1, hte2, hte3⟩ := ct_rows3 (ct_table (hh := [(0, 10, 13, 13), (0, 10, 17, 21), (0, 10, 21, 15)]) B List.mem_cons_self)
  have hx := B.exec
  have hb := B.bytes
  have hr := B.returns
  have hts : ∀ w ∈ wsAll, w.before [.ref (a0 0), .int x1, .int x2, .ref (a3 0)].toArray s = true := fun w h9 => atoms_spec (ws := ws_Law_differs) B.pre w (List.mem_cons_of_mem _ h9)
  have hown : s.vm.findClass R_Law = some m.cls := findClass_of_methodNamed B.named
  have hlocks := B.notSynchronized
  subst hsz
  have hN : bw_N (bw_A [adPF a0, adCells a1, adCells a2, adOut a3] s.heap.size) [adPF a0, adCells a1, adCells a2, adOut a3] := hN0.self s.heap.size
  generalize hAe : bw_A [adPF a0, adCells a1, adCells a2, adOut a3] s.heap.size = A at hN ⊢
  have hA : ∀ q : Nat, s.heap.size ≤ q → A q := fun q h => by rw [← hAe]; exact Or.inr h
  have hS : va_S A s.heap s.heap [] := va_S.rf
  have hl := lv_entry ([.ref (a0 0), .int x1, .int x2, .ref (a3 0)]) (n := 5) (Nat.le_of_ble_eq_true rfl)
  rw [lg_entry_eq]
  generalize (lg_sl ([.ref (a0 0), .int x1, .int x2, .ref (a3 0)]) ++ List.replicate (5 - (lg_sl ([.ref (a0 0), .int x1, .int x2, .ref (a3 0)])).length) Slot.unset).toArray = ls at hl ⊢
  have hl : lv_has ls 5 [(0, .ref (a0 0)), (1, .int x1), (2, .int x2), (3, .ref (a3 0))] := hl
  have h := hF
  rw [F_Law_differs] at h
  refine lv_aload_n hx hb d_Law_differs_0 rfl (lv_at hl 3 rfl) ?_
  refine lv_iconst (v := 0) hx hb d_Law_differs_1 (by decide) ?_
  refine lv_aload_n hx hb d_Law_differs_2 rfl (lv_at hl 0 rfl) ?_
  refine lv_iload_n hx hb d_Law_differs_3 rfl (lv_at hl 1 rfl) ?_
  refine lv_iload_n hx hb d_Law_differs_4 rfl (lv_at hl 2 rfl) ?_
  obtain ⟨k_3, v2, hG1, h⟩ := bind2_some h
  by_cases hk8 : k_3 = 0
  · subst hk8
    have h := ite_t rfl h
    refine W.widen (k := 1) (n := 6) (by omega) (by omega) ?_
    refine bw_callR (va_runV (As := [.int x1, .int x2]) (rest := [.int (0 : Int32), .ref (a3 0)]) ⟨hx, hb, hml, hown, hts⟩ (c_PF_differs l ct dC dI a0 a1 a2 r0_0 r0_1 r0_4 r0_6 v0 _ x1 x2 o0 o1 o2 v2 hv hG1) (cwV 2 hts g_Law_57 rfl rfl rfl (by decide +kernel) ⟨Nat.le_of_ble_eq_true rfl, Nat.le_of_ble_eq_true rfl⟩) ⟨bw_blind nx_call, va_recv hK (hP 0 _ rfl) (ci := 5) (q0 := 0) rfl rfl, fun U hU hW => ⟨rfl, by rw [hU], by rw [hU]; exact hP.sub [0, 1, 2] rfl, va_K.moved hW.alike hK, (hN.sub [0, 1, 2] (by decide) rfl).weaken (fun _ _ => trivial), nx_warm hW hnx⟩⟩ rfl rfl hl.1 rfl (Nat.le_of_ble_eq_true rfl) d_Law_differs_5 ⟨Nat.le_of_ble_eq_true rfl, Nat.le_of_ble_eq_true rfl⟩) ?_
    refine lv_i2l (v := (Int32.toInt64 v2)) hx hb d_Law_differs_8 rfl ?_
    obtain ⟨hi4, h⟩ := chk_some h
    refine st_Out_0 hx hb hK hP hN hS 3 rfl (inb_in hi4) d_Law_differs_9 (fun H locs hP hS => ?_)
    have hP : bw_P (dC, dI) vwCl [wPF ct a0 r0_0 r0_1 r0_4 (a1 0) r0_6 v0 o0, wCells ct a1 o1, wCells ct a2 o2, wOut ct a3 (s64 o3 0 (Int32.toNatClampNeg (0 : Int32)) (Int32.toInt64 v2))] H := hP
    refine lv_goto (tgt := 25) hx hb d_Law_differs_10 (by decide) ?_
    refine lv_iconst (v := 0) hx hb d_Law_differs_25 (by decide) ?_
    obtain ⟨rfl, rfl⟩ := res2 h
    exact W.iret hx hb hr (fun t ht hW => ⟨rfl, by rw [ht]; exact hP, hS.F ht⟩) hS.2.2 d_Law_differs_26
  · have h := ite_f hk8 h
    by_cases c7 : k_3 = 1
    · subst c7
      have h := ite_t rfl h
      refine bt_catV (As := [.int x1, .int x2]) (rest := [.int (0 : Int32), .ref (a3 0)]) (hd := 13) (H := s.heap) ⟨hx, hb, hml, hown, hts⟩ (x_PF_differs l hl0 ct dC dI a0 a1 a2 r0_0 r0_1 r0_4 r0_6 v0 _ x1 x2 o0 o1 o2 1 v2 hG1 (by decide)) (cwV 2 hts g_Law_57 rfl rfl rfl (by decide +kernel) ⟨Nat.le_of_ble_eq_true rfl, Nat.le_of_ble_eq_true rfl⟩) ⟨bw_blind thx_call, va_recv hK (hP 0 _ rfl) (ci := 5) (q0 := 0) rfl rfl, fun U hU hW => ⟨rfl, by rw [hU], by rw [hU]; exact hP.sub [0, 1, 2] rfl, va_K.moved hW.alike hK, (hN.sub [0, 1, 2] (by decide) rfl).weaken (fun _ _ => trivial), ⟨nx_warm hW hnx, thx_warm hW hU hth⟩⟩⟩ rfl hl.1 rfl (Nat.le_of_ble_eq_true rfl) d_Law_differs_5 ⟨Nat.le_of_ble_eq_true rfl, Nat.le_of_ble_eq_true rfl⟩ (fun t9 ht9 => exX.at hex9 1 (by decide) ht9) (fun t9 ht9 => ⟨[], te1, [te2, te3], htab, (fun _ h9 => by cases h9), ct_row hex9 (i := 1) (j := 1) (by decide) (by decide) hte1 (by decide) (by decide) (hts _ cl_Law_13) ht9, congrArg (fun q => q.2.2.1) hte1⟩) (fun x9 H9 ho9 hz9 => ?_)
      have hP := bw_P.old hP ho9
      have hS := va_S.old hS ho9 hz9
      refine lv_astore (lv' := [(4, .ref x9), (0, .ref (a0 0)), (1, .int x1), (2, .int x2), (3, .ref (a3 0))]) hx hb d_Law_differs_13 hl (by decide) rfl (fun ls hl => ?_)
      refine lv_iconst (v := 1) hx hb d_Law_differs_15 (by decide) ?_
      obtain ⟨rfl, rfl⟩ := res2 h
      exact W.iret hx hb hr (fun t ht hW => ⟨rfl, by rw [ht]; exact hP, hS.F ht⟩) hS.2.2 d_Law_differs_16
    · have h := ite_f c7 h
      by_cases c6 : k_3 = 3
      · subst c6
        have h := ite_t rfl h
        refine bt_catV (As := [.int x1, .int x2]) (rest := [.int (0 : Int32), .ref (a3 0)]) (hd := 17) (H := s.heap) ⟨hx, hb, hml, hown, hts⟩ (x_PF_differs l hl0 ct dC dI a0 a1 a2 r0_0 r0_1 r0_4 r0_6 v0 _ x1 x2 o0 o1 o2 3 v2 hG1 (by decide)) (cwV 2 hts g_Law_57 rfl rfl rfl (by decide +kernel) ⟨Nat.le_of_ble_eq_true rfl, Nat.le_of_ble_eq_true rfl⟩) ⟨bw_blind thx_call, va_recv hK (hP 0 _ rfl) (ci := 5) (q0 := 0) rfl rfl, fun U hU hW => ⟨rfl, by rw [hU], by rw [hU]; exact hP.sub [0, 1, 2] rfl, va_K.moved hW.alike hK, (hN.sub [0, 1, 2] (by decide) rfl).weaken (fun _ _ => trivial), ⟨nx_warm hW hnx, thx_warm hW hU hth⟩⟩⟩ rfl hl.1 rfl (Nat.le_of_ble_eq_true rfl) d_Law_differs_5 ⟨Nat.le_of_ble_eq_true rfl, Nat.le_of_ble_eq_true rfl⟩ (fun t9 ht9 => exX.at hex9 3 (by decide) ht9) (fun t9 ht9 => ⟨[te1], te2, [te3], htab, (List.forall_mem_cons.mpr ⟨ct_row hex9 (i := 3) (j := 1) (by decide) (by decide) hte1 (by decide) (by decide) (hts _ cl_Law_13) ht9, (fun _ h9 => by cases h9)⟩), ct_row hex9 (i := 3) (j := 3) (by decide) (by decide) hte2 (by decide) (by decide) (hts _ cl_Law_21) ht9, congrArg (fun q => q.2.2.1) hte2⟩) (fun x9 H9 ho9 hz9 => ?_)
        have hP := bw_P.old hP ho9
        have hS := va_S.old hS ho9 hz9
        refine lv_astore (lv' := [(4, .ref x9), (0, .ref (a0 0)), (1, .int x1), (2, .int x2), (3, .ref (a3 0))]) hx hb d_Law_differs_17 hl (by decide) rfl (fun ls hl => ?_)
        refine lv_iconst (v := 2) hx hb d_Law_differs_19 (by decide) ?_
        obtain ⟨rfl, rfl⟩ := res2 h
        exact W.iret hx hb hr (fun t ht hW => ⟨rfl, by rw [ht]; exact hP, hS.F ht⟩) hS.2.2 d_Law_differs_20
      · have h := ite_f c6 h
        by_cases c5 : k_3 = 2
        · subst c5
          have h := ite_t rfl h
          refine bt_catV (As := [.int x1, .int x2]) (rest := [.int (0 : Int32), .ref (a3 0)]) (hd := 21) (H := s.heap) ⟨hx, hb, hml, hown, hts⟩ (x_PF_differs l hl0 ct dC dI a0 a1 a2 r0_0 r0_1 r0_4 r0_6 v0 _ x1 x2 o0 o1 o2 2 v2 hG1 (by decide)) (cwV 2 hts g_Law_57 rfl rfl rfl (by decide +kernel) ⟨Nat.le_of_ble_eq_true rfl, Nat.le_of_ble_eq_true rfl⟩) ⟨bw_blind thx_call, va_recv hK (hP 0 _ rfl) (ci := 5) (q0 := 0) rfl rfl, fun U hU hW => ⟨rfl, by rw [hU], by rw [hU]; exact hP.sub [0, 1, 2] rfl, va_K.moved hW.alike hK, (hN.sub [0, 1, 2] (by decide) rfl).weaken (fun _ _ => trivial), ⟨nx_warm hW hnx, thx_warm hW hU hth⟩⟩⟩ rfl hl.1 rfl (Nat.le_of_ble_eq_true rfl) d_Law_differs_5 ⟨Nat.le_of_ble_eq_true rfl, Nat.le_of_ble_eq_true rfl⟩ (fun t9 ht9 => exX.at hex9 2 (by decide) ht9) (fun t9 ht9 => ⟨[te1, te2], te3, [], htab, (List.forall_mem_cons.mpr ⟨ct_row hex9 (i := 2) (j := 1) (by decide) (by decide) hte1 (by decide) (by decide) (hts _ cl_Law_13) ht9, (List.forall_mem_cons.mpr ⟨ct_row hex9 (i := 2) (j := 3) (by decide) (by decide) hte2 (by decide) (by decide) (hts _ cl_Law_21) ht9, (fun _ h9 => by cases h9)⟩)⟩), ct_row hex9 (i := 2) (j := 2) (by decide) (by decide) hte3 (by decide) (by decide) (hts _ cl_Law_15) ht9, congrArg (fun q => q.2.2.1) hte3⟩) (fun x9 H9 ho9 hz9 => ?_)
          have hP := bw_P.old hP ho9
          have hS := va_S.old hS ho9 hz9
          refine lv_astore (lv' := [(4, .ref x9), (0, .ref (a0 0)), (1, .int x1), (2, .int x2), (3, .ref (a3 0))]) hx hb d_Law_differs_21 hl (by decide) rfl (fun ls hl => ?_)
          refine lv_iconst (v := 3) hx hb d_Law_differs_23 (by decide) ?_
          obtain ⟨rfl, rfl⟩ := res2 h
          exact W.iret hx hb hr (fun t ht hW => ⟨rfl, by rw [ht]; exact hP, hS.F ht⟩) hS.2.2 d_Law_differs_24
        · have h := ite_f c5 h
          cases h
theorem g_Law_60 : GoodIn wsAll (wsV R_Law 60 R_PF y_PF_same ws_PF_same) := gd_V ml_Law_60 im_PF_same se_PF_same ini_PF cd_PF_same
def F_Law_same  (o0 o1 o2 o3 o4 o5 o6 : Ob) : Option (Int32 × Ob × Ob × Ob) :=
  bind4 (F_PF_same o0 o1 o2 o3 o4 o5) (fun k_5 v2 o_3 o_4 => if k_5 = 0 then (if (b2i v2) = 0 then (chk (inb (0 : Int32) 1) (some ((0 : Int32), o_3, o_4, (s64 o6 0 (Int32.toNatClampNeg (0 : Int32)) (0 : Int64))))) else (chk (inb (0 : Int32) 1) (some ((0 : Int32), o_3, o_4, (s64 o6 0 (Int32.toNatClampNeg (0 : Int32)) (1 : Int64)))))) else (if k_5 = 1 then (some ((1 : Int32), o2, o4, o6)) else (none)))
abbrev ws_Law_same : List Cond := Cond.codeWith y_Law_same b_Law_same 3 (some .int) [(0, 15, 18, 13)] :: wsAll
abbrev rm_Law_same : Room := { frames := 8, cells := 1, slots := 6, locals := 215 }
set_option maxHeartbeats 4000000 in
set_option maxRecDepth 100000 in
theorem c_Law_same (l : Launch) (hl0 : l.stackTraces = false) (ct dC : Nat → ClassId) (dI : Nat → Nat → Nat) (a0 a1 a2 a3 a4 a5 a6 : Nat → Nat) (r0_0 : Nat) (v0 : Nat → Nat) (sz : Nat)  (o0 o1 o2 o3 o4 o5 o6 : Ob) (r : Int32) (n2 n4 n6 : Ob) (hF : F_Law_same o0 o1 o2 o3 o4 o5 o6 = some (r, n2, n4, n6)) : Met l y_Law_same ws_Law_same rm_Law_same (bw_Pc [.ref (a0 0), .ref (a6 0)] (dC, dI) vwCl (tyA ct) [wPF ct a0 r0_0 (a3 0) (a2 0) (a1 0) (a4 0) v0 o0, wCells ct a1 o1, wReckoner ct a2 o2, wText ct a3 (a5 0) o3, wCells ct a4 o4, wSteps ct a5 o5, wOut ct a6 o6] sz thh) (bw_Q (dC, dI) vwCl (some (.int r)) [wPF ct a0 r0_0 (a3 0) (a2 0) (a1 0) (a4 0) v0 o0, wCells ct a1 o1, wReckoner ct a2 n2, wText ct a3 (a5 0) o3, wCells ct a4 n4, wSteps ct a5 o5, wOut ct a6 n6] (bw_A [adPF a0, adCells a1, adReckoner a2, adText a3, adCells a4, adSteps a5, adOut a6] sz)) 1 6 (bw_A [adPF a0, adCells a1, adReckoner a2, adText a3, adCells a4, adSteps a5, adOut a6] sz) := by
  refine va_MetW (cc := b_Law_same) (maxL := 3) (ret := (some .int)) (hh := [(0, 15, 18, 13)]) (by decide) rfl ?_
  intro p e s m args below meth c s₁ B hml hv0
  obtain ⟨rfl, hsz, hP, hK, hN0, hnx, hth, hex9⟩ := hv0
  obtain ⟨te1, htab, hte1⟩ := ct_rows1 (ct_table (hh := [(0, 15, 18, 13)]) B List.mem_cons_self)
  have hx := B.exec
  have hb := B.bytes
  have hr := B.returns
  have hts : ∀ w ∈ wsAll, w.before [.ref (a0 0), .ref (a6 0)].toArray s = true := fun w h9 => atoms_spec (ws := ws_Law_same) B.pre w (List.mem_cons_of_mem _ h9)
  have hown : s.vm.findClass R_Law = some m.cls := findClass_of_methodNamed B.named
  have hlocks := B.notSynchronized
  subst hsz
  have hN : bw_N (bw_A [adPF a0, adCells a1, adReckoner a2, adText a3, adCells a4, adSteps a5, adOut a6] s.heap.size) [adPF a0, adCells a1, adReckoner a2, adText a3, adCells a4, adSteps a5, adOut a6] := hN0.self s.heap.size
  generalize hAe : bw_A [adPF a0, adCells a1, adReckoner a2, adText a3, adCells a4, adSteps a5, adOut a6] s.heap.size = A at hN ⊢
  have hA : ∀ q : Nat, s.heap.size ≤ q → A q := fun q h => by rw [← hAe]; exact Or.inr h
  have hS : va_S A s.heap s.heap [] := va_S.rf
  have hl := lv_entry ([.ref (a0 0), .ref (a6 0)]) (n := 3) (Nat.le_of_ble_eq_true rfl)
  rw [lg_entry_eq]
  generalize (lg_sl ([.ref (a0 0), .ref (a6 0)]) ++ List.replicate (3 - (lg_sl ([.ref (a0 0), .ref (a6 0)])).length) Slot.unset).toArray = ls at hl ⊢
  have hl : lv_has ls 3 [(0, .ref (a0 0)), (1, .ref (a6 0))] := hl
  have h := hF
  rw [F_Law_same] at h
  refine lv_aload_n hx hb d_Law_same_0 rfl (lv_at hl 1 rfl) ?_
  refine lv_iconst (v := 0) hx hb d_Law_same_1 (by decide) ?_
  refine lv_aload_n hx hb d_Law_same_2 rfl (lv_at hl 0 rfl) ?_
  obtain ⟨k_5, v2, o_3, o_4, hG1, h⟩ := bind4_some h
  by_cases hk10 : k_5 = 0
  · subst hk10
    have h := ite_t rfl h
    refine W.widen (k := 1) (n := 6) (by omega) (by omega) ?_
    refine bw_call (Lc := [wPF ct a0 r0_0 (a3 0) (a2 0) (a1 0) (a4 0) v0 o0, wCells ct a1 o1, wReckoner ct a2 o2, wText ct a3 (a5 0) o3, wCells ct a4 o4, wSteps ct a5 o5]) (Lc' := [wPF ct a0 r0_0 (a3 0) (a2 0) (a1 0) (a4 0) v0 o0, wCells ct a1 o1, wReckoner ct a2 o_3, wText ct a3 (a5 0) o3, wCells ct a4 o_4, wSteps ct a5 o5]) (L' := [wPF ct a0 r0_0 (a3 0) (a2 0) (a1 0) (a4 0) v0 o0, wCells ct a1 o1, wReckoner ct a2 o_3, wText ct a3 (a5 0) o3, wCells ct a4 o_4, wSteps ct a5 o5, wOut ct a6 o6]) [0, 1, 2, 3, 4, 5] (va_runV (As := []) (rest := [.int (0 : Int32), .ref (a6 0)]) ⟨hx, hb, hml, hown, hts⟩ (c_PF_same l ct dC dI a0 a1 a2 a3 a4 a5 r0_0 v0 _ o0 o1 o2 o3 o4 o5 v2 o_3 o_4 hG1) (cwV 0 hts g_Law_60 rfl rfl rfl (by decide +kernel) ⟨Nat.le_of_ble_eq_true rfl, Nat.le_of_ble_eq_true rfl⟩) ⟨bw_blind nx_call, va_recv hK (hP 0 _ rfl) (ci := 5) (q0 := 0) rfl rfl, fun U hU hW => ⟨rfl, by rw [hU], by rw [hU]; exact hP.sub [0, 1, 2, 3, 4, 5] rfl, va_K.moved hW.alike hK, (hN.sub [0, 1, 2, 3, 4, 5] (by decide) rfl).weaken (fun _ _ => trivial), nx_warm hW hnx⟩⟩ rfl rfl hl.1 rfl (Nat.le_of_ble_eq_true rfl) d_Law_same_3 ⟨Nat.le_of_ble_eq_true rfl, Nat.le_of_ble_eq_true rfl⟩) hP hN hS hA rfl rfl rfl (fun H locs hP hS => ?_)
    refine lv_if_eq (tgt := 13) hx hb d_Law_same_6 (by decide) (fun c6 => ?_) (fun c6 => ?_)
    · have h := ite_t c6 h
      refine lv_lconst (v := 0) hx hb d_Law_same_13 (by decide) ?_
      obtain ⟨hi7, h⟩ := chk_some h
      refine st_Out_0 hx hb hK hP hN hS 6 rfl (inb_in hi7) d_Law_same_14 (fun H locs hP hS => ?_)
      have hP : bw_P (dC, dI) vwCl [wPF ct a0 r0_0 (a3 0) (a2 0) (a1 0) (a4 0) v0 o0, wCells ct a1 o1, wReckoner ct a2 o_3, wText ct a3 (a5 0) o3, wCells ct a4 o_4, wSteps ct a5 o5, wOut ct a6 (s64 o6 0 (Int32.toNatClampNeg (0 : Int32)) (0 : Int64))] H := hP
      refine lv_goto (tgt := 21) hx hb d_Law_same_15 (by decide) ?_
      refine lv_iconst (v := 0) hx hb d_Law_same_21 (by decide) ?_
      obtain ⟨rfl, rfl, rfl, rfl⟩ := res4 h
      exact W.iret hx hb hr (fun t ht hW => ⟨rfl, by rw [ht]; exact hP, hS.F ht⟩) hS.2.2 d_Law_same_22
    · have h := ite_f c6 h
      refine lv_lconst (v := 1) hx hb d_Law_same_9 (by decide) ?_
      refine lv_goto (tgt := 14) hx hb d_Law_same_10 (by decide) ?_
      obtain ⟨hi8, h⟩ := chk_some h
      refine st_Out_0 hx hb hK hP hN hS 6 rfl (inb_in hi8) d_Law_same_14 (fun H locs hP hS => ?_)
      have hP : bw_P (dC, dI) vwCl [wPF ct a0 r0_0 (a3 0) (a2 0) (a1 0) (a4 0) v0 o0, wCells ct a1 o1, wReckoner ct a2 o_3, wText ct a3 (a5 0) o3, wCells ct a4 o_4, wSteps ct a5 o5, wOut ct a6 (s64 o6 0 (Int32.toNatClampNeg (0 : Int32)) (1 : Int64))] H := hP
      refine lv_goto (tgt := 21) hx hb d_Law_same_15 (by decide) ?_
      refine lv_iconst (v := 0) hx hb d_Law_same_21 (by decide) ?_
      obtain ⟨rfl, rfl, rfl, rfl⟩ := res4 h
      exact W.iret hx hb hr (fun t ht hW => ⟨rfl, by rw [ht]; exact hP, hS.F ht⟩) hS.2.2 d_Law_same_22
  · have h := ite_f hk10 h
    by_cases c9 : k_5 = 1
    · subst c9
      have h := ite_t rfl h
      refine bt_catV (As := []) (rest := [.int (0 : Int32), .ref (a6 0)]) (hd := 18) (H := s.heap) ⟨hx, hb, hml, hown, hts⟩ (x_PF_same l hl0 ct dC dI a0 a1 a2 a3 a4 a5 r0_0 v0 _ o0 o1 o2 o3 o4 o5 1 v2 o_3 o_4 hG1 (by decide)) (cwV 0 hts g_Law_60 rfl rfl rfl (by decide +kernel) ⟨Nat.le_of_ble_eq_true rfl, Nat.le_of_ble_eq_true rfl⟩) ⟨bw_blind thx_call, va_recv hK (hP 0 _ rfl) (ci := 5) (q0 := 0) rfl rfl, fun U hU hW => ⟨rfl, by rw [hU], by rw [hU]; exact hP.sub [0, 1, 2, 3, 4, 5] rfl, va_K.moved hW.alike hK, (hN.sub [0, 1, 2, 3, 4, 5] (by decide) rfl).weaken (fun _ _ => trivial), ⟨nx_warm hW hnx, thx_warm hW hU hth⟩⟩⟩ rfl hl.1 rfl (Nat.le_of_ble_eq_true rfl) d_Law_same_3 ⟨Nat.le_of_ble_eq_true rfl, Nat.le_of_ble_eq_true rfl⟩ (fun t9 ht9 => exX.at hex9 1 (by decide) ht9) (fun t9 ht9 => ⟨[], te1, [], htab, (fun _ h9 => by cases h9), ct_row hex9 (i := 1) (j := 1) (by decide) (by decide) hte1 (by decide) (by decide) (hts _ cl_Law_13) ht9, congrArg (fun q => q.2.2.1) hte1⟩) (fun x9 H9 ho9 hz9 => ?_)
      have hP := bw_P.old hP ho9
      have hS := va_S.old hS ho9 hz9
      refine lv_astore_n (lv' := [(2, .ref x9), (0, .ref (a0 0)), (1, .ref (a6 0))]) hx hb d_Law_same_18 rfl hl (by decide) rfl (fun ls hl => ?_)
      refine lv_iconst (v := 1) hx hb d_Law_same_19 (by decide) ?_
      obtain ⟨rfl, rfl, rfl, rfl⟩ := res4 h
      exact W.iret hx hb hr (fun t ht hW => ⟨rfl, by rw [ht]; exact hP, hS.F ht⟩) hS.2.2 d_Law_same_20
    · have h := ite_f c9 h
      cases h
