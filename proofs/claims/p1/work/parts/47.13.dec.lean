/-! THE LAW: decode rows -/
theorem d_Law_law_1022 : decode b_Law_law 1022 = .ok (.iload 4, 2) := by decide +kernel
theorem d_Law_law_1024 : decode b_Law_law 1024 = .ok (.iconst 2, 1) := by decide +kernel
theorem d_Law_law_1025 : decode b_Law_law 1025 = .ok (.iadd, 1) := by decide +kernel
theorem d_Law_law_1026 : decode b_Law_law 1026 = .ok (.iaload, 1) := by decide +kernel
theorem d_Law_law_1027 : decode b_Law_law 1027 = .ok (.invokevirtual 127, 3) := by decide +kernel
theorem d_Law_law_1030 : decode b_Law_law 1030 = .ok (.istore 6, 2) := by decide +kernel
theorem d_Law_law_1032 : decode b_Law_law 1032 = .ok (.aload_n 2, 1) := by decide +kernel
theorem d_Law_law_1033 : decode b_Law_law 1033 = .ok (.invokevirtual 83, 3) := by decide +kernel
theorem d_Law_law_1036 : decode b_Law_law 1036 = .ok (.iload 5, 2) := by decide +kernel
theorem d_Law_law_1038 : decode b_Law_law 1038 = .ok (.if_icmp .eq 5, 3) := by decide +kernel
theorem d_Law_law_1041 : decode b_Law_law 1041 = .ok (.iconst 0, 1) := by decide +kernel
theorem d_Law_law_1042 : decode b_Law_law 1042 = .ok (.ireturn, 1) := by decide +kernel
theorem d_Law_law_1043 : decode b_Law_law 1043 = .ok (.iload 5, 2) := by decide +kernel
theorem d_Law_law_1045 : decode b_Law_law 1045 = .ok (.ifCond .ne 15, 3) := by decide +kernel
theorem d_Law_law_1048 : decode b_Law_law 1048 = .ok (.aload_n 3, 1) := by decide +kernel
theorem d_Law_law_1049 : decode b_Law_law 1049 = .ok (.iconst 0, 1) := by decide +kernel
theorem d_Law_law_1050 : decode b_Law_law 1050 = .ok (.laload, 1) := by decide +kernel
theorem d_Law_law_1051 : decode b_Law_law 1051 = .ok (.iload 6, 2) := by decide +kernel
theorem d_Law_law_1053 : decode b_Law_law 1053 = .ok (.i2l, 1) := by decide +kernel
theorem d_Law_law_1054 : decode b_Law_law 1054 = .ok (.lcmp, 1) := by decide +kernel
theorem d_Law_law_1055 : decode b_Law_law 1055 = .ok (.ifCond .eq 5, 3) := by decide +kernel
theorem d_Law_law_1058 : decode b_Law_law 1058 = .ok (.iconst 0, 1) := by decide +kernel
theorem d_Law_law_1059 : decode b_Law_law 1059 = .ok (.ireturn, 1) := by decide +kernel
theorem d_Law_law_1060 : decode b_Law_law 1060 = .ok (.goto 68, 3) := by decide +kernel
theorem d_Law_law_1063 : decode b_Law_law 1063 = .ok (.aload_n 1, 1) := by decide +kernel
theorem d_Law_law_1064 : decode b_Law_law 1064 = .ok (.aload_n 3, 1) := by decide +kernel
theorem d_Law_law_1065 : decode b_Law_law 1065 = .ok (.invokestatic 128, 3) := by decide +kernel
theorem d_Law_law_1068 : decode b_Law_law 1068 = .ok (.istore 5, 2) := by decide +kernel
theorem d_Law_law_1070 : decode b_Law_law 1070 = .ok (.aload_n 2, 1) := by decide +kernel
theorem d_Law_law_1071 : decode b_Law_law 1071 = .ok (.invokevirtual 130, 3) := by decide +kernel
theorem d_Law_law_1074 : decode b_Law_law 1074 = .ok (.istore 6, 2) := by decide +kernel
theorem d_Law_law_1076 : decode b_Law_law 1076 = .ok (.aload_n 2, 1) := by decide +kernel
theorem d_Law_law_1077 : decode b_Law_law 1077 = .ok (.invokevirtual 83, 3) := by decide +kernel
theorem d_Law_law_1080 : decode b_Law_law 1080 = .ok (.iload 5, 2) := by decide +kernel
theorem d_Law_law_1082 : decode b_Law_law 1082 = .ok (.if_icmp .eq 5, 3) := by decide +kernel
theorem d_Law_law_1085 : decode b_Law_law 1085 = .ok (.iconst 0, 1) := by decide +kernel
theorem d_Law_law_1086 : decode b_Law_law 1086 = .ok (.ireturn, 1) := by decide +kernel
theorem d_Law_law_1087 : decode b_Law_law 1087 = .ok (.iload 5, 2) := by decide +kernel
theorem d_Law_law_1089 : decode b_Law_law 1089 = .ok (.ifCond .ne 22, 3) := by decide +kernel
theorem d_Law_law_1092 : decode b_Law_law 1092 = .ok (.aload_n 3, 1) := by decide +kernel
theorem d_Law_law_1093 : decode b_Law_law 1093 = .ok (.iconst 0, 1) := by decide +kernel
theorem d_Law_law_1094 : decode b_Law_law 1094 = .ok (.laload, 1) := by decide +kernel
theorem d_Law_law_1095 : decode b_Law_law 1095 = .ok (.iload 6, 2) := by decide +kernel
theorem d_Law_law_1097 : decode b_Law_law 1097 = .ok (.ifCond .eq 7, 3) := by decide +kernel
theorem d_Law_law_1100 : decode b_Law_law 1100 = .ok (.lconst 1, 1) := by decide +kernel
theorem d_Law_law_1101 : decode b_Law_law 1101 = .ok (.goto 4, 3) := by decide +kernel
theorem d_Law_law_1104 : decode b_Law_law 1104 = .ok (.lconst 0, 1) := by decide +kernel
theorem d_Law_law_1105 : decode b_Law_law 1105 = .ok (.lcmp, 1) := by decide +kernel
theorem d_Law_law_1106 : decode b_Law_law 1106 = .ok (.ifCond .eq 5, 3) := by decide +kernel
theorem d_Law_law_1109 : decode b_Law_law 1109 = .ok (.iconst 0, 1) := by decide +kernel
