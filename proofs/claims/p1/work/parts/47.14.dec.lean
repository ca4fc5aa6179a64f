/-! THE LAW: decode rows -/
theorem d_Law_law_1110 : decode b_Law_law 1110 = .ok (.ireturn, 1) := by decide +kernel
theorem d_Law_law_1111 : decode b_Law_law 1111 = .ok (.goto 17, 3) := by decide +kernel
theorem d_Law_law_1114 : decode b_Law_law 1114 = .ok (.aload_n 1, 1) := by decide +kernel
theorem d_Law_law_1115 : decode b_Law_law 1115 = .ok (.invokevirtual 131, 3) := by decide +kernel
theorem d_Law_law_1118 : decode b_Law_law 1118 = .ok (.aload_n 2, 1) := by decide +kernel
theorem d_Law_law_1119 : decode b_Law_law 1119 = .ok (.invokevirtual 135, 3) := by decide +kernel
theorem d_Law_law_1122 : decode b_Law_law 1122 = .ok (.lcmp, 1) := by decide +kernel
theorem d_Law_law_1123 : decode b_Law_law 1123 = .ok (.ifCond .eq 5, 3) := by decide +kernel
theorem d_Law_law_1126 : decode b_Law_law 1126 = .ok (.iconst 0, 1) := by decide +kernel
theorem d_Law_law_1127 : decode b_Law_law 1127 = .ok (.ireturn, 1) := by decide +kernel
theorem d_Law_law_1128 : decode b_Law_law 1128 = .ok (.iinc 4 6, 3) := by decide +kernel
theorem d_Law_law_1131 : decode b_Law_law 1131 = .ok (.goto (-1108), 3) := by decide +kernel
theorem d_Law_law_1134 : decode b_Law_law 1134 = .ok (.iconst 1, 1) := by decide +kernel
theorem d_Law_law_1135 : decode b_Law_law 1135 = .ok (.ireturn, 1) := by decide +kernel
