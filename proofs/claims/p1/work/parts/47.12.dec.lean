/-! THE LAW: decode rows -/
theorem d_Law_law_943 : decode b_Law_law 943 = .ok (.ifCond .eq 5, 3) := by decide +kernel
theorem d_Law_law_946 : decode b_Law_law 946 = .ok (.iconst 0, 1) := by decide +kernel
theorem d_Law_law_947 : decode b_Law_law 947 = .ok (.ireturn, 1) := by decide +kernel
theorem d_Law_law_948 : decode b_Law_law 948 = .ok (.goto 180, 3) := by decide +kernel
theorem d_Law_law_951 : decode b_Law_law 951 = .ok (.aload_n 1, 1) := by decide +kernel
theorem d_Law_law_952 : decode b_Law_law 952 = .ok (.aload_n 3, 1) := by decide +kernel
theorem d_Law_law_953 : decode b_Law_law 953 = .ok (.invokestatic 122, 3) := by decide +kernel
theorem d_Law_law_956 : decode b_Law_law 956 = .ok (.istore 5, 2) := by decide +kernel
theorem d_Law_law_958 : decode b_Law_law 958 = .ok (.aload_n 2, 1) := by decide +kernel
theorem d_Law_law_959 : decode b_Law_law 959 = .ok (.invokevirtual 124, 3) := by decide +kernel
theorem d_Law_law_962 : decode b_Law_law 962 = .ok (.istore 6, 2) := by decide +kernel
theorem d_Law_law_964 : decode b_Law_law 964 = .ok (.aload_n 2, 1) := by decide +kernel
theorem d_Law_law_965 : decode b_Law_law 965 = .ok (.invokevirtual 83, 3) := by decide +kernel
theorem d_Law_law_968 : decode b_Law_law 968 = .ok (.iload 5, 2) := by decide +kernel
theorem d_Law_law_970 : decode b_Law_law 970 = .ok (.if_icmp .eq 5, 3) := by decide +kernel
theorem d_Law_law_973 : decode b_Law_law 973 = .ok (.iconst 0, 1) := by decide +kernel
theorem d_Law_law_974 : decode b_Law_law 974 = .ok (.ireturn, 1) := by decide +kernel
theorem d_Law_law_975 : decode b_Law_law 975 = .ok (.iload 5, 2) := by decide +kernel
theorem d_Law_law_977 : decode b_Law_law 977 = .ok (.ifCond .ne 15, 3) := by decide +kernel
theorem d_Law_law_980 : decode b_Law_law 980 = .ok (.aload_n 3, 1) := by decide +kernel
theorem d_Law_law_981 : decode b_Law_law 981 = .ok (.iconst 0, 1) := by decide +kernel
theorem d_Law_law_982 : decode b_Law_law 982 = .ok (.laload, 1) := by decide +kernel
theorem d_Law_law_983 : decode b_Law_law 983 = .ok (.iload 6, 2) := by decide +kernel
theorem d_Law_law_985 : decode b_Law_law 985 = .ok (.i2l, 1) := by decide +kernel
theorem d_Law_law_986 : decode b_Law_law 986 = .ok (.lcmp, 1) := by decide +kernel
theorem d_Law_law_987 : decode b_Law_law 987 = .ok (.ifCond .eq 5, 3) := by decide +kernel
theorem d_Law_law_990 : decode b_Law_law 990 = .ok (.iconst 0, 1) := by decide +kernel
theorem d_Law_law_991 : decode b_Law_law 991 = .ok (.ireturn, 1) := by decide +kernel
theorem d_Law_law_992 : decode b_Law_law 992 = .ok (.goto 136, 3) := by decide +kernel
theorem d_Law_law_995 : decode b_Law_law 995 = .ok (.aload_n 1, 1) := by decide +kernel
theorem d_Law_law_996 : decode b_Law_law 996 = .ok (.aload_n 0, 1) := by decide +kernel
theorem d_Law_law_997 : decode b_Law_law 997 = .ok (.iload 4, 2) := by decide +kernel
theorem d_Law_law_999 : decode b_Law_law 999 = .ok (.iconst 1, 1) := by decide +kernel
theorem d_Law_law_1000 : decode b_Law_law 1000 = .ok (.iadd, 1) := by decide +kernel
theorem d_Law_law_1001 : decode b_Law_law 1001 = .ok (.iaload, 1) := by decide +kernel
theorem d_Law_law_1002 : decode b_Law_law 1002 = .ok (.aload_n 0, 1) := by decide +kernel
theorem d_Law_law_1003 : decode b_Law_law 1003 = .ok (.iload 4, 2) := by decide +kernel
theorem d_Law_law_1005 : decode b_Law_law 1005 = .ok (.iconst 2, 1) := by decide +kernel
theorem d_Law_law_1006 : decode b_Law_law 1006 = .ok (.iadd, 1) := by decide +kernel
theorem d_Law_law_1007 : decode b_Law_law 1007 = .ok (.iaload, 1) := by decide +kernel
theorem d_Law_law_1008 : decode b_Law_law 1008 = .ok (.aload_n 3, 1) := by decide +kernel
theorem d_Law_law_1009 : decode b_Law_law 1009 = .ok (.invokestatic 125, 3) := by decide +kernel
theorem d_Law_law_1012 : decode b_Law_law 1012 = .ok (.istore 5, 2) := by decide +kernel
theorem d_Law_law_1014 : decode b_Law_law 1014 = .ok (.aload_n 2, 1) := by decide +kernel
theorem d_Law_law_1015 : decode b_Law_law 1015 = .ok (.aload_n 0, 1) := by decide +kernel
theorem d_Law_law_1016 : decode b_Law_law 1016 = .ok (.iload 4, 2) := by decide +kernel
theorem d_Law_law_1018 : decode b_Law_law 1018 = .ok (.iconst 1, 1) := by decide +kernel
theorem d_Law_law_1019 : decode b_Law_law 1019 = .ok (.iadd, 1) := by decide +kernel
theorem d_Law_law_1020 : decode b_Law_law 1020 = .ok (.iaload, 1) := by decide +kernel
theorem d_Law_law_1021 : decode b_Law_law 1021 = .ok (.aload_n 0, 1) := by decide +kernel
