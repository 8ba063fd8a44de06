theorem d_L_law_978 : decode mb_L_law 978 = .ok (.iconst 0, 1) := by decide +kernel
theorem d_L_law_979 : decode mb_L_law 979 = .ok (.laload, 1) := by decide +kernel
theorem d_L_law_980 : decode mb_L_law 980 = .ok (.iload 6, 2) := by decide +kernel
theorem d_L_law_982 : decode mb_L_law 982 = .ok (.i2l, 1) := by decide +kernel
theorem d_L_law_983 : decode mb_L_law 983 = .ok (.lcmp, 1) := by decide +kernel
theorem d_L_law_984 : decode mb_L_law 984 = .ok (.ifCond .eq 5, 3) := by decide +kernel
theorem d_L_law_987 : decode mb_L_law 987 = .ok (.iconst 0, 1) := by decide +kernel
theorem d_L_law_988 : decode mb_L_law 988 = .ok (.ireturn, 1) := by decide +kernel
theorem d_L_law_989 : decode mb_L_law 989 = .ok (.goto 16, 3) := by decide +kernel
theorem d_L_law_992 : decode mb_L_law 992 = .ok (.aload_n 1, 1) := by decide +kernel
theorem d_L_law_993 : decode mb_L_law 993 = .ok (.invokevirtual 110, 3) := by decide +kernel
theorem d_L_law_996 : decode mb_L_law 996 = .ok (.aload_n 2, 1) := by decide +kernel
theorem d_L_law_997 : decode mb_L_law 997 = .ok (.invokevirtual 113, 3) := by decide +kernel
theorem d_L_law_1000 : decode mb_L_law 1000 = .ok (.if_icmp .eq 5, 3) := by decide +kernel
theorem d_L_law_1003 : decode mb_L_law 1003 = .ok (.iconst 0, 1) := by decide +kernel
theorem d_L_law_1004 : decode mb_L_law 1004 = .ok (.ireturn, 1) := by decide +kernel
theorem d_L_law_1005 : decode mb_L_law 1005 = .ok (.iinc 4 7, 3) := by decide +kernel
theorem d_L_law_1008 : decode mb_L_law 1008 = .ok (.goto (-975), 3) := by decide +kernel
theorem d_L_law_1011 : decode mb_L_law 1011 = .ok (.iconst 1, 1) := by decide +kernel
theorem d_L_law_1012 : decode mb_L_law 1012 = .ok (.ireturn, 1) := by decide +kernel
