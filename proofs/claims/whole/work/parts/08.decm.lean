theorem dX9_told_0 : decode cX9_told 0 = .ok (.iload_n 1, 1) := by decide +kernel
theorem dX9_told_1 : decode cX9_told 1 = .ok (.bipush 20, 2) := by decide +kernel
theorem dX9_told_3 : decode cX9_told 3 = .ok (.if_icmp .lt 29, 3) := by decide +kernel
theorem dX9_told_6 : decode cX9_told 6 = .ok (.aload_n 0, 1) := by decide +kernel
theorem dX9_told_7 : decode cX9_told 7 = .ok (.iload_n 1, 1) := by decide +kernel
theorem dX9_told_8 : decode cX9_told 8 = .ok (.bipush 20, 2) := by decide +kernel
theorem dX9_told_10 : decode cX9_told 10 = .ok (.isub, 1) := by decide +kernel
theorem dX9_told_11 : decode cX9_told 11 = .ok (.invokevirtual 64, 3) := by decide +kernel
theorem dX9_told_14 : decode cX9_told 14 = .ok (.ifCond .eq 15, 3) := by decide +kernel
theorem dX9_told_17 : decode cX9_told 17 = .ok (.aload_n 0, 1) := by decide +kernel
theorem dX9_told_18 : decode cX9_told 18 = .ok (.getfield 16, 3) := by decide +kernel
theorem dX9_told_21 : decode cX9_told 21 = .ok (.iload_n 1, 1) := by decide +kernel
theorem dX9_told_22 : decode cX9_told 22 = .ok (.bipush 20, 2) := by decide +kernel
theorem dX9_told_24 : decode cX9_told 24 = .ok (.isub, 1) := by decide +kernel
theorem dX9_told_25 : decode cX9_told 25 = .ok (.iaload, 1) := by decide +kernel
theorem dX9_told_26 : decode cX9_told 26 = .ok (.goto 5, 3) := by decide +kernel
theorem dX9_told_29 : decode cX9_told 29 = .ok (.bipush (-2), 2) := by decide +kernel
theorem dX9_told_31 : decode cX9_told 31 = .ok (.ireturn, 1) := by decide +kernel
theorem dX9_told_32 : decode cX9_told 32 = .ok (.iload_n 1, 1) := by decide +kernel
theorem dX9_told_33 : decode cX9_told 33 = .ok (.bipush 10, 2) := by decide +kernel
theorem dX9_told_35 : decode cX9_told 35 = .ok (.if_icmp .lt 29, 3) := by decide +kernel
theorem dX9_told_38 : decode cX9_told 38 = .ok (.iload_n 1, 1) := by decide +kernel
theorem dX9_told_39 : decode cX9_told 39 = .ok (.bipush 11, 2) := by decide +kernel
theorem dX9_told_41 : decode cX9_told 41 = .ok (.bipush 19, 2) := by decide +kernel
theorem dX9_told_43 : decode cX9_told 43 = .ok (.invokestatic 48, 3) := by decide +kernel
theorem dX9_told_46 : decode cX9_told 46 = .ok (.ifCond .eq 15, 3) := by decide +kernel
theorem dX9_told_49 : decode cX9_told 49 = .ok (.aload_n 0, 1) := by decide +kernel
theorem dX9_told_50 : decode cX9_told 50 = .ok (.getfield 19, 3) := by decide +kernel
theorem dX9_told_53 : decode cX9_told 53 = .ok (.iload_n 1, 1) := by decide +kernel
theorem dX9_told_54 : decode cX9_told 54 = .ok (.bipush 10, 2) := by decide +kernel
theorem dX9_told_56 : decode cX9_told 56 = .ok (.isub, 1) := by decide +kernel
theorem dX9_told_57 : decode cX9_told 57 = .ok (.iaload, 1) := by decide +kernel
theorem dX9_told_58 : decode cX9_told 58 = .ok (.goto 5, 3) := by decide +kernel
theorem dX9_told_61 : decode cX9_told 61 = .ok (.bipush (-2), 2) := by decide +kernel
theorem dX9_told_63 : decode cX9_told 63 = .ok (.ireturn, 1) := by decide +kernel
theorem dX9_told_64 : decode cX9_told 64 = .ok (.iload_n 1, 1) := by decide +kernel
theorem dX9_told_65 : decode cX9_told 65 = .ok (.tableswitch 45 0 2 #[27, 32, 37], 27) := by decide +kernel
theorem dX9_told_92 : decode cX9_told 92 = .ok (.aload_n 0, 1) := by decide +kernel
theorem dX9_told_93 : decode cX9_told 93 = .ok (.getfield 68, 3) := by decide +kernel
theorem dX9_told_96 : decode cX9_told 96 = .ok (.ireturn, 1) := by decide +kernel
theorem dX9_told_97 : decode cX9_told 97 = .ok (.aload_n 0, 1) := by decide +kernel
theorem dX9_told_98 : decode cX9_told 98 = .ok (.getfield 52, 3) := by decide +kernel
theorem dX9_told_101 : decode cX9_told 101 = .ok (.ireturn, 1) := by decide +kernel
theorem dX9_told_102 : decode cX9_told 102 = .ok (.aload_n 0, 1) := by decide +kernel
theorem dX9_told_103 : decode cX9_told 103 = .ok (.getfield 7, 3) := by decide +kernel
theorem dX9_told_106 : decode cX9_told 106 = .ok (.bipush 60, 2) := by decide +kernel
theorem dX9_told_108 : decode cX9_told 108 = .ok (.iaload, 1) := by decide +kernel
theorem dX9_told_109 : decode cX9_told 109 = .ok (.ireturn, 1) := by decide +kernel
theorem dX9_told_110 : decode cX9_told 110 = .ok (.iload_n 1, 1) := by decide +kernel
theorem dX9_told_111 : decode cX9_told 111 = .ok (.iconst 3, 1) := by decide +kernel
theorem dX9_told_112 : decode cX9_told 112 = .ok (.if_icmp .ne 10, 3) := by decide +kernel
theorem dX9_told_115 : decode cX9_told 115 = .ok (.aload_n 0, 1) := by decide +kernel
theorem dX9_told_116 : decode cX9_told 116 = .ok (.getfield 183, 3) := by decide +kernel
theorem dX9_told_119 : decode cX9_told 119 = .ok (.goto 5, 3) := by decide +kernel
theorem dX9_told_122 : decode cX9_told 122 = .ok (.bipush (-2), 2) := by decide +kernel
theorem dX9_told_124 : decode cX9_told 124 = .ok (.ireturn, 1) := by decide +kernel
